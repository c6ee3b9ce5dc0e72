-- by program (wip/gen/mkz.py)
-- SpoutNews$Thought.lastOnes(LSpoutNews$Texts;I)I
theorem k_Thought_lastOnes_l5 {g : zi_M} {p : Int} {K33 : Int → zi_M → Prop} {Q : Int → zi_M → Prop} (I : zk_I g) (hK : ∀ s : Int, ((-2147483648) ≤ s ∧ s ≤ 2147483647) → (0 ≤ p → p ≤ 9 → 0 ≤ s ∧ s ≤ 9 ∧ ∃ t : Nat, t ≤ 10 ∧ (∀ i : Nat, i ≤ t → zit (zeg g) i p ≠ -1) ∧ (t = 10 ∨ zeg g (zit (zeg g) t p) = -1) ∧ s = zit (zeg g) t p) → K33 s g) :
    ∀ (n : Nat) (l3 l4 : Int), (0 ≤ l4 ∧ l4 ≤ 10) → ((-2147483648) ≤ l3 ∧ l3 ≤ 2147483647) → (0 ≤ p → p ≤ 9 → l3 = zit (zeg g) l4.toNat p ∧ ∀ i : Nat, i ≤ l4.toNat → zit (zeg g) i p ≠ -1) → 10 - l4 < (n : Int) → w_Thought_lastOnes_l5 K33 Q n l3 l4 g
  | 0, l3, l4, b0, b1, b3, hm => by exfalso; omega
  | n + 1, l3, l4, b0, b1, b3, hm => by
    have hr : 0 ≤ p → p ≤ 9 → 0 ≤ l3 ∧ l3 ≤ 9 := fun a b => by
      obtain ⟨e, ne⟩ := b3 a b
      have lb := zit_B (zeg_b I) (p := p) ⟨by omega, b⟩ l4.toNat
      have w := ne _ (Nat.le_refl _)
      omega
    unfold w_Thought_lastOnes_l5
    refine ⟨⟨by omega, by omega⟩, fun c10 => hK l3 b1 (fun a b => ?_), fun c => ?_⟩
    · obtain ⟨e, ne⟩ := b3 a b
      have h := hr a b
      exact ⟨h.1, h.2, 10, Nat.le_refl _, fun i hi => ne i (by omega), Or.inl rfl, by rw [e, show l4.toNat = 10 by omega]⟩
    · refine k_Texts_gutterOf I b1 (fun v2 d1 d2 d3 => ?_)
      have ev := zeg_v d1 d2 d3
      have vb := zeg_b I l3
      rw [← ev] at vb
      refine ⟨⟨by omega, by omega⟩, fun e1 => hK l3 b1 (fun a b => ?_), fun ne1 => ?_⟩
      · obtain ⟨e, ne⟩ := b3 a b
        have h := hr a b
        exact ⟨h.1, h.2, l4.toNat, by omega, ne, Or.inr (by rw [← e, ← ev]; exact e1), e⟩
      · refine k_Texts_gutterOf I b1 (fun v6 f1 f2 f3 => ?_)
        have ew := zeg_v f1 f2 f3
        have wb := zeg_b I l3
        rw [← ew] at wb
        refine k_Thought_lastOnes_l5 I hK n v6 (l4 + 1) ⟨by omega, by omega⟩ ⟨by omega, by omega⟩ (fun a b => ?_) (by omega)
        obtain ⟨e, ne⟩ := b3 a b
        have e2 : v6 = zit (zeg g) (l4 + 1).toNat p := by
          rw [show (l4 + 1).toNat = l4.toNat + 1 by omega, ew, e]
          rfl
        refine ⟨e2, fun i hi => ?_⟩
        by_cases w : i ≤ l4.toNat
        · exact ne i w
        · rw [show i = (l4 + 1).toNat by omega, ← e2]
          omega
theorem k_Thought_lastOnes {l2 : Int} {g : zi_M} {Q : Int → zi_M → Prop} (I : zk_I g) (p2 : (-2147483648) ≤ l2 ∧ l2 ≤ 2147483647) (hQ : ∀ v : Int, ((-2147483648) ≤ v ∧ v ≤ 2147483647) → (0 ≤ l2 → l2 ≤ 9 → zeL (zeg g) l2 v) → Q v g) : w_Thought_lastOnes l2 g Q := by
  unfold w_Thought_lastOnes
  refine ⟨11, k_Thought_lastOnes_l5 (p := l2) I (fun s hs h => ?_) 11 l2 0 ⟨by decide, by decide⟩ p2 (fun a b => ⟨rfl, fun i hi => ?_⟩) (by decide)⟩
  · refine k_Thought_reach I hs (fun v hv hz => hQ v hv (fun a b => ?_))
    obtain ⟨s0, s9, t, t10, tn, tt, e⟩ := h a b
    exact ⟨t, t10, tn, tt, by rw [← e]; exact hz (by omega) s9⟩
  · have : i = 0 := by omega
    rw [this]
    show l2 ≠ -1
    omega

-- SpoutNews$Thought.endOf(LSpoutNews$Texts;I)I
theorem k_Thought_endOf_l13 {g : zi_M} {l3 : Int} {K38 : Int → zi_M → Prop} {Q : Int → zi_M → Prop} (hK : ∀ v : Int, 0 ≤ v → v ≤ 10 → (zBr l3 → (v < 10 → zB_ l3 v) ∧ ∀ j : Int, 0 ≤ j → j < v → ¬ zB_ l3 j) → K38 v g) :
    ∀ (n : Nat) (l4 l5 : Int), l4 = l5 → (0 ≤ l5 ∧ l5 ≤ 10) → (zBr l3 → ∀ j : Int, 0 ≤ j → j < l5 → ¬ zB_ l3 j) → 10 - l5 < (n : Int) → w_Thought_endOf_l13 l3 K38 Q n l4 l5 g
  | 0, l4, l5, e, b0, b1, hm => by exfalso; omega
  | n + 1, l4, l5, e, b0, b1, hm => by
    subst e
    unfold w_Thought_endOf_l13
    refine ⟨⟨by omega, by omega⟩, fun c => hK l4 b0.1 b0.2 (fun z => ⟨fun h => by exfalso; omega, b1 z⟩), fun c => ⟨fun ne => hK l4 b0.1 b0.2 (fun z => ⟨fun _ => ?_, b1 z⟩), fun e0 => ?_⟩⟩
    · rcases zB_01 z (k := l4) ⟨b0.1, by omega⟩ with h | h
      · exact absurd h ne
      · exact (zB_has z ⟨b0.1, by omega⟩).mp h
    · refine k_Thought_endOf_l13 hK n (l4 + 1) (l4 + 1) rfl ⟨by omega, by omega⟩ (fun z j j0 j1 => ?_) (by omega)
      by_cases w : j = l4
      · rw [w]
        intro h
        have h1 := (zB_has z ⟨b0.1, by omega⟩).mpr h
        omega
      · exact b1 z j j0 (by omega)
theorem k_Thought_endOf {l2 : Int} {g : zi_M} {Q : Int → zi_M → Prop} (I : zk_I g) (p2 : (-2147483648) ≤ l2 ∧ l2 ≤ 2147483647) (hQ : ∀ v : Int, (0 ≤ v) → (0 ≤ l2 → l2 ≤ 9 → zEo (zeg g) l2 v) → Q v g) : w_Thought_endOf l2 g Q := by
  unfold w_Thought_endOf
  refine k_Thought_lastOnes I p2 (fun m hm hz => ⟨11, ?_⟩)
  refine k_Thought_endOf_l13 (fun v v0 v10 h => hQ v v0 (fun a b => ?_)) 11 0 0 rfl ⟨by decide, by decide⟩ (fun _ j j0 j1 => by exfalso; omega) (by decide)
  have z := hz a b
  obtain ⟨t, -, -, -, zr⟩ := id z
  have k := h zr.1
  exact ⟨m, z, v0, v10, k.1, k.2⟩

-- SpoutNews$Thought.guttersToEnd(LSpoutNews$Texts;I)I
theorem k_Thought_guttersToEnd_l16 {g : zi_M} {p l3 : Int} {K55 : Int → zi_M → Prop} {Q : Int → zi_M → Prop} (I : zk_I g) (hK : ∀ v : Int, 0 ≤ v → v ≤ 10 → (0 ≤ p → p ≤ 9 → zBr l3 → (v < 10 → zit (zeg g) v.toNat p = -1 ∨ zB_ l3 (zit (zeg g) v.toNat p)) ∧ ∀ i : Nat, (i : Int) < v → ¬ zB_ l3 (zit (zeg g) i p)) → K55 v g) :
    ∀ (n : Nat) (l4 l5 l6 : Int), l5 = l6 → (0 ≤ l6 ∧ l6 ≤ 10) → ((-2147483648) ≤ l4 ∧ l4 ≤ 2147483647) → (0 ≤ p → p ≤ 9 → l4 = zit (zeg g) l6.toNat p ∧ (zBr l3 → ∀ i : Nat, (i : Int) < l6 → ¬ zB_ l3 (zit (zeg g) i p))) → 10 - l6 < (n : Int) → w_Thought_guttersToEnd_l16 l3 K55 Q n l4 l5 l6 g
  | 0, l4, l5, l6, e, b0, b1, b2, hm => by exfalso; omega
  | n + 1, l4, l5, l6, e, b0, b1, b2, hm => by
    subst e
    unfold w_Thought_guttersToEnd_l16
    refine ⟨⟨by omega, by omega⟩, fun c => hK l5 b0.1 b0.2 (fun a b z => ⟨fun h => by exfalso; omega, (b2 a b).2 z⟩), fun c => ⟨b1, fun e1 => hK l5 b0.1 b0.2 (fun a b z => ⟨fun _ => Or.inl (by rw [← (b2 a b).1]; exact e1), (b2 a b).2 z⟩), fun ne1 => ⟨fun nb => hK l5 b0.1 b0.2 (fun a b z => ⟨fun _ => Or.inr ?_, (b2 a b).2 z⟩), fun nb => ?_⟩⟩⟩
    · rw [← (b2 a b).1]
      have lb := zit_B (zeg_b I) (p := p) ⟨by omega, b⟩ l5.toNat
      rw [← (b2 a b).1] at lb
      rcases zB_01 z (k := l4) ⟨by omega, by omega⟩ with h | h
      · exact absurd h nb
      · exact (zB_has z ⟨by omega, by omega⟩).mp h
    · refine k_Texts_gutterOf I b1 (fun v6 d1 d2 d3 => ?_)
      have ev := zeg_v d1 d2 d3
      have vb := zeg_b I l4
      rw [← ev] at vb
      refine k_Thought_guttersToEnd_l16 I hK n v6 (l5 + 1) (l5 + 1) rfl ⟨by omega, by omega⟩ ⟨by omega, by omega⟩ (fun a b => ?_) (by omega)
      obtain ⟨e, ne⟩ := b2 a b
      refine ⟨by rw [show (l5 + 1).toNat = l5.toNat + 1 by omega, ev, e]; rfl, fun z i hi => ?_⟩
      by_cases w : (i : Int) < l5
      · exact ne z i w
      · have lb := zit_B (zeg_b I) (p := p) ⟨by omega, b⟩ l5.toNat
        rw [← e] at lb
        rw [show i = l5.toNat by omega, ← e]
        intro h
        have h1 := (zB_has z (k := l4) ⟨by omega, by omega⟩).mpr h
        omega
theorem k_Thought_guttersToEnd {l2 : Int} {g : zi_M} {Q : Int → zi_M → Prop} (I : zk_I g) (p2 : (-2147483648) ≤ l2 ∧ l2 ≤ 2147483647) (hQ : ∀ v : Int, (0 ≤ v) → (0 ≤ l2 → l2 ≤ 9 → zGo (zeg g) l2 v) → Q v g) : w_Thought_guttersToEnd l2 g Q := by
  unfold w_Thought_guttersToEnd
  refine k_Thought_lastOnes I p2 (fun m hm hz => ⟨11, ?_⟩)
  refine k_Thought_guttersToEnd_l16 (p := l2) I (fun v v0 v10 h => hQ v v0 (fun a b => ?_)) 11 l2 0 0 rfl ⟨by decide, by decide⟩ p2 (fun a b => ⟨rfl, fun _ i hi => by exfalso; omega⟩) (by decide)
  have z := hz a b
  obtain ⟨t, -, -, -, zr⟩ := id z
  have k := h a b zr.1
  exact ⟨m, z, v0, v10, k.1, k.2⟩

-- SpoutNews.ends(II)I
theorem k_S_ends {l1 : Int} {l2 : Int} {g : zi_M} {Q : Int → zi_M → Prop} (I : zk_I g) (p1 : (-2147483648) ≤ l1 ∧ l1 ≤ 2147483647) (p2 : (-2147483648) ≤ l2 ∧ l2 ≤ 2147483647) (hQ : ∀ v : Int, ((-1) ≤ v) → (0 ≤ l1 ∧ l1 < g 2 8 ∧ (l2 = 0 ∨ l2 = 1) → (l2 = 0 → zEo (zeg g) l1 v) ∧ (l2 = 1 → zGo (zeg g) l1 v)) → (¬ (0 ≤ l1 ∧ l1 < g 2 8 ∧ (l2 = 0 ∨ l2 = 1)) → v = -1) → Q v g) : w_S_ends l1 l2 g Q := by
  unfold w_S_ends
  have m_4 : 0 ≤ (g 2 8) ∧ (g 2 8) ≤ 10 := I.1 2 8
  refine k_World_isSpout rfl I p1 (fun v1 d1 d2 d3 => ?_)
  refine ⟨fun ne => ⟨p2, fun c0 c1 => hQ _ (by decide) (fun h => by exfalso; omega) (fun _ => rfl), fun c0 => ?_, fun c1 => ?_⟩, fun e => hQ _ (by decide) (fun h => by exfalso; omega) (fun _ => rfl)⟩
  · refine k_Thought_endOf I p1 (fun v v0 h => hQ v (by omega) (fun w => ⟨fun _ => h (by omega) (by omega), fun q => by exfalso; omega⟩) (fun w => by exfalso; omega))
  · refine k_Thought_guttersToEnd I p1 (fun v v0 h => hQ v (by omega) (fun w => ⟨fun q => by exfalso; omega, fun _ => h (by omega) (by omega)⟩) (fun w => by exfalso; omega))

-- SpoutNewsModel.isInRound(I)Z
theorem k_M_isInRound_l8 {g : zi_M} {l1 : Int} {K24 K38 : zi_M → Prop} {Q : Int → zi_M → Prop} (I : zk_I g) (p1 : 0 ≤ l1 ∧ l1 ≤ 9) (hK24 : zrd (zf g) l1 → K24 g) (hK38 : znr (zf g) l1 → K38 g) :
    ∀ (n : Nat) (l2 l3 : Int) (k : Nat), l3 = k → k ≤ 10 → l2 = zit (zf g) (k + 1) l1 → (∀ j : Nat, j ≤ k → zit (zf g) j l1 ≠ -1) → (∀ j : Nat, 1 ≤ j → j ≤ k → zit (zf g) j l1 ≠ l1) → 10 - l3 < (n : Int) → w_M_isInRound_l8 l1 K24 K38 Q n l2 l3 g
  | 0, l2, l3, k, h0, h1, h2, h3, h4, hm => by exfalso; omega
  | n + 1, l2, l3, k, h0, h1, h2, h3, h4, hm => by
    have b := zit_b I p1 (k + 1)
    rw [← h2] at b
    unfold w_M_isInRound_l8
    refine ⟨⟨by omega, by omega⟩, fun h10 => hK38 (fun q q1 q2 _ => h4 q q1 (by omega)), fun hl => ⟨⟨by omega, by omega⟩, fun e => hK38 (fun q q1 q2 hq => ?_), fun ne => ⟨⟨by omega, by omega⟩, fun nl => ?_, fun el => hK24 ⟨k + 1, by omega, by omega, by rw [← h2]; exact el, fun j hj => h3 j (by omega)⟩⟩⟩⟩
    · by_cases c : q ≤ k
      · exact h4 q q1 c
      · exact absurd (h2.symm.trans e) (hq (k + 1) (by omega))
    · refine k_M_into I ⟨by omega, by omega⟩ (fun v7 e7 => ?_)
      refine k_M_isInRound_l8 I p1 hK24 hK38 n v7 (l3 + 1) (k + 1) (by omega) (by omega) ?_ (fun j hj => ?_) (fun j j1 hj => ?_) (by omega)
      · show v7 = zf g (zit (zf g) (k + 1) l1)
        rw [← h2]; exact e7
      · by_cases c : j ≤ k
        · exact h3 j c
        · have : j = k + 1 := by omega
          rw [this, ← h2]; exact ne
      · by_cases c : j ≤ k
        · exact h4 j j1 c
        · have : j = k + 1 := by omega
          rw [this, ← h2]; exact nl
theorem k_M_isInRound {l1 : Int} {g : zi_M} {Q : Int → zi_M → Prop} (I : zk_I g) (p1 : 0 ≤ l1 ∧ l1 ≤ 9) (hQ : ∀ v : Int, (0 ≤ v ∧ v ≤ 1) → (¬ v = 0 → zrd (zf g) l1) → (v = 0 → znr (zf g) l1) → Q v g) : w_M_isInRound l1 g Q := by
  unfold w_M_isInRound
  refine k_M_into I p1 (fun v1 e1 => ⟨11, ?_⟩)
  refine k_M_isInRound_l8 I p1 (fun h => hQ 1 ⟨by decide, by decide⟩ (fun _ => h) (fun e => absurd e (by decide))) (fun h => hQ 0 ⟨by decide, by decide⟩ (fun n => absurd rfl n) (fun _ => h)) 11 v1 0 0 rfl (by decide) e1 (fun j hj => ?_) (fun j j1 hj => by omega) (by decide)
  have : j = 0 := by omega
  rw [this]
  show l1 ≠ -1
  omega

-- SpoutNewsModel.leastOfRound(I)I
theorem k_M_leastOfRound_l8 {g : zi_M} {l1 : Int} {K29 : Int → zi_M → Prop} {Q : Int → zi_M → Prop} (I : zk_I g) (p1 : 0 ≤ l1 ∧ l1 ≤ 9) {m : Nat} (hm1 : zit (zf g) m l1 = l1) (hm2 : ∀ j : Nat, j < m → zit (zf g) j l1 ≠ -1) (hK : ∀ v, 0 ≤ v → v ≤ 9 → (∃ k : Nat, 1 ≤ k ∧ zit (zf g) k l1 = l1 ∧ (∃ i : Nat, v = zit (zf g) i l1) ∧ ∀ i : Nat, i < k → v ≤ zit (zf g) i l1) → K29 v g) :
    ∀ (n : Nat) (l2 l3 : Int) (k : Nat), 0 ≤ l2 → l2 ≤ 9 → 1 ≤ k → k ≤ m → l3 = zit (zf g) k l1 → (∃ i : Nat, l2 = zit (zf g) i l1) → (∀ i : Nat, i < k → l2 ≤ zit (zf g) i l1) → m - k < n → w_M_leastOfRound_l8 l1 K29 Q n l2 l3 g
  | 0, l2, l3, k, h0, h1, h2, h3, h4, h5, h6, hn => absurd hn (Nat.not_lt_zero _)
  | n + 1, l2, l3, k, h0, h1, h2, h3, h4, h5, h6, hn => by
    have b := zit_b I p1 k
    rw [← h4] at b
    unfold w_M_leastOfRound_l8
    refine ⟨⟨by omega, by omega⟩, ⟨by omega, by omega⟩, fun e => hK l2 h0 h1 ⟨k, h2, by rw [← h4]; exact e, h5, h6⟩, fun ne => ?_⟩
    have km : k < m := by
      by_cases c : k = m
      · exact absurd (h4.trans (by rw [c]; exact hm1)) ne
      · omega
    have n3 : l3 ≠ -1 := by rw [h4]; exact hm2 k km
    refine k_M_lesser I ⟨by omega, by omega⟩ ⟨by omega, by omega⟩ (fun v6 c1 c2 => ?_)
    refine k_M_into I ⟨by omega, by omega⟩ (fun v9 e9 => ?_)
    refine k_M_leastOfRound_l8 I p1 hm1 hm2 hK n v6 v9 (k + 1) (by omega) (by omega) (by omega) (by omega) ?_ ?_ (fun i hi => ?_) (by omega)
    · show v9 = zf g (zit (zf g) k l1)
      rw [← h4]; exact e9
    · by_cases w : l3 ≤ l2
      · exact ⟨k, by rw [c1 w, h4]⟩
      · rw [c2 (by omega)]
        exact h5
    · by_cases w : i < k
      · have := h6 i w
        omega
      · rw [show i = k by omega, ← h4]
        omega
theorem k_M_leastOfRound {l1 : Int} {g : zi_M} {Q : Int → zi_M → Prop} (I : zk_I g) (p1 : 0 ≤ l1 ∧ l1 ≤ 9) (px0 : zrd (zf g) l1) (hQ : ∀ v : Int, (0 ≤ v ∧ v ≤ 9) → (∃ k : Nat, 1 ≤ k ∧ zit (zf g) k l1 = l1 ∧ (∃ i : Nat, v = zit (zf g) i l1) ∧ ∀ i : Nat, i < k → v ≤ zit (zf g) i l1) → Q v g) : w_M_leastOfRound l1 g Q := by
  unfold w_M_leastOfRound
  obtain ⟨m, m1, m2, m3, m4⟩ := px0
  refine k_M_into I p1 (fun v1 e1 => ⟨m + 1, ?_⟩)
  exact k_M_leastOfRound_l8 I p1 m3 m4 (fun v h0 h1 h => hQ v ⟨h0, h1⟩ h) (m + 1) l1 v1 1 p1.1 p1.2 (by decide) m1 e1 ⟨0, rfl⟩ (fun i hi => by rw [show i = 0 by omega]; exact Int.le_refl _) (by omega)

-- SpoutNewsModel.ends(II)I
theorem k_M_ends_l30 {g : zi_M} {p : Int} {K : Int → Int → zi_M → Prop} {Q : Int → zi_M → Prop} (I : zk_I g) (p1 : 0 ≤ p ∧ p ≤ 9) (hK : ∀ (a n : Int) (k : Nat), 0 ≤ a → a ≤ 9 → 0 ≤ n → n ≤ 9 → n = k → a = zit (zf g) k p → (∀ i : Nat, i ≤ k → zit (zf g) i p ≠ -1) → (∀ i : Nat, i < k → znr (zf g) (zit (zf g) i p)) → (zf g a = -1 ∨ zrd (zf g) a) → K a n g) :
    ∀ (n : Nat) (l3 l4 : Int) (k : Nat), l4 = k → k ≤ 10 → l3 = zit (zf g) k p → (∀ i : Nat, i ≤ k → zit (zf g) i p ≠ -1) → (∀ i : Nat, i < k → znr (zf g) (zit (zf g) i p)) → 10 - l4 < (n : Int) → w_M_ends_l30 K Q n l3 l4 g
  | 0, l3, l4, k, h0, h1, h2, h3, h4, hm => by exfalso; omega
  | n + 1, l3, l4, k, h0, h1, h2, h3, h4, hm => by
    by_cases k10 : k = 10
    · exfalso
      exact zit_ph I p1 (fun i hi => h3 i (by omega)) (fun i hi => h4 i (by omega))
    have b := zit_b I p1 k
    have nb := h3 k (Nat.le_refl _)
    rw [← h2] at b nb
    unfold w_M_ends_l30
    refine k_M_into I ⟨by omega, by omega⟩ (fun v8 e8 => ?_)
    have z8 : zf g l3 = v8 := e8.symm
    have b8 := zf_b I l3
    refine ⟨⟨by omega, by omega⟩, fun e => hK l3 l4 k (by omega) (by omega) (by omega) (by omega) h0 h2 h3 h4 (Or.inl (by omega)), fun ne => ?_⟩
    refine k_M_isInRound I ⟨by omega, by omega⟩ (fun v12 hv12 hr hn => ⟨fun n12 => hK l3 l4 k (by omega) (by omega) (by omega) (by omega) h0 h2 h3 h4 (Or.inr (hr n12)), fun e12 => ?_⟩)
    refine k_M_into I ⟨by omega, by omega⟩ (fun v15 e15 => ?_)
    have z15 : zf g l3 = v15 := e15.symm
    have s : zit (zf g) (k + 1) p = v15 := by
      show zf g (zit (zf g) k p) = v15
      rw [← h2]; exact z15
    refine k_M_ends_l30 I p1 hK n v15 (l4 + 1) (k + 1) (by omega) (by omega) s.symm (fun i hi => ?_) (fun i hi => ?_) (by omega)
    · by_cases c : i ≤ k
      · exact h3 i c
      · have : i = k + 1 := by omega
        rw [this, s]; omega
    · by_cases c : i < k
      · exact h4 i c
      · have : i = k := by omega
        rw [this, ← h2]; exact hn e12
theorem k_M_ends {l1 : Int} {l2 : Int} {g : zi_M} {Q : Int → zi_M → Prop} (I : zk_I g) (p1 : (-2147483648) ≤ l1 ∧ l1 ≤ 2147483647) (p2 : (-2147483648) ≤ l2 ∧ l2 ≤ 2147483647) (hQ : ∀ (v : Int) (g' : zi_M), zk_I g' → zk_fr fr_M_ends g g' → ((-2147483648) ≤ v) → (0 ≤ l1 ∧ l1 < g 214 6 ∧ (l2 = 0 ∨ l2 = 1) → zEr (zf g) l1 l2 v) → (¬ (0 ≤ l1 ∧ l1 < g 214 6 ∧ (l2 = 0 ∨ l2 = 1)) → v = -1) → Q v g') : w_M_ends l1 l2 g Q := by
  unfold w_M_ends
  intro g1 e1
  have I1 : zk_I g1 := by rw [e1]; exact zk_upd (L := -2147483648) (H := 2147483647) rfl rfl I ⟨by decide, by decide⟩
  have F1 : zk_fr fr_M_ends g g1 := by rw [e1]; exact zk_fu (zk_f0 _) ⟨rfl, rfl⟩
  have r6 : 0 ≤ g1 214 6 ∧ g1 214 6 ≤ 10 := I1.1 214 6
  have q6 : g1 214 6 = g 214 6 := by rw [e1]; exact zi_u_ni (by decide)
  have qf : zf g1 = zf g := funext fun k => by
    have h : g1 232 k = g 232 k := by rw [e1]; exact zi_u_ne (by decide)
    unfold zf
    rw [h]
  refine k_M_isSpout I1 p1 (fun v2 a1 a2 a3 => ⟨fun n2 => hQ _ _ I1 F1 (by decide) (fun h => by exfalso; omega) (fun _ => rfl), fun n2 => ?_⟩)
  refine k_M_isIn I1 p2 ⟨by decide, by decide⟩ ⟨by decide, by decide⟩ (fun v5 b1 b2 b3 => ⟨fun n5 => ⟨11, ?_⟩, fun n5 => hQ _ _ I1 F1 (by decide) (fun h => by exfalso; omega) (fun _ => rfl)⟩)
  have hl : 0 ≤ l1 ∧ l1 < g 214 6 ∧ (l2 = 0 ∨ l2 = 1) := by omega
  refine k_M_ends_l30 (p := l1) I1 ⟨by omega, by omega⟩ (fun a n k a0 a1 n0 n1 en ea hne hnr h => ?_) 11 l1 0 0 rfl (by decide) rfl (fun i hi => ?_) (fun i hi => absurd hi (Nat.not_lt_zero _)) (by decide)
  · unfold w_M_ends_b62
    have fin : ∀ v : Int, (-2147483648) ≤ v → (l2 = 1 → v = n) → (¬ l2 = 1 → (zf g1 a = -1 → v = a) ∧ (¬ zf g1 a = -1 → ∃ k : Nat, 1 ≤ k ∧ zit (zf g1) k a = a ∧ (∃ i : Nat, v = zit (zf g1) i a) ∧ ∀ i : Nat, i < k → v ≤ zit (zf g1) i a)) → Q v g1 := fun v v0 w1 w2 => by
      refine hQ _ _ I1 F1 v0 (fun _ => ?_) (fun w => absurd hl w)
      rw [← qf]
      refine ⟨k, by omega, hne, hnr, by rw [← ea]; exact h, fun q => by rw [w1 q, en], fun q => ?_⟩
      rw [← ea]
      exact w2 q
    refine ⟨p2, fun nl => ?_, fun q => fin n (by omega) (fun _ => rfl) (fun w => absurd q w)⟩
    refine k_M_into I1 ⟨a0, a1⟩ (fun v24 e24 => ?_)
    have z : zf g1 a = v24 := e24.symm
    have b8 := zf_b I1 a
    refine ⟨⟨by omega, by omega⟩, fun ne => ?_, fun e => fin a (by omega) (fun w => absurd w nl) (fun _ => ⟨fun _ => rfl, fun w => absurd (z.trans e) w⟩)⟩
    have hr : zrd (zf g1) a := by
      rcases h with h | h
      · exact absurd (z.symm.trans h) ne
      · exact h
    exact k_M_leastOfRound I1 ⟨a0, a1⟩ hr (fun v hv hx => fin v (by omega) (fun w => absurd w nl) (fun _ => ⟨fun w => absurd (z.symm.trans w) ne, fun _ => hx⟩))
  · have : i = 0 := by omega
    rw [this]
    show l1 ≠ -1
    omega

-- SpoutNews$Thought.allEnds(LSpoutNews$World;LSpoutNews$Texts;)I
set_option maxRecDepth 100000 in
set_option maxHeartbeats 4000000 in
theorem k_Thought_allEnds_l5 {g : zi_M} (I : zk_I g) {K32 : Int → zi_M → Prop} {Q : Int → zi_M → Prop} (hK32 : ∀ (k3 : Int), ((-2147483648) ≤ k3 ∧ k3 ≤ 2147483647) → (zAE (zeg g) (g 2 8) k3) → K32 k3 g) (hQ : ∀ v : Int, ((-2147483648) ≤ v ∧ v ≤ 2147483647) → (zAE (zeg g) (g 2 8) v) → Q v g) : ∀ (n : Nat) {l3 : Int} {l4 : Int}, ((-2147483648) ≤ l3 ∧ l3 ≤ 2147483647) → (0 ≤ l4 ∧ l4 ≤ 10) → (l4 ≤ g 2 8) → (zAE (zeg g) l4 l3) → 10 - l4 < (n : Int) → w_Thought_allEnds_l5 K32 Q n l3 l4 g
  | 0, l3, l4, b0, b1, b2, b3, hm => by exfalso; omega
  | n + 1, l3, l4, b0, b1, b2, b3, hm => by
    unfold w_Thought_allEnds_l5
    have m_1 : 0 ≤ (g 2 8) ∧ (g 2 8) ≤ 10 := I.1 2 8
    refine ⟨⟨by omega, by omega⟩, ⟨by omega, by omega⟩, ?_⟩
    refine ⟨fun c6 => ?_, fun c6 => ?_⟩
    · exact hK32 _ ⟨by omega, by omega⟩ (by exact zAE_x (by assumption) (by omega))
    · refine k_Thought_endOf I ⟨by omega, by omega⟩ (fun v3 b_2 b_3 => ?_)
      have m_4 := zi_r_shl 1 v3
      try have m_5 := (zi_shl_f v3).2.1 ⟨by omega, by omega⟩
      first | have m_6 := (zi_shl_f v3).2.2.1 ⟨by omega, by omega⟩ | have m_7 := (zi_shl_f v3).2.2.2.1 ⟨by omega, by omega⟩ | have m_8 := (zi_shl_f v3).2.2.2.2.1 ⟨by omega, by omega⟩ | have m_9 := (zi_shl_f v3).2.2.2.2.2.1 ⟨by omega, by omega⟩ | have m_10 := (zi_shl_f v3).2.2.2.2.2.2 ⟨by omega, by omega⟩ | skip
      first | have m_11 := (zi_or_f l3 (zi_shl 1 v3)).2.1 ⟨by omega, by omega, by omega, by omega⟩ | have m_11 := (zi_or_f l3 (zi_shl 1 v3)).2.2.1 ⟨by omega, by omega, by omega, by omega⟩ | have m_11 := (zi_or_f l3 (zi_shl 1 v3)).2.2.2.1 ⟨by omega, by omega, by omega, by omega⟩ | have m_11 := (zi_or_f l3 (zi_shl 1 v3)).2.2.2.2.1 ⟨by omega, by omega, by omega, by omega⟩ | have m_11 := (zi_or_f l3 (zi_shl 1 v3)).2.2.2.2.2 ⟨by omega, by omega, by omega, by omega⟩ | have m_11 := zi_r_or l3 (zi_shl 1 v3)
      exact k_Thought_allEnds_l5 I hK32 hQ n ⟨by omega, by omega⟩ ⟨by omega, by omega⟩ (by omega) (by first | exact zAE_s (by assumption) (by omega) (by omega) (by assumption) | exact zAE_0) (by omega)
set_option maxRecDepth 100000 in
set_option maxHeartbeats 4000000 in
theorem k_Thought_allEnds {g : zi_M} {Q : Int → zi_M → Prop} (I : zk_I g) (hQ : ∀ v : Int, ((-2147483648) ≤ v ∧ v ≤ 2147483647) → (zAE (zeg g) (g 2 8) v) → Q v g) : w_Thought_allEnds g Q := by
  unfold w_Thought_allEnds
  have m_14 : 0 ≤ (g 2 8) ∧ (g 2 8) ≤ 10 := I.1 2 8
  refine ⟨((10 - 0 : Int).toNat + 1), k_Thought_allEnds_l5 I (fun k7 b_12 b_13 => ?_) hQ ((10 - 0 : Int).toNat + 1) ⟨by omega, by omega⟩ ⟨by omega, by omega⟩ (by omega) (by first | exact zAE_s (by assumption) (by omega) (by omega) (by assumption) | exact zAE_0) (by omega)⟩
  exact hQ _ ⟨by omega, by omega⟩ (by assumption)
-- java/lang/Integer.bitCount(I)I
set_option maxRecDepth 100000 in
set_option maxHeartbeats 4000000 in
theorem k_Integer_bitCount {l0 : Int} {g : zi_M} {Q : Int → zi_M → Prop} (I : zk_I g) (p0 : (-2147483648) ≤ l0 ∧ l0 ≤ 2147483647) (hQ : ∀ v : Int, (0 ≤ v ∧ v ≤ 63) → (0 ≤ l0 → l0 ≤ 65535 → v = zpc l0 z16) → Q v g) : w_Integer_bitCount l0 g Q := by
  unfold w_Integer_bitCount
  have m_1 := zi_ush_f l0 1
  have m_2 := zi_r_and (zi_ush l0 1) 1431655765
  try have m_3 := (zi_and_f (zi_ush l0 1) 1431655765).2.1 ⟨by omega, by omega⟩
  try have m_4 := (zi_and_f (zi_ush l0 1) 1431655765).2.2 ⟨by omega, by omega⟩
  have m_5 := zi_r_and (l0 - (zi_and (zi_ush l0 1) 1431655765)) 858993459
  try have m_6 := (zi_and_f (l0 - (zi_and (zi_ush l0 1) 1431655765)) 858993459).2.1 ⟨by omega, by omega⟩
  try have m_7 := (zi_and_f (l0 - (zi_and (zi_ush l0 1) 1431655765)) 858993459).2.2 ⟨by omega, by omega⟩
  have m_8 := zi_ush_f (l0 - (zi_and (zi_ush l0 1) 1431655765)) 2
  have m_9 := zi_r_and (zi_ush (l0 - (zi_and (zi_ush l0 1) 1431655765)) 2) 858993459
  try have m_10 := (zi_and_f (zi_ush (l0 - (zi_and (zi_ush l0 1) 1431655765)) 2) 858993459).2.1 ⟨by omega, by omega⟩
  try have m_11 := (zi_and_f (zi_ush (l0 - (zi_and (zi_ush l0 1) 1431655765)) 2) 858993459).2.2 ⟨by omega, by omega⟩
  intro y1 e_22
  have m_12 := zi_ush_f y1 4
  have m_13 := zi_r_and (y1 + (zi_ush y1 4)) 252645135
  try have m_14 := (zi_and_f (y1 + (zi_ush y1 4)) 252645135).2.1 ⟨by omega, by omega⟩
  try have m_15 := (zi_and_f (y1 + (zi_ush y1 4)) 252645135).2.2 ⟨by omega, by omega⟩
  have m_16 := zi_ush_f (zi_and (y1 + (zi_ush y1 4)) 252645135) 8
  intro y2 e_21
  have m_17 := zi_ush_f y2 16
  have m_18 := zi_r_and (y2 + (zi_ush y2 16)) 63
  try have m_19 := (zi_and_f (y2 + (zi_ush y2 16)) 63).2.1 ⟨by omega, by omega⟩
  try have m_20 := (zi_and_f (y2 + (zi_ush y2 16)) 63).2.2 ⟨by omega, by omega⟩
  exact hQ _ ⟨by omega, by omega⟩ (by intro h0 h1; exact zbc h0 h1 (by assumption) (by assumption))
-- SpoutNews.catches(I)I
set_option maxRecDepth 100000 in
set_option maxHeartbeats 4000000 in
theorem k_S_catches_b11 {l1 : Int} {Q : Int → zi_M → Prop} {g : zi_M} (I : zk_I g) (p1 : 0 ≤ l1 ∧ l1 ≤ 1) (ix0 : l1 = 0 ∨ l1 = 1) (hQ : ∀ v : Int, ((-2147483648) ≤ v ∧ v ≤ 2147483647) → (zcaS g l1 v) → Q v g) : w_S_catches_b11 l1 g Q := by
  unfold w_S_catches_b11
  have m_1 : 0 ≤ (g 2 8) ∧ (g 2 8) ≤ 10 := I.1 2 8
  refine k_Thought_allEnds I (fun v2 b_2 b_3 => ?_)
  refine ⟨⟨by omega, by omega⟩, ?_⟩
  refine ⟨fun c9 => ?_, fun c9 => ?_⟩
  · exact hQ _ ⟨by omega, by omega⟩ (by first | exact zcaS_0 (by assumption) (by assumption) (by assumption) | exact zcaS_1 (by assumption) (by assumption) (by omega) | exact zcaS_n (by omega))
  · refine k_Integer_bitCount I ⟨by omega, by omega⟩ (fun v6 b_4 b_5 => ?_)
    exact hQ _ ⟨by omega, by omega⟩ (by first | exact zcaS_0 (by assumption) (by assumption) (by assumption) | exact zcaS_1 (by assumption) (by assumption) (by omega) | exact zcaS_n (by omega))
set_option maxRecDepth 100000 in
set_option maxHeartbeats 4000000 in
theorem k_S_catches {l1 : Int} {g : zi_M} {Q : Int → zi_M → Prop} (I : zk_I g) (p1 : (-2147483648) ≤ l1 ∧ l1 ≤ 2147483647) (hQ : ∀ v : Int, ((-2147483648) ≤ v ∧ v ≤ 2147483647) → (zcaS g l1 v) → Q v g) : w_S_catches l1 g Q := by
  unfold w_S_catches
  refine ⟨⟨by omega, by omega⟩, ?_⟩
  refine ⟨fun c11 => ?_, fun c11 => ?_⟩
  · exact k_S_catches_b11 I ⟨by omega, by omega⟩ (by omega) hQ
  · refine ⟨fun c10 => ?_, fun c10 => ?_⟩
    · exact k_S_catches_b11 I ⟨by omega, by omega⟩ (by omega) hQ
    · exact hQ _ ⟨by omega, by omega⟩ (by first | exact zcaS_0 (by assumption) (by assumption) (by assumption) | exact zcaS_1 (by assumption) (by assumption) (by omega) | exact zcaS_n (by omega))
-- SpoutNewsModel.onesOf(I)I
set_option maxRecDepth 100000 in
set_option maxHeartbeats 4000000 in
theorem k_M_onesOf_l4 {l1 : Int} {g : zi_M} (I : zk_I g) {x1 : Int} {K21 : Int → zi_M → Prop} {Q : Int → zi_M → Prop} (hK21 : ∀ (k2 : Int), (0 ≤ k2 ∧ k2 ≤ 65535) → (k2 = zpc x1 z16) → K21 k2 g) (hQ : ∀ v : Int, (0 ≤ v ∧ v ≤ 65535) → (v = zpc l1 z16) → Q v g) : ∀ (n : Nat) {l2 : Int} {l3 : Int}, (0 ≤ l2 ∧ l2 ≤ 65535) → (0 ≤ l3 ∧ l3 ≤ 65535) → (l2 + l3 ≤ 65535) → (l2 + zpc l3 z16 = zpc x1 z16) → l3 < (n : Int) → w_M_onesOf_l4 K21 Q n l2 l3 g
  | 0, l2, l3, b0, b1, b2, b3, hm => by exfalso; omega
  | n + 1, l2, l3, b0, b1, b2, b3, hm => by
    unfold w_M_onesOf_l4
    refine ⟨⟨by omega, by omega⟩, ?_⟩
    refine ⟨fun c2 => ?_, fun c2 => ?_⟩
    · exact hK21 _ ⟨by omega, by omega⟩ (by exact zof_x (by assumption) (by assumption))
    · have m_1 := zi_r_and l3 (l3 - 1)
      try have m_2 := (zi_and_f l3 (l3 - 1)).2.1 ⟨by omega, by omega⟩
      try have m_3 := (zi_and_f l3 (l3 - 1)).2.2 ⟨by omega, by omega⟩
      exact k_M_onesOf_l4 I hK21 hQ n ⟨by omega, by omega⟩ ⟨by omega, by omega⟩ (by omega) (by first | exact Int.zero_add _ | exact zof_st (by assumption) (by assumption) (by assumption)) (by omega)
set_option maxRecDepth 100000 in
set_option maxHeartbeats 4000000 in
theorem k_M_onesOf {l1 : Int} {g : zi_M} {Q : Int → zi_M → Prop} (I : zk_I g) (p1 : 0 ≤ l1 ∧ l1 ≤ 65535) (hQ : ∀ v : Int, (0 ≤ v ∧ v ≤ 65535) → (v = zpc l1 z16) → Q v g) : w_M_onesOf l1 g Q := by
  unfold w_M_onesOf
  refine ⟨((l1 : Int).toNat + 1), k_M_onesOf_l4 (x1 := l1) I (fun k3 b_4 b_5 => ?_) hQ ((l1 : Int).toNat + 1) ⟨by omega, by omega⟩ ⟨by omega, by omega⟩ (by omega) (by first | exact Int.zero_add _ | exact zof_st (by assumption) (by assumption) (by assumption)) (by omega)⟩
  exact hQ _ ⟨by omega, by omega⟩ (by assumption)
-- SpoutNewsModel.catchesAll(I)Z
set_option maxRecDepth 100000 in
set_option maxHeartbeats 4000000 in
theorem k_M_catchesAll_l2 {g : zi_M} (I : zk_I g) {l1 : Int} {K20 : zi_M → Prop} {K28 : zi_M → Prop} {Q : Int → zi_M → Prop} (q1 : 0 ≤ l1) (hK20 : (zCn (zf g) (g 214 6) l1) → K20 g) (hK28 : (zCi (zf g) (g 214 6) l1) → K28 g) (hQ : ∀ v : Int, (0 ≤ v ∧ v ≤ 1) → (¬ v = 0 → zCi (zf g) (g 214 6) l1) → (v = 0 → zCn (zf g) (g 214 6) l1) → Q v g) : ∀ (n : Nat) {l2 : Int}, (0 ≤ l2 ∧ l2 ≤ 10) → (l2 ≤ g 214 6) → (zCi (zf g) l2 l1) → 10 - l2 < (n : Int) → w_M_catchesAll_l2 l1 K20 K28 Q n l2 g
  | 0, l2, b0, b1, b2, hm => by exfalso; omega
  | n + 1, l2, b0, b1, b2, hm => by
    unfold w_M_catchesAll_l2
    have m_1 : 0 ≤ (g 214 6) ∧ (g 214 6) ≤ 10 := I.1 214 6
    refine ⟨⟨by omega, by omega⟩, ⟨by omega, by omega⟩, ?_⟩
    refine ⟨fun c7 => ?_, fun c7 => ?_⟩
    · exact hK28 (by exact zCi_x (by assumption) (by omega))
    · refine k_M_passedFrom I ⟨by omega, by omega⟩ (fun v3 b_2 b_3 => ?_)
      have m_4 := zi_r_and v3 l1
      try have m_5 := (zi_and_f v3 l1).2.1 ⟨by omega, by omega⟩
      try have m_6 := (zi_and_f v3 l1).2.2 ⟨by omega, by omega⟩
      refine ⟨fun c6 => ?_, fun c6 => ?_⟩
      · exact k_M_catchesAll_l2 I q1 hK20 hK28 hQ n ⟨by omega, by omega⟩ (by omega) (by first | exact zCi_s (by assumption) (by assumption) (by assumption) | exact zCi_0) (by omega)
      · exact hK20 (by exact zCn_y (by assumption) (by assumption) (by omega) (by omega))
set_option maxRecDepth 100000 in
set_option maxHeartbeats 4000000 in
theorem k_M_catchesAll {l1 : Int} {g : zi_M} {Q : Int → zi_M → Prop} (I : zk_I g) (p1 : 0 ≤ l1) (hQ : ∀ v : Int, (0 ≤ v ∧ v ≤ 1) → (¬ v = 0 → zCi (zf g) (g 214 6) l1) → (v = 0 → zCn (zf g) (g 214 6) l1) → Q v g) : w_M_catchesAll l1 g Q := by
  unfold w_M_catchesAll
  have m_9 : 0 ≤ (g 214 6) ∧ (g 214 6) ≤ 10 := I.1 214 6
  refine ⟨((10 - 0 : Int).toNat + 1), k_M_catchesAll_l2 (l1 := l1) I (by omega) (fun b_7 => ?_) (fun b_8 => ?_) hQ ((10 - 0 : Int).toNat + 1) ⟨by omega, by omega⟩ (by omega) (by first | exact zCi_s (by assumption) (by assumption) (by assumption) | exact zCi_0) (by omega)⟩
  · exact hQ _ ⟨by omega, by omega⟩ (by first | exact fun _ => by assumption | exact fun hx => absurd rfl hx) (by first | exact fun _ => by assumption | exact fun hx => absurd hx (by decide))
  · exact hQ _ ⟨by omega, by omega⟩ (by first | exact fun _ => by assumption | exact fun hx => absurd rfl hx) (by first | exact fun _ => by assumption | exact fun hx => absurd hx (by decide))
-- SpoutNewsModel.catches(I)I
set_option maxRecDepth 100000 in
set_option maxHeartbeats 4000000 in
theorem k_M_catches_l28 {l1 : Int} {K67 : Int → zi_M → Prop} {Q : Int → zi_M → Prop} {g0 : zi_M} (hK67 : ∀ (k2 : Int) (g : zi_M), zk_I g → zk_fr fr_M_catches g0 g → (0 ≤ k2 ∧ k2 ≤ 1023) → (zCs (zvCt (zf g0) (g0 214 6)) (zi_shl 1 (g0 214 6)) (zi_shl 1 (g0 214 6)) k2) → K67 k2 g) (hQ : ∀ (v : Int) (g' : zi_M), zk_I g' → zk_fr fr_M_catches g0 g' → ((-1) ≤ v ∧ v ≤ 65535) → (zcaM g0 l1 v) → Q v g') : ∀ (n : Nat) {l2 : Int} {l3 : Int} {g : zi_M}, zk_I g → zk_fr fr_M_catches g0 g → (0 ≤ l2 ∧ l2 ≤ 1023) → (0 ≤ l3 ∧ l3 ≤ 1024) → (l3 ≤ zi_shl 1 (g0 214 6)) → (zCg g0 l3 l2) → 1024 - l3 < (n : Int) → w_M_catches_l28 K67 Q n l2 l3 g
  | 0, l2, l3, g, I, F, b0, b1, b2, b3, hm => by exfalso; omega
  | n + 1, l2, l3, g, I, F, b0, b1, b2, b3, hm => by
    unfold w_M_catches_l28
    refine ⟨⟨by omega, by omega⟩, ?_⟩
    have m_7 : 0 ≤ (g 214 6) ∧ (g 214 6) ≤ 10 := I.1 214 6
    have m_8 := zi_r_shl 1 (g 214 6)
    try have m_9 := (zi_shl_f (g 214 6)).2.1 ⟨by omega, by omega⟩
    first | have m_10 := (zi_shl_f (g 214 6)).2.2.1 ⟨by omega, by omega⟩ | have m_11 := (zi_shl_f (g 214 6)).2.2.2.1 ⟨by omega, by omega⟩ | have m_12 := (zi_shl_f (g 214 6)).2.2.2.2.1 ⟨by omega, by omega⟩ | have m_13 := (zi_shl_f (g 214 6)).2.2.2.2.2.1 ⟨by omega, by omega⟩ | have m_14 := (zi_shl_f (g 214 6)).2.2.2.2.2.2 ⟨by omega, by omega⟩ | skip
    refine ⟨fun c19 => ?_, fun c19 => ?_⟩
    · exact hK67 _ _ I F ⟨by omega, by omega⟩ (by exact zCg_x (by assumption) I F (by assumption) (by assumption))
    · refine k_M_onesOf I ⟨by omega, by omega⟩ (fun v6 b_15 b_16 => ?_)
      refine k_M_onesOf I ⟨by omega, by omega⟩ (fun v9 b_17 b_18 => ?_)
      refine ⟨⟨by omega, by omega⟩, ⟨by omega, by omega⟩, ?_⟩
      refine ⟨fun c18 => ?_, fun c18 => ?_⟩
      · exact k_M_catches_l28 hK67 hQ n I F ⟨by omega, by omega⟩ ⟨by omega, by omega⟩ (by first | assumption | exact zCg_l F (by assumption) | exact zCg_z (by assumption) (by assumption)) (by first | exact zCg_y (by assumption) F (by omega) (by assumption) (by omega) (by assumption) (by assumption) (by assumption) (by assumption) (by assumption) | exact zCg_n (by assumption) F (by omega) (by omega) (by assumption) (by assumption) | exact zCg_k (by assumption) (by assumption) (by assumption) (by assumption) | exact zCg_0 (by assumption) (by assumption)) (by omega)
      · refine k_M_catchesAll I (by omega) (fun v14 b_19 b_20 b_21 => ?_)
        refine ⟨fun c17 => ?_, fun c17 => ?_⟩
        · exact k_M_catches_l28 hK67 hQ n I F ⟨by omega, by omega⟩ ⟨by omega, by omega⟩ (by first | assumption | exact zCg_l F (by assumption) | exact zCg_z (by assumption) (by assumption)) (by first | exact zCg_y (by assumption) F (by omega) (by assumption) (by omega) (by assumption) (by assumption) (by assumption) (by assumption) (by assumption) | exact zCg_n (by assumption) F (by omega) (by omega) (by assumption) (by assumption) | exact zCg_k (by assumption) (by assumption) (by assumption) (by assumption) | exact zCg_0 (by assumption) (by assumption)) (by omega)
        · exact k_M_catches_l28 hK67 hQ n I F ⟨by omega, by omega⟩ ⟨by omega, by omega⟩ (by first | assumption | exact zCg_l F (by assumption) | exact zCg_z (by assumption) (by assumption)) (by first | exact zCg_y (by assumption) F (by omega) (by assumption) (by omega) (by assumption) (by assumption) (by assumption) (by assumption) (by assumption) | exact zCg_n (by assumption) F (by omega) (by omega) (by assumption) (by assumption) | exact zCg_k (by assumption) (by assumption) (by assumption) (by assumption) | exact zCg_0 (by assumption) (by assumption)) (by omega)
set_option maxRecDepth 100000 in
set_option maxHeartbeats 4000000 in
theorem k_M_catches {l1 : Int} {g : zi_M} {Q : Int → zi_M → Prop} (I : zk_I g) (p1 : (-2147483648) ≤ l1 ∧ l1 ≤ 2147483647) (hQ : ∀ (v : Int) (g' : zi_M), zk_I g' → zk_fr fr_M_catches g g' → ((-1) ≤ v ∧ v ≤ 65535) → (zcaM g l1 v) → Q v g') : w_M_catches l1 g Q := by
  unfold w_M_catches
  intro g1 e_1
  have I_2 : zk_I g1 := by rw [e_1]; exact zk_upd (L := (-2147483648)) (H := 2147483647) rfl rfl I ⟨by omega, by omega⟩
  have F_3 : zk_fr fr_M_catches g g1 := by rw [e_1]; exact zk_fu (zk_f0 _) ⟨rfl, rfl⟩
  refine k_M_isIn I_2 ⟨by omega, by omega⟩ ⟨by omega, by omega⟩ ⟨by omega, by omega⟩ (fun v2 b_4 b_5 b_6 => ?_)
  refine ⟨fun c28 => ?_, fun c28 => ?_⟩
  · have m_28 : 0 ≤ (g1 214 6) ∧ (g1 214 6) ≤ 10 := I_2.1 214 6
    have m_29 : g1 214 6 = g 214 6 := by rw [e_1]; exact zi_u_ni (by decide)
    have m_30 : 0 ≤ (g 214 6) ∧ (g 214 6) ≤ 10 := I.1 214 6
    have m_31 := zi_r_shl 1 (g1 214 6)
    try have m_32 := (zi_shl_f (g1 214 6)).2.1 ⟨by omega, by omega⟩
    first | have m_33 := (zi_shl_f (g1 214 6)).2.2.1 ⟨by omega, by omega⟩ | have m_34 := (zi_shl_f (g1 214 6)).2.2.2.1 ⟨by omega, by omega⟩ | have m_35 := (zi_shl_f (g1 214 6)).2.2.2.2.1 ⟨by omega, by omega⟩ | have m_36 := (zi_shl_f (g1 214 6)).2.2.2.2.2.1 ⟨by omega, by omega⟩ | have m_37 := (zi_shl_f (g1 214 6)).2.2.2.2.2.2 ⟨by omega, by omega⟩ | skip
    refine ⟨((1024 - 0 : Int).toNat + 1), k_M_catches_l28 (fun k20 g21 I_22 F_23 b_24 b_25 => ?_) hQ ((1024 - 0 : Int).toNat + 1) I_2 F_3 ⟨by omega, by omega⟩ ⟨by omega, by omega⟩ (by first | assumption | exact zCg_l F (by assumption) | exact zCg_z (by assumption) (by assumption)) (by first | exact zCg_y (by assumption) F (by omega) (by assumption) (by omega) (by assumption) (by assumption) (by assumption) (by assumption) (by assumption) | exact zCg_n (by assumption) F (by omega) (by omega) (by assumption) (by assumption) | exact zCg_k (by assumption) (by assumption) (by assumption) (by assumption) | exact zCg_0 (by assumption) (by assumption)) (by omega)⟩
    refine ⟨⟨by omega, by omega⟩, ?_⟩
    refine ⟨fun c26 => ?_, fun c26 => ?_⟩
    · exact hQ _ _ I_22 F_23 ⟨by omega, by omega⟩ (by first | exact zcaM_0 (by assumption) (by assumption) (by assumption) | exact zcaM_1 (by assumption) (by assumption) (by omega) | exact zcaM_n (by omega))
    · refine k_M_onesOf I_22 ⟨by omega, by omega⟩ (fun v23 b_26 b_27 => ?_)
      exact hQ _ _ I_22 F_23 ⟨by omega, by omega⟩ (by first | exact zcaM_0 (by assumption) (by assumption) (by assumption) | exact zcaM_1 (by assumption) (by assumption) (by omega) | exact zcaM_n (by omega))
  · exact hQ _ _ I_2 F_3 ⟨by omega, by omega⟩ (by first | exact zcaM_0 (by assumption) (by assumption) (by assumption) | exact zcaM_1 (by assumption) (by assumption) (by omega) | exact zcaM_n (by omega))
-- SpoutNews.seat(II)I
set_option maxRecDepth 100000 in
set_option maxHeartbeats 4000000 in
theorem k_S_seat {l1 : Int} {l2 : Int} {g : zi_M} {Q : Int → zi_M → Prop} (I : zk_I g) (p1 : (-2147483648) ≤ l1 ∧ l1 ≤ 2147483647) (p2 : (-2147483648) ≤ l2 ∧ l2 ≤ 2147483647) (hQ : ∀ (v : Int) (g' : zi_M), zk_I g' → zk_fr fr_S_seat g g' → ((-1) ≤ v ∧ v ≤ 12) → (l1 = -1 → v = 0 ∧ g' 36 2 = 0) → (¬ l1 = -1 → 0 ≤ l1 ∧ l1 < g 2 11 ∧ 0 ≤ l2 ∧ l2 < g 2 8 ∧ g 36 2 < 12 → v = g 36 2 + 1 ∧ g' 36 2 = g 36 2 + 1) → (¬ l1 = -1 → ¬ (0 ≤ l1 ∧ l1 < g 2 11 ∧ 0 ≤ l2 ∧ l2 < g 2 8 ∧ g 36 2 < 12) → v = -1 ∧ g' 36 2 = g 36 2) → Q v g') : w_S_seat l1 l2 g Q := by
  unfold w_S_seat
  refine ⟨⟨by omega, by omega⟩, ?_⟩
  refine ⟨fun c18 => ?_, fun c18 => ?_⟩
  · have m_4 : 0 ≤ (g 2 11) ∧ (g 2 11) ≤ 8 := I.1 2 11
    refine k_World_isSitter I ⟨by omega, by omega⟩ (fun v2 b_1 b_2 b_3 => ?_)
    refine ⟨fun c16 => ?_, fun c16 => ?_⟩
    · have m_5 : 0 ≤ (g 36 2) ∧ (g 36 2) ≤ 12 := I.1 36 2
      exact hQ _ _ I (zk_f0 _) ⟨by omega, by omega⟩ (by omega) (by omega) (by omega)
    · have m_9 : 0 ≤ (g 2 8) ∧ (g 2 8) ≤ 10 := I.1 2 8
      refine k_World_isSpout rfl I ⟨by omega, by omega⟩ (fun v5 b_6 b_7 b_8 => ?_)
      try simp only [Nat.reduceAdd] at b_6 b_7 b_8
      refine ⟨fun c15 => ?_, fun c15 => ?_⟩
      · have m_10 : 0 ≤ (g 36 2) ∧ (g 36 2) ≤ 12 := I.1 36 2
        exact hQ _ _ I (zk_f0 _) ⟨by omega, by omega⟩ (by omega) (by omega) (by omega)
      · have m_11 : 0 ≤ (g 36 2) ∧ (g 36 2) ≤ 12 := I.1 36 2
        refine ⟨⟨by omega, by omega⟩, ?_⟩
        refine ⟨fun c14 => ?_, fun c14 => ?_⟩
        · refine ⟨⟨by omega, by omega⟩, ?_⟩
          intro g10 e_12
          have I_13 : zk_I g10 := by rw [e_12]; exact zk_upd (L := 0) (H := 7) rfl rfl I ⟨by omega, by omega⟩
          have F_14 : zk_fr fr_S_seat g g10 := by rw [e_12]; exact zk_fu (zk_f0 _) (Or.inl rfl)
          have m_18 : 0 ≤ (g10 36 2) ∧ (g10 36 2) ≤ 12 := I_13.1 36 2
          have m_19 : g10 36 2 = g 36 2 := by rw [e_12]; exact zi_u_ne (by decide)
          refine ⟨⟨by omega, by omega⟩, ?_⟩
          intro g12 e_15
          have I_16 : zk_I g12 := by rw [e_15]; exact zk_upd (L := 0) (H := 9) rfl rfl I_13 ⟨by omega, by omega⟩
          have F_17 : zk_fr fr_S_seat g g12 := by rw [e_15]; exact zk_fu F_14 (Or.inr (Or.inl rfl))
          have m_23 : 0 ≤ (g12 36 2) ∧ (g12 36 2) ≤ 12 := I_16.1 36 2
          have m_24 : g12 36 2 = g10 36 2 := by rw [e_15]; exact zi_u_ne (by decide)
          intro g13 e_20
          have I_21 : zk_I g13 := by rw [e_20]; exact zk_upd (L := 0) (H := 12) rfl rfl I_16 ⟨by omega, by omega⟩
          have F_22 : zk_fr fr_S_seat g g13 := by rw [e_20]; exact zk_fu F_17 (Or.inr (Or.inr ⟨rfl, rfl⟩))
          have m_25 : 0 ≤ (g13 36 2) ∧ (g13 36 2) ≤ 12 := I_21.1 36 2
          have m_26 : g13 36 2 = (g12 36 2) + 1 := by rw [e_20]; exact zi_u_eq
          exact hQ _ _ I_21 F_22 ⟨by omega, by omega⟩ (by omega) (by omega) (by omega)
        · exact hQ _ _ I (zk_f0 _) ⟨by omega, by omega⟩ (by omega) (by omega) (by omega)
  · intro g17 e_27
    have I_28 : zk_I g17 := by rw [e_27]; exact zk_upd (L := 0) (H := 12) rfl rfl I ⟨by omega, by omega⟩
    have F_29 : zk_fr fr_S_seat g g17 := by rw [e_27]; exact zk_fu (zk_f0 _) (Or.inr (Or.inr ⟨rfl, rfl⟩))
    have m_30 : 0 ≤ (g17 36 2) ∧ (g17 36 2) ≤ 12 := I_28.1 36 2
    have m_31 : g17 36 2 = 0 := by rw [e_27]; exact zi_u_eq
    exact hQ _ _ I_28 F_29 ⟨by omega, by omega⟩ (by omega) (by omega) (by omega)
-- SpoutNewsModel.seat(II)I
set_option maxRecDepth 100000 in
set_option maxHeartbeats 4000000 in
theorem k_M_seat_l17 {l1 : Int} {l2 : Int} {K36 : zi_M → Prop} {Q : Int → zi_M → Prop} {g0 : zi_M} (hK36 : ∀ (g : zi_M), zk_I g → zk_fr fr_M_seat g0 g → (g 214 46 = 0) → K36 g) (hQ : ∀ (v : Int) (g' : zi_M), zk_I g' → zk_fr fr_M_seat g0 g' → ((-1) ≤ v ∧ v ≤ 12) → (l1 = -1 → v = 0 ∧ g' 214 46 = 0) → (¬ l1 = -1 → 0 ≤ l1 ∧ l1 < g0 214 7 ∧ 0 ≤ l2 ∧ l2 < g0 214 6 ∧ g0 214 46 < 12 → v = g0 214 46 + 1 ∧ g' 214 46 = g0 214 46 + 1) → (¬ l1 = -1 → ¬ (0 ≤ l1 ∧ l1 < g0 214 7 ∧ 0 ≤ l2 ∧ l2 < g0 214 6 ∧ g0 214 46 < 12) → v = -1 ∧ g' 214 46 = g0 214 46) → Q v g') : ∀ (n : Nat) {l3 : Int} {g : zi_M}, zk_I g → zk_fr fr_M_seat g0 g → (0 ≤ l3 ∧ l3 ≤ 8) → (g 214 46 = 0) → 8 - l3 < (n : Int) → w_M_seat_l17 K36 Q n l3 g
  | 0, l3, g, I, F, b0, b1, hm => by exfalso; omega
  | n + 1, l3, g, I, F, b0, b1, hm => by
    unfold w_M_seat_l17
    refine ⟨⟨by omega, by omega⟩, ?_⟩
    refine ⟨fun c22 => ?_, fun c22 => ?_⟩
    · have m_54 : 0 ≤ (g 214 46) ∧ (g 214 46) ≤ 12 := I.1 214 46
      exact hK36 _ I F (by omega)
    · refine ⟨⟨by omega, by omega⟩, ?_⟩
      intro g21 e_55
      have I_56 : zk_I g21 := by rw [e_55]; exact zk_upd (L := 0) (H := 1023) rfl rfl I ⟨by omega, by omega⟩
      have F_57 : zk_fr fr_M_seat g0 g21 := by rw [e_55]; exact zk_fu F (Or.inl rfl)
      have m_58 : 0 ≤ (g21 214 46) ∧ (g21 214 46) ≤ 12 := I_56.1 214 46
      have m_59 : g21 214 46 = g 214 46 := by rw [e_55]; exact zi_u_ne (by decide)
      have m_60 : 0 ≤ (g 214 46) ∧ (g 214 46) ≤ 12 := I.1 214 46
      exact k_M_seat_l17 hK36 hQ n I_56 F_57 ⟨by omega, by omega⟩ (by omega) (by omega)
set_option maxRecDepth 100000 in
set_option maxHeartbeats 4000000 in
theorem k_M_seat {l1 : Int} {l2 : Int} {g : zi_M} {Q : Int → zi_M → Prop} (I : zk_I g) (p1 : (-2147483648) ≤ l1 ∧ l1 ≤ 2147483647) (p2 : (-2147483648) ≤ l2 ∧ l2 ≤ 2147483647) (hQ : ∀ (v : Int) (g' : zi_M), zk_I g' → zk_fr fr_M_seat g g' → ((-1) ≤ v ∧ v ≤ 12) → (l1 = -1 → v = 0 ∧ g' 214 46 = 0) → (¬ l1 = -1 → 0 ≤ l1 ∧ l1 < g 214 7 ∧ 0 ≤ l2 ∧ l2 < g 214 6 ∧ g 214 46 < 12 → v = g 214 46 + 1 ∧ g' 214 46 = g 214 46 + 1) → (¬ l1 = -1 → ¬ (0 ≤ l1 ∧ l1 < g 214 7 ∧ 0 ≤ l2 ∧ l2 < g 214 6 ∧ g 214 46 < 12) → v = -1 ∧ g' 214 46 = g 214 46) → Q v g') : w_M_seat l1 l2 g Q := by
  unfold w_M_seat
  intro g1 e_1
  have I_2 : zk_I g1 := by rw [e_1]; exact zk_upd (L := (-2147483648)) (H := 2147483647) rfl rfl I ⟨by omega, by omega⟩
  have F_3 : zk_fr fr_M_seat g g1 := by rw [e_1]; exact zk_fu (zk_f0 _) (Or.inr (Or.inr (Or.inl ⟨rfl, rfl⟩)))
  refine ⟨⟨by omega, by omega⟩, ?_⟩
  refine ⟨fun c25 => ?_, fun c25 => ?_⟩
  · have m_7 : 0 ≤ (g1 214 7) ∧ (g1 214 7) ≤ 8 := I_2.1 214 7
    have m_8 : g1 214 7 = g 214 7 := by rw [e_1]; exact zi_u_ni (by decide)
    have m_9 : 0 ≤ (g 214 7) ∧ (g 214 7) ≤ 8 := I.1 214 7
    refine k_M_isSitter I_2 ⟨by omega, by omega⟩ (fun v3 b_4 b_5 b_6 => ?_)
    refine ⟨fun c17 => ?_, fun c17 => ?_⟩
    · have m_10 : 0 ≤ (g1 214 46) ∧ (g1 214 46) ≤ 12 := I_2.1 214 46
      have m_11 : g1 214 46 = g 214 46 := by rw [e_1]; exact zi_u_ni (by decide)
      have m_12 : 0 ≤ (g 214 46) ∧ (g 214 46) ≤ 12 := I.1 214 46
      exact hQ _ _ I_2 F_3 ⟨by omega, by omega⟩ (by omega) (by omega) (by omega)
    · have m_16 : 0 ≤ (g1 214 6) ∧ (g1 214 6) ≤ 10 := I_2.1 214 6
      have m_17 : g1 214 6 = g 214 6 := by rw [e_1]; exact zi_u_ni (by decide)
      have m_18 : 0 ≤ (g 214 6) ∧ (g 214 6) ≤ 10 := I.1 214 6
      refine k_M_isSpout I_2 ⟨by omega, by omega⟩ (fun v6 b_13 b_14 b_15 => ?_)
      refine ⟨fun c16 => ?_, fun c16 => ?_⟩
      · have m_19 : 0 ≤ (g1 214 46) ∧ (g1 214 46) ≤ 12 := I_2.1 214 46
        have m_20 : g1 214 46 = g 214 46 := by rw [e_1]; exact zi_u_ni (by decide)
        have m_21 : 0 ≤ (g 214 46) ∧ (g 214 46) ≤ 12 := I.1 214 46
        exact hQ _ _ I_2 F_3 ⟨by omega, by omega⟩ (by omega) (by omega) (by omega)
      · have m_22 : 0 ≤ (g1 214 46) ∧ (g1 214 46) ≤ 12 := I_2.1 214 46
        have m_23 : g1 214 46 = g 214 46 := by rw [e_1]; exact zi_u_ni (by decide)
        have m_24 : 0 ≤ (g 214 46) ∧ (g 214 46) ≤ 12 := I.1 214 46
        refine ⟨⟨by omega, by omega⟩, ?_⟩
        refine ⟨fun c15 => ?_, fun c15 => ?_⟩
        · refine ⟨⟨by omega, by omega⟩, ?_⟩
          have m_28 : 0 ≤ (g1 239 l1) ∧ (g1 239 l1) ≤ 1023 := I_2.1 239 l1
          have m_29 : g1 239 l1 = g 239 l1 := by rw [e_1]; exact zi_u_ne (by decide)
          have m_30 : 0 ≤ (g 239 l1) ∧ (g 239 l1) ≤ 1023 := I.1 239 l1
          have m_31 := zi_r_shl 1 l2
          try have m_32 := (zi_shl_f l2).2.1 ⟨by omega, by omega⟩
          first | have m_33 := (zi_shl_f l2).2.2.1 ⟨by omega, by omega⟩ | have m_34 := (zi_shl_f l2).2.2.2.1 ⟨by omega, by omega⟩ | have m_35 := (zi_shl_f l2).2.2.2.2.1 ⟨by omega, by omega⟩ | have m_36 := (zi_shl_f l2).2.2.2.2.2.1 ⟨by omega, by omega⟩ | have m_37 := (zi_shl_f l2).2.2.2.2.2.2 ⟨by omega, by omega⟩ | skip
          first | have m_38 := (zi_or_f (g1 239 l1) (zi_shl 1 l2)).2.1 ⟨by omega, by omega, by omega, by omega⟩ | have m_38 := (zi_or_f (g1 239 l1) (zi_shl 1 l2)).2.2.1 ⟨by omega, by omega, by omega, by omega⟩ | have m_38 := (zi_or_f (g1 239 l1) (zi_shl 1 l2)).2.2.2.1 ⟨by omega, by omega, by omega, by omega⟩ | have m_38 := (zi_or_f (g1 239 l1) (zi_shl 1 l2)).2.2.2.2.1 ⟨by omega, by omega, by omega, by omega⟩ | have m_38 := (zi_or_f (g1 239 l1) (zi_shl 1 l2)).2.2.2.2.2 ⟨by omega, by omega, by omega, by omega⟩ | have m_38 := zi_r_or (g1 239 l1) (zi_shl 1 l2)
          intro g11 e_25
          have I_26 : zk_I g11 := by rw [e_25]; exact zk_upd (L := 0) (H := 1023) rfl rfl I_2 ⟨by omega, by omega⟩
          have F_27 : zk_fr fr_M_seat g g11 := by rw [e_25]; exact zk_fu F_3 (Or.inl rfl)
          have m_42 : 0 ≤ (g11 214 46) ∧ (g11 214 46) ≤ 12 := I_26.1 214 46
          have m_43 : g11 214 46 = g1 214 46 := by rw [e_25]; exact zi_u_ne (by decide)
          refine ⟨⟨by omega, by omega⟩, ?_⟩
          intro g13 e_39
          have I_40 : zk_I g13 := by rw [e_39]; exact zk_upd (L := 0) (H := 79) rfl rfl I_26 ⟨by omega, by omega⟩
          have F_41 : zk_fr fr_M_seat g g13 := by rw [e_39]; exact zk_fu F_27 (Or.inr (Or.inl rfl))
          have m_47 : 0 ≤ (g13 214 46) ∧ (g13 214 46) ≤ 12 := I_40.1 214 46
          have m_48 : g13 214 46 = g11 214 46 := by rw [e_39]; exact zi_u_ne (by decide)
          intro g14 e_44
          have I_45 : zk_I g14 := by rw [e_44]; exact zk_upd (L := 0) (H := 12) rfl rfl I_40 ⟨by omega, by omega⟩
          have F_46 : zk_fr fr_M_seat g g14 := by rw [e_44]; exact zk_fu F_41 (Or.inr (Or.inr (Or.inr ⟨rfl, rfl⟩)))
          have m_49 : 0 ≤ (g14 214 46) ∧ (g14 214 46) ≤ 12 := I_45.1 214 46
          have m_50 : g14 214 46 = (g13 214 46) + 1 := by rw [e_44]; exact zi_u_eq
          exact hQ _ _ I_45 F_46 ⟨by omega, by omega⟩ (by omega) (by omega) (by omega)
        · exact hQ _ _ I_2 F_3 ⟨by omega, by omega⟩ (by omega) (by omega) (by omega)
  · intro g18 e_51
    have I_52 : zk_I g18 := by rw [e_51]; exact zk_upd (L := 0) (H := 12) rfl rfl I_2 ⟨by omega, by omega⟩
    have F_53 : zk_fr fr_M_seat g g18 := by rw [e_51]; exact zk_fu F_3 (Or.inr (Or.inr (Or.inr ⟨rfl, rfl⟩)))
    have m_65 : 0 ≤ (g18 214 46) ∧ (g18 214 46) ≤ 12 := I_52.1 214 46
    have m_66 : g18 214 46 = 0 := by rw [e_51]; exact zi_u_eq
    refine ⟨((8 - 0 : Int).toNat + 1), k_M_seat_l17 (fun g23 I_61 F_62 b_63 => ?_) hQ ((8 - 0 : Int).toNat + 1) I_52 F_53 ⟨by omega, by omega⟩ (by omega) (by omega)⟩
    have m_64 : 0 ≤ (g23 214 46) ∧ (g23 214 46) ≤ 12 := I_61.1 214 46
    exact hQ _ _ I_61 F_62 ⟨by omega, by omega⟩ (by omega) (by omega) (by omega)
-- SpoutNews$Thought.countWay()V
set_option maxRecDepth 100000 in
set_option maxHeartbeats 4000000 in
theorem k_Thought_countWay_l12 {K53 : zi_M → Prop} {Q : Int → zi_M → Prop} {g0 : zi_M} (hK53 : ∀ (g : zi_M), zk_I g → zk_fr fr_Thought_countWay g0 g → K53 g) (hQ : ∀ g' : zi_M, zk_I g' → zk_fr fr_Thought_countWay g0 g' → Q 0 g') : ∀ (n : Nat) {l1 : Int} {g : zi_M}, zk_I g → zk_fr fr_Thought_countWay g0 g → (0 ≤ l1 ∧ l1 ≤ 8) → 8 - l1 < (n : Int) → w_Thought_countWay_l12 K53 Q n l1 g
  | 0, l1, g, I, F, b0, hm => by exfalso; omega
  | n + 1, l1, g, I, F, b0, hm => by
    unfold w_Thought_countWay_l12
    refine ⟨⟨by omega, by omega⟩, ?_⟩
    refine ⟨fun c8 => ?_, fun c8 => ?_⟩
    · exact hK53 _ I F
    · refine ⟨⟨by omega, by omega⟩, ?_⟩
      have m_6 : (-2147483648) ≤ (g 181 l1) ∧ (g 181 l1) ≤ 2147483647 := I.1 181 l1
      refine ⟨⟨by omega, by omega⟩, ?_⟩
      refine ⟨fun c7 => ?_, fun c7 => ?_⟩
      · exact k_Thought_countWay_l12 hK53 hQ n I F ⟨by omega, by omega⟩ (by omega)
      · have m_7 : 0 ≤ (g 182 l1) ∧ (g 182 l1) ≤ 9 := I.1 182 l1
        refine ⟨⟨by omega, by omega⟩, ?_⟩
        have m_11 : (-2147483648) ≤ (g 183 ((l1 * 10) + (g 182 l1))) ∧ (g 183 ((l1 * 10) + (g 182 l1))) ≤ 2147483647 := I.1 183 ((l1 * 10) + (g 182 l1))
        have m_12 := zi_r_w ((g 183 ((l1 * 10) + (g 182 l1))) + 1)
        intro g6 e_8
        have I_9 : zk_I g6 := by rw [e_8]; exact zk_upd (L := (-2147483648)) (H := 2147483647) rfl rfl I ⟨by omega, by omega⟩
        have F_10 : zk_fr fr_Thought_countWay g0 g6 := by rw [e_8]; exact zk_fu F (Or.inl rfl)
        exact k_Thought_countWay_l12 hK53 hQ n I_9 F_10 ⟨by omega, by omega⟩ (by omega)
set_option maxRecDepth 100000 in
set_option maxHeartbeats 4000000 in
theorem k_Thought_countWay {g : zi_M} {Q : Int → zi_M → Prop} (I : zk_I g) (hQ : ∀ g' : zi_M, zk_I g' → zk_fr fr_Thought_countWay g g' → Q 0 g') : w_Thought_countWay g Q := by
  unfold w_Thought_countWay
  have m_4 : (-2147483648) ≤ (g 180 3) ∧ (g 180 3) ≤ 2147483647 := I.1 180 3
  have m_5 := zi_r_w ((g 180 3) + 1)
  intro g1 e_1
  have I_2 : zk_I g1 := by rw [e_1]; exact zk_upd (L := (-2147483648)) (H := 2147483647) rfl rfl I ⟨by omega, by omega⟩
  have F_3 : zk_fr fr_Thought_countWay g g1 := by rw [e_1]; exact zk_fu (zk_f0 _) (Or.inr ⟨rfl, rfl⟩)
  refine ⟨((8 - 0 : Int).toNat + 1), k_Thought_countWay_l12 (fun g9 I_13 F_14 => ?_) hQ ((8 - 0 : Int).toNat + 1) I_2 F_3 ⟨by omega, by omega⟩ (by omega)⟩
  exact hQ _ I_13 F_14
-- SpoutNews$Thought.seatFrom(II)V
noncomputable def fr_Thought_seatFrom (a : Nat) (i : Int) : Prop := a = 182 ∨ a = 183 ∨ (a = 180 ∧ i = 3)

theorem k_Thought_seatFrom_l35 {g0 : zi_M} {R : Int → Int → zi_M → (Int → zi_M → Prop) → Prop} {l1 l2 : Int} {K : zi_M → Prop} {Q : Int → zi_M → Prop} (q1 : 0 ≤ l1 ∧ l1 < 8) (hR : ∀ (l : Int) (g : zi_M) (Q' : Int → zi_M → Prop), zk_I g → (∀ g', zk_I g' → zk_fr fr_Thought_seatFrom g g' → Q' 0 g') → R (l1 + 1) l g Q') (hK : ∀ g, zk_I g → zk_fr fr_Thought_seatFrom g0 g → K g) :
    ∀ (n : Nat) (l3 : Int) (g : zi_M), 0 ≤ l3 → l3 ≤ 10 → zk_I g → zk_fr fr_Thought_seatFrom g0 g → 10 - l3 < (n : Int) → w_Thought_seatFrom_l35 R l1 l2 K Q n l3 g
  | 0, l3, g, h0, h1, I, F, hm => by exfalso; omega
  | n + 1, l3, g, h0, h1, I, F, hm => by
    unfold w_Thought_seatFrom_l35
    refine ⟨⟨by omega, by omega⟩, fun _ => hK g I F, fun hl => ⟨q1, fun _ => ?_, fun _ => ?_⟩⟩
    · exact k_Thought_seatFrom_l35 q1 hR hK n (l3 + 1) g (by omega) (by omega) I F (by omega)
    · intro g6 e6
      have I6 : zk_I g6 := by rw [e6]; exact zk_upd (L := 0) (H := 9) rfl rfl I ⟨by omega, by omega⟩
      have F6 : zk_fr fr_Thought_seatFrom g0 g6 := by rw [e6]; exact zk_fu F (Or.inl rfl)
      refine hR _ _ _ I6 (fun g8 I8 F8 => ?_)
      exact k_Thought_seatFrom_l35 q1 hR hK n (l3 + 1) g8 (by omega) (by omega) I8 (zk_ft F6 F8 (fun _ _ e => e)) (by omega)
theorem k_Thought_seatR : ∀ (n : Nat) (l1 l2 : Int) (g : zi_M) (Q : Int → zi_M → Prop), 0 ≤ l1 → l1 ≤ 8 → 8 - l1 < (n : Int) → zk_I g → (∀ g', zk_I g' → zk_fr fr_Thought_seatFrom g g' → Q 0 g') → w_Thought_seatR n l1 l2 g Q
  | 0, l1, l2, g, Q, h0, h1, hm, I, hQ => by exfalso; omega
  | n + 1, l1, l2, g, Q, h0, h1, hm, I, hQ => by
    unfold w_Thought_seatR
    refine ⟨⟨by omega, by omega⟩, fun hl => ⟨⟨h0, hl⟩, zk_rng I _ _, fun _ => ⟨11, ?_⟩, fun _ => ?_⟩, fun _ => ?_⟩
    · exact k_Thought_seatFrom_l35 ⟨h0, hl⟩ (fun l g' Q' I' hQ' => k_Thought_seatR n (l1 + 1) l g' Q' (by omega) (by omega) (by omega) I' hQ') (fun g' I' F' => hQ g' I' F') 11 0 g (by decide) (by decide) I (zk_f0 _) (by decide)
    · exact k_Thought_seatR n (l1 + 1) l2 g _ (by omega) (by omega) (by omega) I hQ
    · refine k_Thought_countWay I (fun g' I' F' => hQ g' I' (zk_ft (zk_f0 _) F' (fun a i h => ?_)))
      unfold fr_Thought_countWay at h
      unfold fr_Thought_seatFrom
      rcases h with h | h <;> simp [h]
theorem k_Thought_seatFrom {l1 l2 : Int} {g : zi_M} {Q : Int → zi_M → Prop} (I : zk_I g) (p1 : 0 ≤ l1 ∧ l1 ≤ 0) (p2 : 0 ≤ l2 ∧ l2 ≤ 0) (hQ : ∀ g' : zi_M, zk_I g' → zk_fr fr_Thought_seatFrom g g' → Q 0 g') : w_Thought_seatFrom l1 l2 g Q := by
  unfold w_Thought_seatFrom
  exact k_Thought_seatR 9 l1 l2 g Q (by omega) (by omega) (by omega) I hQ

-- SpoutNews$Thought.countWays(LSpoutNews$Told;)V
set_option maxRecDepth 100000 in
set_option maxHeartbeats 4000000 in
theorem k_Thought_countWays_l23 {K59 : zi_M → Prop} {Q : Int → zi_M → Prop} {g0 : zi_M} (hK59 : ∀ (g : zi_M), zk_I g → zk_fr fr_Thought_countWays g0 g → K59 g) (hQ : ∀ g' : zi_M, zk_I g' → zk_fr fr_Thought_countWays g0 g' → Q 0 g') : ∀ (n : Nat) {l2 : Int} {g : zi_M}, zk_I g → zk_fr fr_Thought_countWays g0 g → (0 ≤ l2 ∧ l2 ≤ 12) → 12 - l2 < (n : Int) → w_Thought_countWays_l23 K59 Q n l2 g
  | 0, l2, g, I, F, b0, hm => by exfalso; omega
  | n + 1, l2, g, I, F, b0, hm => by
    unfold w_Thought_countWays_l23
    have m_10 : 0 ≤ (g 36 2) ∧ (g 36 2) ≤ 12 := I.1 36 2
    refine ⟨⟨by omega, by omega⟩, ⟨by omega, by omega⟩, ?_⟩
    refine ⟨fun c9 => ?_, fun c9 => ?_⟩
    · exact hK59 _ I F
    · refine ⟨⟨by omega, by omega⟩, ?_⟩
      have m_11 : 0 ≤ (g 37 l2) ∧ (g 37 l2) ≤ 7 := I.1 37 l2
      refine ⟨⟨by omega, by omega⟩, ?_⟩
      have m_15 : (-2147483648) ≤ (g 181 (g 37 l2)) ∧ (g 181 (g 37 l2)) ≤ 2147483647 := I.1 181 (g 37 l2)
      have m_16 : 0 ≤ (g 38 l2) ∧ (g 38 l2) ≤ 9 := I.1 38 l2
      have m_17 := zi_r_shl 1 (g 38 l2)
      try have m_18 := (zi_shl_f (g 38 l2)).2.1 ⟨by omega, by omega⟩
      first | have m_19 := (zi_shl_f (g 38 l2)).2.2.1 ⟨by omega, by omega⟩ | have m_20 := (zi_shl_f (g 38 l2)).2.2.2.1 ⟨by omega, by omega⟩ | have m_21 := (zi_shl_f (g 38 l2)).2.2.2.2.1 ⟨by omega, by omega⟩ | have m_22 := (zi_shl_f (g 38 l2)).2.2.2.2.2.1 ⟨by omega, by omega⟩ | have m_23 := (zi_shl_f (g 38 l2)).2.2.2.2.2.2 ⟨by omega, by omega⟩ | skip
      first | have m_24 := (zi_or_f (g 181 (g 37 l2)) (zi_shl 1 (g 38 l2))).2.1 ⟨by omega, by omega, by omega, by omega⟩ | have m_24 := (zi_or_f (g 181 (g 37 l2)) (zi_shl 1 (g 38 l2))).2.2.1 ⟨by omega, by omega, by omega, by omega⟩ | have m_24 := (zi_or_f (g 181 (g 37 l2)) (zi_shl 1 (g 38 l2))).2.2.2.1 ⟨by omega, by omega, by omega, by omega⟩ | have m_24 := (zi_or_f (g 181 (g 37 l2)) (zi_shl 1 (g 38 l2))).2.2.2.2.1 ⟨by omega, by omega, by omega, by omega⟩ | have m_24 := (zi_or_f (g 181 (g 37 l2)) (zi_shl 1 (g 38 l2))).2.2.2.2.2 ⟨by omega, by omega, by omega, by omega⟩ | have m_24 := zi_r_or (g 181 (g 37 l2)) (zi_shl 1 (g 38 l2))
      intro g8 e_12
      have I_13 : zk_I g8 := by rw [e_12]; exact zk_upd (L := (-2147483648)) (H := 2147483647) rfl rfl I ⟨by omega, by omega⟩
      have F_14 : zk_fr fr_Thought_countWays g0 g8 := by rw [e_12]; exact zk_fu F (Or.inl rfl)
      exact k_Thought_countWays_l23 hK59 hQ n I_13 F_14 ⟨by omega, by omega⟩ (by omega)
set_option maxRecDepth 100000 in
set_option maxHeartbeats 4000000 in
theorem k_Thought_countWays {g : zi_M} {Q : Int → zi_M → Prop} (I : zk_I g) (hQ : ∀ g' : zi_M, zk_I g' → zk_fr fr_Thought_countWays g g' → Q 0 g') : w_Thought_countWays g Q := by
  unfold w_Thought_countWays
  intro g1 e_1
  have I_2 : zk_I g1 := by rw [e_1]; exact zk_fill (L := (-2147483648)) (H := 2147483647) (fun _ => rfl) (fun _ => rfl) I ⟨by omega, by omega⟩
  have F_3 : zk_fr fr_Thought_countWays g g1 := by rw [e_1]; exact zk_ff (zk_f0 _) (fun i => (Or.inl rfl))
  intro g2 e_4
  have I_5 : zk_I g2 := by rw [e_4]; exact zk_fill (L := (-2147483648)) (H := 2147483647) (fun _ => rfl) (fun _ => rfl) I_2 ⟨by omega, by omega⟩
  have F_6 : zk_fr fr_Thought_countWays g g2 := by rw [e_4]; exact zk_ff F_3 (fun i => (Or.inr (Or.inr (Or.inl rfl))))
  intro g3 e_7
  have I_8 : zk_I g3 := by rw [e_7]; exact zk_upd (L := (-2147483648)) (H := 2147483647) rfl rfl I_5 ⟨by omega, by omega⟩
  have F_9 : zk_fr fr_Thought_countWays g g3 := by rw [e_7]; exact zk_fu F_6 (Or.inr (Or.inr (Or.inr ⟨rfl, rfl⟩)))
  refine ⟨((12 - 0 : Int).toNat + 1), k_Thought_countWays_l23 (fun g10 I_25 F_26 => ?_) hQ ((12 - 0 : Int).toNat + 1) I_8 F_9 ⟨by omega, by omega⟩ (by omega)⟩
  refine k_Thought_seatFrom I_25 ⟨by omega, by omega⟩ ⟨by omega, by omega⟩ (fun g12 I_27 F_28 => ?_)
  have F_29 : zk_fr fr_Thought_countWays g g12 := zk_ft F_26 F_28 (fun a i => (fun h => Or.elim h (fun h => (Or.inr (Or.inl h))) (fun h => Or.elim h (fun h => (Or.inr (Or.inr (Or.inl h)))) (fun h => (Or.inr (Or.inr (Or.inr h)))))))
  exact hQ _ I_27 F_29
-- SpoutNews$Thought.whomToAsk()I
set_option maxRecDepth 100000 in
set_option maxHeartbeats 4000000 in
theorem k_Thought_whomToAsk_l18 {g : zi_M} (I : zk_I g) {l3 : Int} {K50 : Int → zi_M → Prop} {Q : Int → zi_M → Prop} (q3 : 0 ≤ l3 ∧ l3 ≤ 7) (hK50 : ∀ (k4 : Int), (0 ≤ k4 ∧ k4 ≤ 2147483647) → K50 k4 g) (hQ : ∀ v : Int, ((-1) ≤ v ∧ v ≤ 7) → Q v g) : ∀ (n : Nat) {l4 : Int} {l5 : Int}, (0 ≤ l4 ∧ l4 ≤ 2147483647) → (0 ≤ l5 ∧ l5 ≤ 10) → 10 - l5 < (n : Int) → w_Thought_whomToAsk_l18 l3 K50 Q n l4 l5 g
  | 0, l4, l5, b0, b1, hm => by exfalso; omega
  | n + 1, l4, l5, b0, b1, hm => by
    unfold w_Thought_whomToAsk_l18
    refine ⟨⟨by omega, by omega⟩, ?_⟩
    refine ⟨fun c6 => ?_, fun c6 => ?_⟩
    · exact hK50 _ ⟨by omega, by omega⟩
    · refine ⟨⟨by omega, by omega⟩, ?_⟩
      have m_1 : (-2147483648) ≤ (g 183 ((l3 * 10) + l5)) ∧ (g 183 ((l3 * 10) + l5)) ≤ 2147483647 := I.1 183 ((l3 * 10) + l5)
      refine ⟨⟨by omega, by omega⟩, ⟨by omega, by omega⟩, ?_⟩
      exact k_Thought_whomToAsk_l18 I q3 hK50 hQ n ⟨by omega, by omega⟩ ⟨by omega, by omega⟩ (by omega)
set_option maxRecDepth 100000 in
set_option maxHeartbeats 4000000 in
theorem k_Thought_whomToAsk_l6 {g : zi_M} (I : zk_I g) {K81 : Int → zi_M → Prop} {Q : Int → zi_M → Prop} (hK81 : ∀ (k1 : Int), ((-1) ≤ k1 ∧ k1 ≤ 7) → K81 k1 g) (hQ : ∀ v : Int, ((-1) ≤ v ∧ v ≤ 7) → Q v g) : ∀ (n : Nat) {l1 : Int} {l2 : Int} {l3 : Int}, ((-1) ≤ l1 ∧ l1 ≤ 7) → (0 ≤ l2 ∧ l2 ≤ 2147483647) → (0 ≤ l3 ∧ l3 ≤ 8) → 8 - l3 < (n : Int) → w_Thought_whomToAsk_l6 K81 Q n l1 l2 l3 g
  | 0, l1, l2, l3, b0, b1, b2, hm => by exfalso; omega
  | n + 1, l1, l2, l3, b0, b1, b2, hm => by
    unfold w_Thought_whomToAsk_l6
    refine ⟨⟨by omega, by omega⟩, ?_⟩
    refine ⟨fun c18 => ?_, fun c18 => ?_⟩
    · exact hK81 _ ⟨by omega, by omega⟩
    · refine ⟨((10 - 0 : Int).toNat + 1), k_Thought_whomToAsk_l18 (l3 := l3) I ⟨by omega, by omega⟩ (fun k7 b_2 => ?_) hQ ((10 - 0 : Int).toNat + 1) ⟨by omega, by omega⟩ ⟨by omega, by omega⟩ (by omega)⟩
      refine ⟨⟨by omega, by omega⟩, ?_⟩
      have m_3 : (-2147483648) ≤ (g 181 l3) ∧ (g 181 l3) ≤ 2147483647 := I.1 181 l3
      refine ⟨⟨by omega, by omega⟩, ?_⟩
      refine ⟨fun c16 => ?_, fun c16 => ?_⟩
      · exact k_Thought_whomToAsk_l6 I hK81 hQ n ⟨by omega, by omega⟩ ⟨by omega, by omega⟩ ⟨by omega, by omega⟩ (by omega)
      · refine ⟨⟨by omega, by omega⟩, ?_⟩
        refine ⟨fun c15 => ?_, fun c15 => ?_⟩
        · exact k_Thought_whomToAsk_l6 I hK81 hQ n ⟨by omega, by omega⟩ ⟨by omega, by omega⟩ ⟨by omega, by omega⟩ (by omega)
        · refine ⟨⟨by omega, by omega⟩, ⟨by omega, by omega⟩, ?_⟩
          refine ⟨fun c14 => ?_, fun c14 => ?_⟩
          · exact k_Thought_whomToAsk_l6 I hK81 hQ n ⟨by omega, by omega⟩ ⟨by omega, by omega⟩ ⟨by omega, by omega⟩ (by omega)
          · exact k_Thought_whomToAsk_l6 I hK81 hQ n ⟨by omega, by omega⟩ ⟨by omega, by omega⟩ ⟨by omega, by omega⟩ (by omega)
set_option maxRecDepth 100000 in
set_option maxHeartbeats 4000000 in
theorem k_Thought_whomToAsk {g : zi_M} {Q : Int → zi_M → Prop} (I : zk_I g) (hQ : ∀ v : Int, ((-1) ≤ v ∧ v ≤ 7) → Q v g) : w_Thought_whomToAsk g Q := by
  unfold w_Thought_whomToAsk
  refine ⟨((8 - 0 : Int).toNat + 1), k_Thought_whomToAsk_l6 I (fun k19 b_4 => ?_) hQ ((8 - 0 : Int).toNat + 1) ⟨by omega, by omega⟩ ⟨by omega, by omega⟩ ⟨by omega, by omega⟩ (by omega)⟩
  exact hQ _ ⟨by omega, by omega⟩
-- SpoutNews$Thought.sureCouples()I
set_option maxRecDepth 100000 in
set_option maxHeartbeats 4000000 in
theorem k_Thought_sureCouples_l12 {g : zi_M} (I : zk_I g) {l2 : Int} {K59 : Int → zi_M → Prop} {Q : Int → zi_M → Prop} (q2 : 0 ≤ l2 ∧ l2 ≤ 7) (hK59 : ∀ (k1 : Int), (0 ≤ k1) → K59 k1 g) (hQ : ∀ v : Int, (0 ≤ v) → Q v g) : ∀ (n : Nat) {l1 : Int} {l3 : Int}, (0 ≤ l1) → (0 ≤ l3 ∧ l3 ≤ 10) → 10 - l3 < (n : Int) → w_Thought_sureCouples_l12 l2 K59 Q n l1 l3 g
  | 0, l1, l3, b0, b1, hm => by exfalso; omega
  | n + 1, l1, l3, b0, b1, hm => by
    unfold w_Thought_sureCouples_l12
    refine ⟨⟨by omega, by omega⟩, ?_⟩
    refine ⟨fun c9 => ?_, fun c9 => ?_⟩
    · exact hK59 _ (by omega)
    · refine ⟨⟨by omega, by omega⟩, ?_⟩
      have m_1 : (-2147483648) ≤ (g 181 l2) ∧ (g 181 l2) ≤ 2147483647 := I.1 181 l2
      have m_2 := zi_r_shr (g 181 l2) l3
      try have m_3 := (zi_shr_f (g 181 l2) l3).2 ⟨by omega, by omega⟩
      have m_4 := zi_r_and (zi_shr (g 181 l2) l3) 1
      try have m_5 := (zi_and_f (zi_shr (g 181 l2) l3) 1).2.1 ⟨by omega, by omega⟩
      try have m_6 := (zi_and_f (zi_shr (g 181 l2) l3) 1).2.2 ⟨by omega, by omega⟩
      refine ⟨fun c8 => ?_, fun c8 => ?_⟩
      · exact k_Thought_sureCouples_l12 I q2 hK59 hQ n (by omega) ⟨by omega, by omega⟩ (by omega)
      · refine ⟨⟨by omega, by omega⟩, ?_⟩
        have m_7 : (-2147483648) ≤ (g 183 ((l2 * 10) + l3)) ∧ (g 183 ((l2 * 10) + l3)) ≤ 2147483647 := I.1 183 ((l2 * 10) + l3)
        have m_8 : (-2147483648) ≤ (g 180 3) ∧ (g 180 3) ≤ 2147483647 := I.1 180 3
        refine ⟨⟨by omega, by omega⟩, ⟨by omega, by omega⟩, ?_⟩
        refine ⟨fun c7 => ?_, fun c7 => ?_⟩
        · exact k_Thought_sureCouples_l12 I q2 hK59 hQ n (by omega) ⟨by omega, by omega⟩ (by omega)
        · exact k_Thought_sureCouples_l12 I q2 hK59 hQ n (by omega) ⟨by omega, by omega⟩ (by omega)
set_option maxRecDepth 100000 in
set_option maxHeartbeats 4000000 in
theorem k_Thought_sureCouples_l4 {g : zi_M} (I : zk_I g) {K65 : Int → zi_M → Prop} {Q : Int → zi_M → Prop} (hK65 : ∀ (k1 : Int), (0 ≤ k1) → K65 k1 g) (hQ : ∀ v : Int, (0 ≤ v) → Q v g) : ∀ (n : Nat) {l1 : Int} {l2 : Int}, (0 ≤ l1) → (0 ≤ l2 ∧ l2 ≤ 8) → 8 - l2 < (n : Int) → w_Thought_sureCouples_l4 K65 Q n l1 l2 g
  | 0, l1, l2, b0, b1, hm => by exfalso; omega
  | n + 1, l1, l2, b0, b1, hm => by
    unfold w_Thought_sureCouples_l4
    refine ⟨⟨by omega, by omega⟩, ?_⟩
    refine ⟨fun c13 => ?_, fun c13 => ?_⟩
    · exact hK65 _ (by omega)
    · refine ⟨((10 - 0 : Int).toNat + 1), k_Thought_sureCouples_l12 (l2 := l2) I ⟨by omega, by omega⟩ (fun k10 b_9 => ?_) hQ ((10 - 0 : Int).toNat + 1) (by omega) ⟨by omega, by omega⟩ (by omega)⟩
      exact k_Thought_sureCouples_l4 I hK65 hQ n (by omega) ⟨by omega, by omega⟩ (by omega)
set_option maxRecDepth 100000 in
set_option maxHeartbeats 4000000 in
theorem k_Thought_sureCouples {g : zi_M} {Q : Int → zi_M → Prop} (I : zk_I g) (hQ : ∀ v : Int, (0 ≤ v) → Q v g) : w_Thought_sureCouples g Q := by
  unfold w_Thought_sureCouples
  refine ⟨((8 - 0 : Int).toNat + 1), k_Thought_sureCouples_l4 I (fun k14 b_10 => ?_) hQ ((8 - 0 : Int).toNat + 1) (by omega) ⟨by omega, by omega⟩ (by omega)⟩
  exact hQ _ (by omega)
