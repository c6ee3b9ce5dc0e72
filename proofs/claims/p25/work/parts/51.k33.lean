-- by program (wip/gen/mkz.py)
-- SpoutNews.ends(II)I
theorem k_S_ends {l1 : Int} {l2 : Int} {g : zi_M} {Q : Int → zi_M → Prop} (I : zk_I g) (p1 : (-2147483648) ≤ l1 ∧ l1 ≤ 2147483647) (p2 : (-2147483648) ≤ l2 ∧ l2 ≤ 2147483647) (hQ : ∀ v : Int, ((-1) ≤ v) → (0 ≤ l1 ∧ l1 < g 2 8 ∧ (l2 = 0 ∨ l2 = 1) → (l2 = 0 → zEo (zeg g) l1 v) ∧ (l2 = 1 → zGo (zeg g) l1 v)) → (¬ (0 ≤ l1 ∧ l1 < g 2 8 ∧ (l2 = 0 ∨ l2 = 1)) → v = -1) → Q v g) : w_S_ends l1 l2 g Q := by
  unfold w_S_ends
  have m_4 : 0 ≤ (g 2 8) ∧ (g 2 8) ≤ 10 := I.1 2 8
  refine k_World_isSpout rfl I p1 (fun v1 d1 d2 d3 => ?_)
  refine ⟨fun ne => ⟨p2, fun c0 c1 => hQ _ (by decide) (fun h => by exfalso; omega) (fun _ => rfl), fun c0 => ?_, fun c1 => ?_⟩, fun e => hQ _ (by decide) (fun h => by exfalso; omega) (fun _ => rfl)⟩
  · refine k_Thought_endOf I p1 (fun v v0 h => hQ v (by omega) (fun w => ⟨fun _ => h (by omega) (by omega), fun q => by exfalso; omega⟩) (fun w => by exfalso; omega))
  · refine k_Thought_guttersToEnd I p1 (fun v v0 h => hQ v (by omega) (fun w => ⟨fun q => by exfalso; omega, fun _ => h (by omega) (by omega)⟩) (fun w => by exfalso; omega))

-- SpoutNewsModel.isInRound(I)Z
theorem k_M_isInRound_l8 {g : zi_M} {l1 : Int} {K24 K38 : zi_M → Prop} {Q : Int → zi_M → Prop} (I : zk_I g) (p1 : 0 ≤ l1 ∧ l1 ≤ 9) (hK24 : zrd (zf g) l1 → K24 g) (hK38 : znr (zf g) l1 → K38 g) :
    ∀ (n : Nat) (l2 l3 : Int) (k : Nat), l3 = k → k ≤ 10 → l2 = zit (zf g) (k + 1) l1 → (∀ j : Nat, j ≤ k → zit (zf g) j l1 ≠ -1) → (∀ j : Nat, 1 ≤ j → j ≤ k → zit (zf g) j l1 ≠ l1) → 10 - l3 < (n : Int) → w_M_isInRound_l8 l1 K24 K38 Q n l2 l3 g
  | 0, l2, l3, k, h0, h1, h2, h3, h4, hm => by exfalso; omega
  | n + 1, l2, l3, k, h0, h1, h2, h3, h4, hm => by
    have b := zit_b I p1 (k + 1)
    rw [← h2] at b
    unfold w_M_isInRound_l8
    refine ⟨⟨by omega, by omega⟩, fun h10 => hK38 (fun q q1 q2 _ => h4 q q1 (by omega)), fun hl => ⟨⟨by omega, by omega⟩, fun e => hK38 (fun q q1 q2 hq => ?_), fun ne => ⟨⟨by omega, by omega⟩, fun nl => ?_, fun el => hK24 ⟨k + 1, by omega, by omega, by rw [← h2]; exact el, fun j hj => h3 j (by omega)⟩⟩⟩⟩
    · by_cases c : q ≤ k
      · exact h4 q q1 c
      · exact absurd (h2.symm.trans e) (hq (k + 1) (by omega))
    · refine k_M_into I ⟨by omega, by omega⟩ (fun v7 e7 => ?_)
      refine k_M_isInRound_l8 I p1 hK24 hK38 n v7 (l3 + 1) (k + 1) (by omega) (by omega) ?_ (fun j hj => ?_) (fun j j1 hj => ?_) (by omega)
      · show v7 = zf g (zit (zf g) (k + 1) l1)
        rw [← h2]; exact e7
      · by_cases c : j ≤ k
        · exact h3 j c
        · have : j = k + 1 := by omega
          rw [this, ← h2]; exact ne
      · by_cases c : j ≤ k
        · exact h4 j j1 c
        · have : j = k + 1 := by omega
          rw [this, ← h2]; exact nl
theorem k_M_isInRound {l1 : Int} {g : zi_M} {Q : Int → zi_M → Prop} (I : zk_I g) (p1 : 0 ≤ l1 ∧ l1 ≤ 9) (hQ : ∀ v : Int, (0 ≤ v ∧ v ≤ 1) → (¬ v = 0 → zrd (zf g) l1) → (v = 0 → znr (zf g) l1) → Q v g) : w_M_isInRound l1 g Q := by
  unfold w_M_isInRound
  refine k_M_into I p1 (fun v1 e1 => ⟨11, ?_⟩)
  refine k_M_isInRound_l8 I p1 (fun h => hQ 1 ⟨by decide, by decide⟩ (fun _ => h) (fun e => absurd e (by decide))) (fun h => hQ 0 ⟨by decide, by decide⟩ (fun n => absurd rfl n) (fun _ => h)) 11 v1 0 0 rfl (by decide) e1 (fun j hj => ?_) (fun j j1 hj => by omega) (by decide)
  have : j = 0 := by omega
  rw [this]
  show l1 ≠ -1
  omega

-- SpoutNewsModel.leastOfRound(I)I
theorem k_M_leastOfRound_l8 {g : zi_M} {l1 : Int} {K29 : Int → zi_M → Prop} {Q : Int → zi_M → Prop} (I : zk_I g) (p1 : 0 ≤ l1 ∧ l1 ≤ 9) {m : Nat} (hm1 : zit (zf g) m l1 = l1) (hm2 : ∀ j : Nat, j < m → zit (zf g) j l1 ≠ -1) (hK : ∀ v, 0 ≤ v → v ≤ 9 → (∃ k : Nat, 1 ≤ k ∧ zit (zf g) k l1 = l1 ∧ (∃ i : Nat, v = zit (zf g) i l1) ∧ ∀ i : Nat, i < k → v ≤ zit (zf g) i l1) → K29 v g) :
    ∀ (n : Nat) (l2 l3 : Int) (k : Nat), 0 ≤ l2 → l2 ≤ 9 → 1 ≤ k → k ≤ m → l3 = zit (zf g) k l1 → (∃ i : Nat, l2 = zit (zf g) i l1) → (∀ i : Nat, i < k → l2 ≤ zit (zf g) i l1) → m - k < n → w_M_leastOfRound_l8 l1 K29 Q n l2 l3 g
  | 0, l2, l3, k, h0, h1, h2, h3, h4, h5, h6, hn => absurd hn (Nat.not_lt_zero _)
  | n + 1, l2, l3, k, h0, h1, h2, h3, h4, h5, h6, hn => by
    have b := zit_b I p1 k
    rw [← h4] at b
    unfold w_M_leastOfRound_l8
    refine ⟨⟨by omega, by omega⟩, ⟨by omega, by omega⟩, fun e => hK l2 h0 h1 ⟨k, h2, by rw [← h4]; exact e, h5, h6⟩, fun ne => ?_⟩
    have km : k < m := by
      by_cases c : k = m
      · exact absurd (h4.trans (by rw [c]; exact hm1)) ne
      · omega
    have n3 : l3 ≠ -1 := by rw [h4]; exact hm2 k km
    refine k_M_lesser I ⟨by omega, by omega⟩ ⟨by omega, by omega⟩ (fun v6 c1 c2 => ?_)
    refine k_M_into I ⟨by omega, by omega⟩ (fun v9 e9 => ?_)
    refine k_M_leastOfRound_l8 I p1 hm1 hm2 hK n v6 v9 (k + 1) (by omega) (by omega) (by omega) (by omega) ?_ ?_ (fun i hi => ?_) (by omega)
    · show v9 = zf g (zit (zf g) k l1)
      rw [← h4]; exact e9
    · by_cases w : l3 ≤ l2
      · exact ⟨k, by rw [c1 w, h4]⟩
      · rw [c2 (by omega)]
        exact h5
    · by_cases w : i < k
      · have := h6 i w
        omega
      · rw [show i = k by omega, ← h4]
        omega
theorem k_M_leastOfRound {l1 : Int} {g : zi_M} {Q : Int → zi_M → Prop} (I : zk_I g) (p1 : 0 ≤ l1 ∧ l1 ≤ 9) (px0 : zrd (zf g) l1) (hQ : ∀ v : Int, (0 ≤ v ∧ v ≤ 9) → (∃ k : Nat, 1 ≤ k ∧ zit (zf g) k l1 = l1 ∧ (∃ i : Nat, v = zit (zf g) i l1) ∧ ∀ i : Nat, i < k → v ≤ zit (zf g) i l1) → Q v g) : w_M_leastOfRound l1 g Q := by
  unfold w_M_leastOfRound
  obtain ⟨m, m1, m2, m3, m4⟩ := px0
  refine k_M_into I p1 (fun v1 e1 => ⟨m + 1, ?_⟩)
  exact k_M_leastOfRound_l8 I p1 m3 m4 (fun v h0 h1 h => hQ v ⟨h0, h1⟩ h) (m + 1) l1 v1 1 p1.1 p1.2 (by decide) m1 e1 ⟨0, rfl⟩ (fun i hi => by rw [show i = 0 by omega]; exact Int.le_refl _) (by omega)

-- SpoutNewsModel.ends(II)I
theorem k_M_ends_l30 {g : zi_M} {p : Int} {K : Int → Int → zi_M → Prop} {Q : Int → zi_M → Prop} (I : zk_I g) (p1 : 0 ≤ p ∧ p ≤ 9) (hK : ∀ (a n : Int) (k : Nat), 0 ≤ a → a ≤ 9 → 0 ≤ n → n ≤ 9 → n = k → a = zit (zf g) k p → (∀ i : Nat, i ≤ k → zit (zf g) i p ≠ -1) → (∀ i : Nat, i < k → znr (zf g) (zit (zf g) i p)) → (zf g a = -1 ∨ zrd (zf g) a) → K a n g) :
    ∀ (n : Nat) (l3 l4 : Int) (k : Nat), l4 = k → k ≤ 10 → l3 = zit (zf g) k p → (∀ i : Nat, i ≤ k → zit (zf g) i p ≠ -1) → (∀ i : Nat, i < k → znr (zf g) (zit (zf g) i p)) → 10 - l4 < (n : Int) → w_M_ends_l30 K Q n l3 l4 g
  | 0, l3, l4, k, h0, h1, h2, h3, h4, hm => by exfalso; omega
  | n + 1, l3, l4, k, h0, h1, h2, h3, h4, hm => by
    by_cases k10 : k = 10
    · exfalso
      exact zit_ph I p1 (fun i hi => h3 i (by omega)) (fun i hi => h4 i (by omega))
    have b := zit_b I p1 k
    have nb := h3 k (Nat.le_refl _)
    rw [← h2] at b nb
    unfold w_M_ends_l30
    refine k_M_into I ⟨by omega, by omega⟩ (fun v8 e8 => ?_)
    have z8 : zf g l3 = v8 := e8.symm
    have b8 := zf_b I l3
    refine ⟨⟨by omega, by omega⟩, fun e => hK l3 l4 k (by omega) (by omega) (by omega) (by omega) h0 h2 h3 h4 (Or.inl (by omega)), fun ne => ?_⟩
    refine k_M_isInRound I ⟨by omega, by omega⟩ (fun v12 hv12 hr hn => ⟨fun n12 => hK l3 l4 k (by omega) (by omega) (by omega) (by omega) h0 h2 h3 h4 (Or.inr (hr n12)), fun e12 => ?_⟩)
    refine k_M_into I ⟨by omega, by omega⟩ (fun v15 e15 => ?_)
    have z15 : zf g l3 = v15 := e15.symm
    have s : zit (zf g) (k + 1) p = v15 := by
      show zf g (zit (zf g) k p) = v15
      rw [← h2]; exact z15
    refine k_M_ends_l30 I p1 hK n v15 (l4 + 1) (k + 1) (by omega) (by omega) s.symm (fun i hi => ?_) (fun i hi => ?_) (by omega)
    · by_cases c : i ≤ k
      · exact h3 i c
      · have : i = k + 1 := by omega
        rw [this, s]; omega
    · by_cases c : i < k
      · exact h4 i c
      · have : i = k := by omega
        rw [this, ← h2]; exact hn e12
theorem k_M_ends {l1 : Int} {l2 : Int} {g : zi_M} {Q : Int → zi_M → Prop} (I : zk_I g) (p1 : (-2147483648) ≤ l1 ∧ l1 ≤ 2147483647) (p2 : (-2147483648) ≤ l2 ∧ l2 ≤ 2147483647) (hQ : ∀ (v : Int) (g' : zi_M), zk_I g' → zk_fr fr_M_ends g g' → ((-2147483648) ≤ v) → (0 ≤ l1 ∧ l1 < g 214 6 ∧ (l2 = 0 ∨ l2 = 1) → zEr (zf g) l1 l2 v) → (¬ (0 ≤ l1 ∧ l1 < g 214 6 ∧ (l2 = 0 ∨ l2 = 1)) → v = -1) → Q v g') : w_M_ends l1 l2 g Q := by
  unfold w_M_ends
  intro g1 e1
  have I1 : zk_I g1 := by rw [e1]; exact zk_upd (L := -2147483648) (H := 2147483647) rfl rfl I ⟨by decide, by decide⟩
  have F1 : zk_fr fr_M_ends g g1 := by rw [e1]; exact zk_fu (zk_f0 _) ⟨rfl, rfl⟩
  have r6 : 0 ≤ g1 214 6 ∧ g1 214 6 ≤ 10 := I1.1 214 6
  have q6 : g1 214 6 = g 214 6 := by rw [e1]; exact zi_u_ni (by decide)
  have qf : zf g1 = zf g := funext fun k => by
    have h : g1 232 k = g 232 k := by rw [e1]; exact zi_u_ne (by decide)
    unfold zf
    rw [h]
  refine k_M_isSpout I1 p1 (fun v2 a1 a2 a3 => ⟨fun n2 => hQ _ _ I1 F1 (by decide) (fun h => by exfalso; omega) (fun _ => rfl), fun n2 => ?_⟩)
  refine k_M_isIn I1 p2 ⟨by decide, by decide⟩ ⟨by decide, by decide⟩ (fun v5 b1 b2 b3 => ⟨fun n5 => ⟨11, ?_⟩, fun n5 => hQ _ _ I1 F1 (by decide) (fun h => by exfalso; omega) (fun _ => rfl)⟩)
  have hl : 0 ≤ l1 ∧ l1 < g 214 6 ∧ (l2 = 0 ∨ l2 = 1) := by omega
  refine k_M_ends_l30 (p := l1) I1 ⟨by omega, by omega⟩ (fun a n k a0 a1 n0 n1 en ea hne hnr h => ?_) 11 l1 0 0 rfl (by decide) rfl (fun i hi => ?_) (fun i hi => absurd hi (Nat.not_lt_zero _)) (by decide)
  · unfold w_M_ends_b62
    have fin : ∀ v : Int, (-2147483648) ≤ v → (l2 = 1 → v = n) → (¬ l2 = 1 → (zf g1 a = -1 → v = a) ∧ (¬ zf g1 a = -1 → ∃ k : Nat, 1 ≤ k ∧ zit (zf g1) k a = a ∧ (∃ i : Nat, v = zit (zf g1) i a) ∧ ∀ i : Nat, i < k → v ≤ zit (zf g1) i a)) → Q v g1 := fun v v0 w1 w2 => by
      refine hQ _ _ I1 F1 v0 (fun _ => ?_) (fun w => absurd hl w)
      rw [← qf]
      refine ⟨k, by omega, hne, hnr, by rw [← ea]; exact h, fun q => by rw [w1 q, en], fun q => ?_⟩
      rw [← ea]
      exact w2 q
    refine ⟨p2, fun nl => ?_, fun q => fin n (by omega) (fun _ => rfl) (fun w => absurd q w)⟩
    refine k_M_into I1 ⟨a0, a1⟩ (fun v24 e24 => ?_)
    have z : zf g1 a = v24 := e24.symm
    have b8 := zf_b I1 a
    refine ⟨⟨by omega, by omega⟩, fun ne => ?_, fun e => fin a (by omega) (fun w => absurd w nl) (fun _ => ⟨fun _ => rfl, fun w => absurd (z.trans e) w⟩)⟩
    have hr : zrd (zf g1) a := by
      rcases h with h | h
      · exact absurd (z.symm.trans h) ne
      · exact h
    exact k_M_leastOfRound I1 ⟨a0, a1⟩ hr (fun v hv hx => fin v (by omega) (fun w => absurd w nl) (fun _ => ⟨fun w => absurd (z.symm.trans w) ne, fun _ => hx⟩))
  · have : i = 0 := by omega
    rw [this]
    show l1 ≠ -1
    omega

-- SpoutNews$Thought.allEnds(LSpoutNews$World;LSpoutNews$Texts;)I
set_option maxRecDepth 100000 in
set_option maxHeartbeats 4000000 in
theorem k_Thought_allEnds_l5 {g : zi_M} (I : zk_I g) {K32 : Int → zi_M → Prop} {Q : Int → zi_M → Prop} (hK32 : ∀ (k3 : Int), ((-2147483648) ≤ k3 ∧ k3 ≤ 2147483647) → K32 k3 g) (hQ : ∀ v : Int, ((-2147483648) ≤ v ∧ v ≤ 2147483647) → Q v g) : ∀ (n : Nat) {l3 : Int} {l4 : Int}, ((-2147483648) ≤ l3 ∧ l3 ≤ 2147483647) → (0 ≤ l4 ∧ l4 ≤ 10) → 10 - l4 < (n : Int) → w_Thought_allEnds_l5 K32 Q n l3 l4 g
  | 0, l3, l4, b0, b1, hm => by exfalso; omega
  | n + 1, l3, l4, b0, b1, hm => by
    unfold w_Thought_allEnds_l5
    have m_1 : 0 ≤ (g 2 8) ∧ (g 2 8) ≤ 10 := I.1 2 8
    refine ⟨⟨by omega, by omega⟩, ⟨by omega, by omega⟩, ?_⟩
    refine ⟨fun c6 => ?_, fun c6 => ?_⟩
    · exact hK32 _ ⟨by omega, by omega⟩
    · refine k_Thought_endOf I ⟨by omega, by omega⟩ (fun v3 b_2 b_3 => ?_)
      have m_4 := zi_r_shl 1 v3
      try have m_5 := (zi_shl_f v3).2.1 ⟨by omega, by omega⟩
      first | have m_6 := (zi_shl_f v3).2.2.1 ⟨by omega, by omega⟩ | have m_7 := (zi_shl_f v3).2.2.2.1 ⟨by omega, by omega⟩ | have m_8 := (zi_shl_f v3).2.2.2.2.1 ⟨by omega, by omega⟩ | have m_9 := (zi_shl_f v3).2.2.2.2.2.1 ⟨by omega, by omega⟩ | have m_10 := (zi_shl_f v3).2.2.2.2.2.2 ⟨by omega, by omega⟩ | skip
      first | have m_11 := (zi_or_f l3 (zi_shl 1 v3)).2.1 ⟨by omega, by omega, by omega, by omega⟩ | have m_11 := (zi_or_f l3 (zi_shl 1 v3)).2.2.1 ⟨by omega, by omega, by omega, by omega⟩ | have m_11 := (zi_or_f l3 (zi_shl 1 v3)).2.2.2.1 ⟨by omega, by omega, by omega, by omega⟩ | have m_11 := (zi_or_f l3 (zi_shl 1 v3)).2.2.2.2.1 ⟨by omega, by omega, by omega, by omega⟩ | have m_11 := (zi_or_f l3 (zi_shl 1 v3)).2.2.2.2.2 ⟨by omega, by omega, by omega, by omega⟩ | have m_11 := zi_r_or l3 (zi_shl 1 v3)
      exact k_Thought_allEnds_l5 I hK32 hQ n ⟨by omega, by omega⟩ ⟨by omega, by omega⟩ (by omega)
set_option maxRecDepth 100000 in
set_option maxHeartbeats 4000000 in
theorem k_Thought_allEnds {g : zi_M} {Q : Int → zi_M → Prop} (I : zk_I g) (hQ : ∀ v : Int, ((-2147483648) ≤ v ∧ v ≤ 2147483647) → Q v g) : w_Thought_allEnds g Q := by
  unfold w_Thought_allEnds
  refine ⟨((10 - 0 : Int).toNat + 1), k_Thought_allEnds_l5 I (fun k7 b_12 => ?_) hQ ((10 - 0 : Int).toNat + 1) ⟨by omega, by omega⟩ ⟨by omega, by omega⟩ (by omega)⟩
  exact hQ _ ⟨by omega, by omega⟩
-- java/lang/Integer.bitCount(I)I
set_option maxRecDepth 100000 in
set_option maxHeartbeats 4000000 in
theorem k_Integer_bitCount {l0 : Int} {g : zi_M} {Q : Int → zi_M → Prop} (I : zk_I g) (p0 : (-2147483648) ≤ l0 ∧ l0 ≤ 2147483647) (hQ : ∀ v : Int, (0 ≤ v ∧ v ≤ 63) → (0 ≤ l0 → l0 ≤ 65535 → v = zpc l0 z16) → Q v g) : w_Integer_bitCount l0 g Q := by
  unfold w_Integer_bitCount
  have m_1 := zi_ush_f l0 1
  have m_2 := zi_r_and (zi_ush l0 1) 1431655765
  try have m_3 := (zi_and_f (zi_ush l0 1) 1431655765).2.1 ⟨by omega, by omega⟩
  try have m_4 := (zi_and_f (zi_ush l0 1) 1431655765).2.2 ⟨by omega, by omega⟩
  have m_5 := zi_r_and (l0 - (zi_and (zi_ush l0 1) 1431655765)) 858993459
  try have m_6 := (zi_and_f (l0 - (zi_and (zi_ush l0 1) 1431655765)) 858993459).2.1 ⟨by omega, by omega⟩
  try have m_7 := (zi_and_f (l0 - (zi_and (zi_ush l0 1) 1431655765)) 858993459).2.2 ⟨by omega, by omega⟩
  have m_8 := zi_ush_f (l0 - (zi_and (zi_ush l0 1) 1431655765)) 2
  have m_9 := zi_r_and (zi_ush (l0 - (zi_and (zi_ush l0 1) 1431655765)) 2) 858993459
  try have m_10 := (zi_and_f (zi_ush (l0 - (zi_and (zi_ush l0 1) 1431655765)) 2) 858993459).2.1 ⟨by omega, by omega⟩
  try have m_11 := (zi_and_f (zi_ush (l0 - (zi_and (zi_ush l0 1) 1431655765)) 2) 858993459).2.2 ⟨by omega, by omega⟩
  intro y1 e_22
  have m_12 := zi_ush_f y1 4
  have m_13 := zi_r_and (y1 + (zi_ush y1 4)) 252645135
  try have m_14 := (zi_and_f (y1 + (zi_ush y1 4)) 252645135).2.1 ⟨by omega, by omega⟩
  try have m_15 := (zi_and_f (y1 + (zi_ush y1 4)) 252645135).2.2 ⟨by omega, by omega⟩
  have m_16 := zi_ush_f (zi_and (y1 + (zi_ush y1 4)) 252645135) 8
  intro y2 e_21
  have m_17 := zi_ush_f y2 16
  have m_18 := zi_r_and (y2 + (zi_ush y2 16)) 63
  try have m_19 := (zi_and_f (y2 + (zi_ush y2 16)) 63).2.1 ⟨by omega, by omega⟩
  try have m_20 := (zi_and_f (y2 + (zi_ush y2 16)) 63).2.2 ⟨by omega, by omega⟩
  exact hQ _ ⟨by omega, by omega⟩ (by intro h0 h1; exact zbc h0 h1 (by assumption) (by assumption))
-- SpoutNews.catches(I)I
set_option maxRecDepth 100000 in
set_option maxHeartbeats 4000000 in
theorem k_S_catches_b11 {l1 : Int} {Q : Int → zi_M → Prop} {g : zi_M} (I : zk_I g) (p1 : 0 ≤ l1 ∧ l1 ≤ 1) (hQ : ∀ v : Int, ((-2147483648) ≤ v ∧ v ≤ 2147483647) → Q v g) : w_S_catches_b11 l1 g Q := by
  unfold w_S_catches_b11
  refine k_Thought_allEnds I (fun v2 b_1 => ?_)
  refine ⟨⟨by omega, by omega⟩, ?_⟩
  refine ⟨fun c9 => ?_, fun c9 => ?_⟩
  · exact hQ _ ⟨by omega, by omega⟩
  · refine k_Integer_bitCount I ⟨by omega, by omega⟩ (fun v6 b_2 b_3 => ?_)
    exact hQ _ ⟨by omega, by omega⟩
set_option maxRecDepth 100000 in
set_option maxHeartbeats 4000000 in
theorem k_S_catches {l1 : Int} {g : zi_M} {Q : Int → zi_M → Prop} (I : zk_I g) (p1 : (-2147483648) ≤ l1 ∧ l1 ≤ 2147483647) (hQ : ∀ v : Int, ((-2147483648) ≤ v ∧ v ≤ 2147483647) → Q v g) : w_S_catches l1 g Q := by
  unfold w_S_catches
  refine ⟨⟨by omega, by omega⟩, ?_⟩
  refine ⟨fun c11 => ?_, fun c11 => ?_⟩
  · exact k_S_catches_b11 I ⟨by omega, by omega⟩ hQ
  · refine ⟨fun c10 => ?_, fun c10 => ?_⟩
    · exact k_S_catches_b11 I ⟨by omega, by omega⟩ hQ
    · exact hQ _ ⟨by omega, by omega⟩
-- SpoutNewsModel.onesOf(I)I
set_option maxRecDepth 100000 in
set_option maxHeartbeats 4000000 in
theorem k_M_onesOf_l4 {l1 : Int} {g : zi_M} (I : zk_I g) {x1 : Int} {K21 : Int → zi_M → Prop} {Q : Int → zi_M → Prop} (hK21 : ∀ (k2 : Int), (0 ≤ k2 ∧ k2 ≤ 65535) → (k2 = zpc x1 z16) → K21 k2 g) (hQ : ∀ v : Int, (0 ≤ v ∧ v ≤ 65535) → (v = zpc l1 z16) → Q v g) : ∀ (n : Nat) {l2 : Int} {l3 : Int}, (0 ≤ l2 ∧ l2 ≤ 65535) → (0 ≤ l3 ∧ l3 ≤ 65535) → (l2 + l3 ≤ 65535) → (l2 + zpc l3 z16 = zpc x1 z16) → l3 < (n : Int) → w_M_onesOf_l4 K21 Q n l2 l3 g
  | 0, l2, l3, b0, b1, b2, b3, hm => by exfalso; omega
  | n + 1, l2, l3, b0, b1, b2, b3, hm => by
    unfold w_M_onesOf_l4
    refine ⟨⟨by omega, by omega⟩, ?_⟩
    refine ⟨fun c2 => ?_, fun c2 => ?_⟩
    · exact hK21 _ ⟨by omega, by omega⟩ (by exact zoe_x (by assumption) (by assumption))
    · have m_1 := zi_r_and l3 (l3 - 1)
      try have m_2 := (zi_and_f l3 (l3 - 1)).2.1 ⟨by omega, by omega⟩
      try have m_3 := (zi_and_f l3 (l3 - 1)).2.2 ⟨by omega, by omega⟩
      exact k_M_onesOf_l4 I hK21 hQ n ⟨by omega, by omega⟩ ⟨by omega, by omega⟩ (by omega) (by first | exact Int.zero_add _ | exact zoe_st (by assumption) (by assumption) (by assumption)) (by omega)
set_option maxRecDepth 100000 in
set_option maxHeartbeats 4000000 in
theorem k_M_onesOf {l1 : Int} {g : zi_M} {Q : Int → zi_M → Prop} (I : zk_I g) (p1 : 0 ≤ l1 ∧ l1 ≤ 65535) (hQ : ∀ v : Int, (0 ≤ v ∧ v ≤ 65535) → (v = zpc l1 z16) → Q v g) : w_M_onesOf l1 g Q := by
  unfold w_M_onesOf
  refine ⟨((l1 : Int).toNat + 1), k_M_onesOf_l4 (x1 := l1) I (fun k3 b_4 b_5 => ?_) hQ ((l1 : Int).toNat + 1) ⟨by omega, by omega⟩ ⟨by omega, by omega⟩ (by omega) (by first | exact Int.zero_add _ | exact zoe_st (by assumption) (by assumption) (by assumption)) (by omega)⟩
  exact hQ _ ⟨by omega, by omega⟩ (by assumption)
-- SpoutNewsModel.catchesAll(I)Z
set_option maxRecDepth 100000 in
set_option maxHeartbeats 4000000 in
theorem k_M_catchesAll_l2 {g : zi_M} (I : zk_I g) {l1 : Int} {K20 : zi_M → Prop} {K28 : zi_M → Prop} {Q : Int → zi_M → Prop} (q1 : 0 ≤ l1) (hK20 : K20 g) (hK28 : K28 g) (hQ : ∀ v : Int, (0 ≤ v ∧ v ≤ 1) → Q v g) : ∀ (n : Nat) {l2 : Int}, (0 ≤ l2 ∧ l2 ≤ 10) → 10 - l2 < (n : Int) → w_M_catchesAll_l2 l1 K20 K28 Q n l2 g
  | 0, l2, b0, hm => by exfalso; omega
  | n + 1, l2, b0, hm => by
    unfold w_M_catchesAll_l2
    have m_1 : 0 ≤ (g 214 6) ∧ (g 214 6) ≤ 10 := I.1 214 6
    refine ⟨⟨by omega, by omega⟩, ⟨by omega, by omega⟩, ?_⟩
    refine ⟨fun c7 => ?_, fun c7 => ?_⟩
    · exact hK28
    · refine k_M_passedFrom I ⟨by omega, by omega⟩ (fun v3 b_2 b_3 => ?_)
      have m_4 := zi_r_and v3 l1
      try have m_5 := (zi_and_f v3 l1).2.1 ⟨by omega, by omega⟩
      try have m_6 := (zi_and_f v3 l1).2.2 ⟨by omega, by omega⟩
      refine ⟨fun c6 => ?_, fun c6 => ?_⟩
      · exact k_M_catchesAll_l2 I q1 hK20 hK28 hQ n ⟨by omega, by omega⟩ (by omega)
      · exact hK20
set_option maxRecDepth 100000 in
set_option maxHeartbeats 4000000 in
theorem k_M_catchesAll {l1 : Int} {g : zi_M} {Q : Int → zi_M → Prop} (I : zk_I g) (p1 : 0 ≤ l1) (hQ : ∀ v : Int, (0 ≤ v ∧ v ≤ 1) → Q v g) : w_M_catchesAll l1 g Q := by
  unfold w_M_catchesAll
  refine ⟨((10 - 0 : Int).toNat + 1), k_M_catchesAll_l2 (l1 := l1) I (by omega) (?_) (?_) hQ ((10 - 0 : Int).toNat + 1) ⟨by omega, by omega⟩ (by omega)⟩
  · exact hQ _ ⟨by omega, by omega⟩
  · exact hQ _ ⟨by omega, by omega⟩
-- SpoutNewsModel.catches(I)I
set_option maxRecDepth 100000 in
set_option maxHeartbeats 4000000 in
theorem k_M_catches_l28 {K67 : Int → zi_M → Prop} {Q : Int → zi_M → Prop} {g0 : zi_M} (hK67 : ∀ (k2 : Int) (g : zi_M), zk_I g → zk_fr fr_M_catches g0 g → (0 ≤ k2 ∧ k2 ≤ 1023) → K67 k2 g) (hQ : ∀ (v : Int) (g' : zi_M), zk_I g' → zk_fr fr_M_catches g0 g' → ((-1) ≤ v ∧ v ≤ 65535) → Q v g') : ∀ (n : Nat) {l2 : Int} {l3 : Int} {g : zi_M}, zk_I g → zk_fr fr_M_catches g0 g → (0 ≤ l2 ∧ l2 ≤ 1023) → (0 ≤ l3 ∧ l3 ≤ 1024) → 1024 - l3 < (n : Int) → w_M_catches_l28 K67 Q n l2 l3 g
  | 0, l2, l3, g, I, F, b0, b1, hm => by exfalso; omega
  | n + 1, l2, l3, g, I, F, b0, b1, hm => by
    unfold w_M_catches_l28
    refine ⟨⟨by omega, by omega⟩, ?_⟩
    have m_7 : 0 ≤ (g 214 6) ∧ (g 214 6) ≤ 10 := I.1 214 6
    have m_8 := zi_r_shl 1 (g 214 6)
    try have m_9 := (zi_shl_f (g 214 6)).2.1 ⟨by omega, by omega⟩
    first | have m_10 := (zi_shl_f (g 214 6)).2.2.1 ⟨by omega, by omega⟩ | have m_11 := (zi_shl_f (g 214 6)).2.2.2.1 ⟨by omega, by omega⟩ | have m_12 := (zi_shl_f (g 214 6)).2.2.2.2.1 ⟨by omega, by omega⟩ | have m_13 := (zi_shl_f (g 214 6)).2.2.2.2.2.1 ⟨by omega, by omega⟩ | have m_14 := (zi_shl_f (g 214 6)).2.2.2.2.2.2 ⟨by omega, by omega⟩ | skip
    refine ⟨fun c19 => ?_, fun c19 => ?_⟩
    · exact hK67 _ _ I F ⟨by omega, by omega⟩
    · refine k_M_onesOf I ⟨by omega, by omega⟩ (fun v6 b_15 b_16 => ?_)
      refine k_M_onesOf I ⟨by omega, by omega⟩ (fun v9 b_17 b_18 => ?_)
      refine ⟨⟨by omega, by omega⟩, ⟨by omega, by omega⟩, ?_⟩
      refine ⟨fun c18 => ?_, fun c18 => ?_⟩
      · exact k_M_catches_l28 hK67 hQ n I F ⟨by omega, by omega⟩ ⟨by omega, by omega⟩ (by omega)
      · refine k_M_catchesAll I (by omega) (fun v14 b_19 => ?_)
        refine ⟨fun c17 => ?_, fun c17 => ?_⟩
        · exact k_M_catches_l28 hK67 hQ n I F ⟨by omega, by omega⟩ ⟨by omega, by omega⟩ (by omega)
        · exact k_M_catches_l28 hK67 hQ n I F ⟨by omega, by omega⟩ ⟨by omega, by omega⟩ (by omega)
set_option maxRecDepth 100000 in
set_option maxHeartbeats 4000000 in
theorem k_M_catches {l1 : Int} {g : zi_M} {Q : Int → zi_M → Prop} (I : zk_I g) (p1 : (-2147483648) ≤ l1 ∧ l1 ≤ 2147483647) (hQ : ∀ (v : Int) (g' : zi_M), zk_I g' → zk_fr fr_M_catches g g' → ((-1) ≤ v ∧ v ≤ 65535) → Q v g') : w_M_catches l1 g Q := by
  unfold w_M_catches
  intro g1 e_1
  have I_2 : zk_I g1 := by rw [e_1]; exact zk_upd (L := (-2147483648)) (H := 2147483647) rfl rfl I ⟨by omega, by omega⟩
  have F_3 : zk_fr fr_M_catches g g1 := by rw [e_1]; exact zk_fu (zk_f0 _) ⟨rfl, rfl⟩
  refine k_M_isIn I_2 ⟨by omega, by omega⟩ ⟨by omega, by omega⟩ ⟨by omega, by omega⟩ (fun v2 b_4 b_5 b_6 => ?_)
  refine ⟨fun c28 => ?_, fun c28 => ?_⟩
  · have m_25 : 0 ≤ (g1 214 6) ∧ (g1 214 6) ≤ 10 := I_2.1 214 6
    have m_26 : g1 214 6 = g 214 6 := by rw [e_1]; exact zi_u_ni (by decide)
    have m_27 : 0 ≤ (g 214 6) ∧ (g 214 6) ≤ 10 := I.1 214 6
    have m_28 := zi_r_shl 1 (g1 214 6)
    try have m_29 := (zi_shl_f (g1 214 6)).2.1 ⟨by omega, by omega⟩
    first | have m_30 := (zi_shl_f (g1 214 6)).2.2.1 ⟨by omega, by omega⟩ | have m_31 := (zi_shl_f (g1 214 6)).2.2.2.1 ⟨by omega, by omega⟩ | have m_32 := (zi_shl_f (g1 214 6)).2.2.2.2.1 ⟨by omega, by omega⟩ | have m_33 := (zi_shl_f (g1 214 6)).2.2.2.2.2.1 ⟨by omega, by omega⟩ | have m_34 := (zi_shl_f (g1 214 6)).2.2.2.2.2.2 ⟨by omega, by omega⟩ | skip
    refine ⟨((1024 - 0 : Int).toNat + 1), k_M_catches_l28 (fun k20 g21 I_20 F_21 b_22 => ?_) hQ ((1024 - 0 : Int).toNat + 1) I_2 F_3 ⟨by omega, by omega⟩ ⟨by omega, by omega⟩ (by omega)⟩
    refine ⟨⟨by omega, by omega⟩, ?_⟩
    refine ⟨fun c26 => ?_, fun c26 => ?_⟩
    · exact hQ _ _ I_20 F_21 ⟨by omega, by omega⟩
    · refine k_M_onesOf I_20 ⟨by omega, by omega⟩ (fun v23 b_23 b_24 => ?_)
      exact hQ _ _ I_20 F_21 ⟨by omega, by omega⟩
  · exact hQ _ _ I_2 F_3 ⟨by omega, by omega⟩
-- SpoutNews.seat(II)I
set_option maxRecDepth 100000 in
set_option maxHeartbeats 4000000 in
theorem k_S_seat {l1 : Int} {l2 : Int} {g : zi_M} {Q : Int → zi_M → Prop} (I : zk_I g) (p1 : (-2147483648) ≤ l1 ∧ l1 ≤ 2147483647) (p2 : (-2147483648) ≤ l2 ∧ l2 ≤ 2147483647) (hQ : ∀ (v : Int) (g' : zi_M), zk_I g' → zk_fr fr_S_seat g g' → ((-1) ≤ v ∧ v ≤ 12) → (l1 = -1 → v = 0 ∧ g' 36 2 = 0) → (¬ l1 = -1 → 0 ≤ l1 ∧ l1 < g 2 11 ∧ 0 ≤ l2 ∧ l2 < g 2 8 ∧ g 36 2 < 12 → v = g 36 2 + 1 ∧ g' 36 2 = g 36 2 + 1) → (¬ l1 = -1 → ¬ (0 ≤ l1 ∧ l1 < g 2 11 ∧ 0 ≤ l2 ∧ l2 < g 2 8 ∧ g 36 2 < 12) → v = -1 ∧ g' 36 2 = g 36 2) → Q v g') : w_S_seat l1 l2 g Q := by
  unfold w_S_seat
  refine ⟨⟨by omega, by omega⟩, ?_⟩
  refine ⟨fun c18 => ?_, fun c18 => ?_⟩
  · have m_4 : 0 ≤ (g 2 11) ∧ (g 2 11) ≤ 8 := I.1 2 11
    refine k_World_isSitter I ⟨by omega, by omega⟩ (fun v2 b_1 b_2 b_3 => ?_)
    refine ⟨fun c16 => ?_, fun c16 => ?_⟩
    · have m_5 : 0 ≤ (g 36 2) ∧ (g 36 2) ≤ 12 := I.1 36 2
      exact hQ _ _ I (zk_f0 _) ⟨by omega, by omega⟩ (by omega) (by omega) (by omega)
    · have m_9 : 0 ≤ (g 2 8) ∧ (g 2 8) ≤ 10 := I.1 2 8
      refine k_World_isSpout rfl I ⟨by omega, by omega⟩ (fun v5 b_6 b_7 b_8 => ?_)
      try simp only [Nat.reduceAdd] at b_6 b_7 b_8
      refine ⟨fun c15 => ?_, fun c15 => ?_⟩
      · have m_10 : 0 ≤ (g 36 2) ∧ (g 36 2) ≤ 12 := I.1 36 2
        exact hQ _ _ I (zk_f0 _) ⟨by omega, by omega⟩ (by omega) (by omega) (by omega)
      · have m_11 : 0 ≤ (g 36 2) ∧ (g 36 2) ≤ 12 := I.1 36 2
        refine ⟨⟨by omega, by omega⟩, ?_⟩
        refine ⟨fun c14 => ?_, fun c14 => ?_⟩
        · refine ⟨⟨by omega, by omega⟩, ?_⟩
          intro g10 e_12
          have I_13 : zk_I g10 := by rw [e_12]; exact zk_upd (L := 0) (H := 7) rfl rfl I ⟨by omega, by omega⟩
          have F_14 : zk_fr fr_S_seat g g10 := by rw [e_12]; exact zk_fu (zk_f0 _) (Or.inl rfl)
          have m_18 : 0 ≤ (g10 36 2) ∧ (g10 36 2) ≤ 12 := I_13.1 36 2
          have m_19 : g10 36 2 = g 36 2 := by rw [e_12]; exact zi_u_ne (by decide)
          refine ⟨⟨by omega, by omega⟩, ?_⟩
          intro g12 e_15
          have I_16 : zk_I g12 := by rw [e_15]; exact zk_upd (L := 0) (H := 9) rfl rfl I_13 ⟨by omega, by omega⟩
          have F_17 : zk_fr fr_S_seat g g12 := by rw [e_15]; exact zk_fu F_14 (Or.inr (Or.inl rfl))
          have m_23 : 0 ≤ (g12 36 2) ∧ (g12 36 2) ≤ 12 := I_16.1 36 2
          have m_24 : g12 36 2 = g10 36 2 := by rw [e_15]; exact zi_u_ne (by decide)
          intro g13 e_20
          have I_21 : zk_I g13 := by rw [e_20]; exact zk_upd (L := 0) (H := 12) rfl rfl I_16 ⟨by omega, by omega⟩
          have F_22 : zk_fr fr_S_seat g g13 := by rw [e_20]; exact zk_fu F_17 (Or.inr (Or.inr ⟨rfl, rfl⟩))
          have m_25 : 0 ≤ (g13 36 2) ∧ (g13 36 2) ≤ 12 := I_21.1 36 2
          have m_26 : g13 36 2 = (g12 36 2) + 1 := by rw [e_20]; exact zi_u_eq
          exact hQ _ _ I_21 F_22 ⟨by omega, by omega⟩ (by omega) (by omega) (by omega)
        · exact hQ _ _ I (zk_f0 _) ⟨by omega, by omega⟩ (by omega) (by omega) (by omega)
  · intro g17 e_27
    have I_28 : zk_I g17 := by rw [e_27]; exact zk_upd (L := 0) (H := 12) rfl rfl I ⟨by omega, by omega⟩
    have F_29 : zk_fr fr_S_seat g g17 := by rw [e_27]; exact zk_fu (zk_f0 _) (Or.inr (Or.inr ⟨rfl, rfl⟩))
    have m_30 : 0 ≤ (g17 36 2) ∧ (g17 36 2) ≤ 12 := I_28.1 36 2
    have m_31 : g17 36 2 = 0 := by rw [e_27]; exact zi_u_eq
    exact hQ _ _ I_28 F_29 ⟨by omega, by omega⟩ (by omega) (by omega) (by omega)
