-- by program (wip/gen/mkz.py)
-- SpoutNews.isWord(I)Z
set_option maxRecDepth 100000 in
set_option maxHeartbeats 4000000 in
theorem k_S_isWord {l0 : Int} {g : zi_M} {Q : Int → zi_M → Prop} (I : zk_I g) (p0 : (-2147483648) ≤ l0 ∧ l0 ≤ 2147483647) (hQ : ∀ v : Int, (l0 < 0 → v = 0) → (0 ≤ l0 → 16 ≤ l0 → v = 0) → (0 ≤ l0 → l0 < 16 → v = 1) → Q v g) : w_S_isWord l0 g Q := by
  unfold w_S_isWord
  refine ⟨⟨by omega, by omega⟩, ?_⟩
  refine ⟨fun c3 => ?_, fun c3 => ?_⟩
  · exact hQ _ (by intros; omega) (by intros; omega) (by intros; omega)
  · refine ⟨fun c2 => ?_, fun c2 => ?_⟩
    · exact hQ _ (by intros; omega) (by intros; omega) (by intros; omega)
    · exact hQ _ (by intros; omega) (by intros; omega) (by intros; omega)
-- SpoutNews$Thought.reach(LSpoutNews$Texts;I)I
theorem k_Thought_reach_l8 {g : zi_M} {q : Int} {K42 : Int → zi_M → Prop} {Q : Int → zi_M → Prop} (I : zk_I g) (hK : ∀ s : Int, ((-2147483648) ≤ s ∧ s ≤ 2147483647) → ((-1) ≤ q → q ≤ 9 → zeR (zeg g) q s) → K42 s g) :
    ∀ (n : Nat) (l3 l4 l5 : Int), (0 ≤ l5 ∧ l5 ≤ 10) → ((-2147483648) ≤ l3 ∧ l3 ≤ 2147483647) → ((-2147483648) ≤ l4 ∧ l4 ≤ 2147483647) → ((-1) ≤ q → q ≤ 9 → zRc (zeg g) q l5 l3 l4) → 10 - l5 < (n : Int) → w_Thought_reach_l8 K42 Q n l3 l4 l5 g
  | 0, l3, l4, l5, b0, b1, b2, b3, hm => by exfalso; omega
  | n + 1, l3, l4, l5, b0, b1, b2, b3, hm => by
    unfold w_Thought_reach_l8
    refine ⟨⟨by omega, by omega⟩, fun c10 => hK l3 b1 (fun a b => zRc_10 (b3 a b) (by omega)), fun c => ⟨b2, fun e => hK l3 b1 (fun a b => zRc_m (zeg_m g) b0.1 b0.2 (b3 a b) e), fun ne => ?_⟩⟩
    refine k_Texts_gutterOf I b2 (fun v3 d1 d2 d3 => ?_)
    have ev := zeg_v d1 d2 d3
    have vb := zeg_b I l4
    rw [← ev] at vb
    have r := zi_r_or l3 (zi_shl 1 l4)
    have r' : (-2147483648) ≤ zi_or l3 (zi_shl 1 l4) ∧ zi_or l3 (zi_shl 1 l4) ≤ 2147483647 := r
    refine k_Thought_reach_l8 I hK n _ _ _ ⟨by omega, by omega⟩ r' ⟨by omega, by omega⟩ (fun a b => ?_) (by omega)
    have z := b3 a b
    have lb := zit_B (zeg_b I) (p := q) ⟨by omega, b⟩ l5.toNat
    rw [← z.2.2] at lb
    exact zRc_s z b0.1 ⟨by omega, lb.2⟩ ev
theorem k_Thought_reach {l2 : Int} {g : zi_M} {Q : Int → zi_M → Prop} (I : zk_I g) (p2 : (-2147483648) ≤ l2 ∧ l2 ≤ 2147483647) (hQ : ∀ v : Int, ((-2147483648) ≤ v ∧ v ≤ 2147483647) → ((-1) ≤ l2 → l2 ≤ 9 → zeR (zeg g) l2 v) → Q v g) : w_Thought_reach l2 g Q := by
  unfold w_Thought_reach
  exact ⟨11, k_Thought_reach_l8 I (fun s hs h => hQ s hs h) 11 0 l2 0 ⟨by decide, by decide⟩ ⟨by decide, by decide⟩ p2 (fun _ _ => zRc_0) (by decide)⟩

-- SpoutNews$Thought.tellers(LSpoutNews$World;LSpoutNews$Texts;II)I
set_option maxRecDepth 100000 in
set_option maxHeartbeats 4000000 in
theorem k_Thought_tellers_l6 {g : zi_M} (I : zk_I g) {l3 : Int} {l4 : Int} {K66 : Int → zi_M → Prop} {Q : Int → zi_M → Prop} (q3 : (-2147483648) ≤ l3 ∧ l3 ≤ 2147483647) (q4 : (-2147483648) ≤ l4 ∧ l4 ≤ 2147483647) (hK66 : ∀ (k5 : Int), (0 ≤ k5 ∧ k5 ≤ 255) → (zTT g l3 l4 (g 2 11) k5) → K66 k5 g) (hQ : ∀ v : Int, (0 ≤ v ∧ v ≤ 255) → (zTT g l3 l4 (g 2 11) v) → Q v g) : ∀ (n : Nat) {l5 : Int} {l6 : Int}, (0 ≤ l5 ∧ l5 ≤ 255) → (0 ≤ l6 ∧ l6 ≤ 8) → (l6 ≤ g 2 11) → (zTT g l3 l4 l6 l5) → 8 - l6 < (n : Int) → w_Thought_tellers_l6 l3 l4 K66 Q n l5 l6 g
  | 0, l5, l6, b0, b1, b2, b3, hm => by exfalso; omega
  | n + 1, l5, l6, b0, b1, b2, b3, hm => by
    unfold w_Thought_tellers_l6
    have m_1 : 0 ≤ (g 2 11) ∧ (g 2 11) ≤ 8 := I.1 2 11
    refine ⟨⟨by omega, by omega⟩, ⟨by omega, by omega⟩, ?_⟩
    refine ⟨fun c9 => ?_, fun c9 => ?_⟩
    · exact hK66 _ ⟨by omega, by omega⟩ (by exact zTT_x (by assumption) (by omega))
    · refine ⟨⟨by omega, by omega⟩, ?_⟩
      have m_2 : (-2147483648) ≤ (g 10 l6) ∧ (g 10 l6) ≤ 2147483647 := I.1 10 l6
      have m_3 := zi_r_shr (g 10 l6) l3
      try have m_4 := (zi_shr_f (g 10 l6) l3).2 ⟨by omega, by omega⟩
      have m_5 := zi_r_and (zi_shr (g 10 l6) l3) 1
      try have m_6 := (zi_and_f (zi_shr (g 10 l6) l3) 1).2.1 ⟨by omega, by omega⟩
      try have m_7 := (zi_and_f (zi_shr (g 10 l6) l3) 1).2.2 ⟨by omega, by omega⟩
      refine ⟨fun c8 => ?_, fun c8 => ?_⟩
      · exact k_Thought_tellers_l6 I q3 q4 hK66 hQ n ⟨by omega, by omega⟩ ⟨by omega, by omega⟩ (by omega) (by first | exact zTT_4 I (by assumption) (by assumption) (by assumption) (by assumption) (by omega) | exact zTT_3 I (by assumption) (by assumption) (by assumption) | exact zTT_1 (by assumption) (by assumption) | exact zTT_0) (by omega)
      · have m_8 : (-1) ≤ (g 11 l6) ∧ (g 11 l6) ≤ 9 := I.1 11 l6
        refine k_Thought_reach I ⟨by omega, by omega⟩ (fun v4 b_9 b_10 => ?_)
        have m_11 := zi_r_shr v4 l4
        try have m_12 := (zi_shr_f v4 l4).2 ⟨by omega, by omega⟩
        have m_13 := zi_r_and (zi_shr v4 l4) 1
        try have m_14 := (zi_and_f (zi_shr v4 l4) 1).2.1 ⟨by omega, by omega⟩
        try have m_15 := (zi_and_f (zi_shr v4 l4) 1).2.2 ⟨by omega, by omega⟩
        refine ⟨fun c7 => ?_, fun c7 => ?_⟩
        · exact k_Thought_tellers_l6 I q3 q4 hK66 hQ n ⟨by omega, by omega⟩ ⟨by omega, by omega⟩ (by omega) (by first | exact zTT_4 I (by assumption) (by assumption) (by assumption) (by assumption) (by omega) | exact zTT_3 I (by assumption) (by assumption) (by assumption) | exact zTT_1 (by assumption) (by assumption) | exact zTT_0) (by omega)
        · have m_16 := zi_r_shl 1 l6
          try have m_17 := (zi_shl_f l6).2.1 ⟨by omega, by omega⟩
          first | have m_18 := (zi_shl_f l6).2.2.1 ⟨by omega, by omega⟩ | have m_19 := (zi_shl_f l6).2.2.2.1 ⟨by omega, by omega⟩ | have m_20 := (zi_shl_f l6).2.2.2.2.1 ⟨by omega, by omega⟩ | have m_21 := (zi_shl_f l6).2.2.2.2.2.1 ⟨by omega, by omega⟩ | have m_22 := (zi_shl_f l6).2.2.2.2.2.2 ⟨by omega, by omega⟩ | skip
          first | have m_23 := (zi_or_f l5 (zi_shl 1 l6)).2.1 ⟨by omega, by omega, by omega, by omega⟩ | have m_23 := (zi_or_f l5 (zi_shl 1 l6)).2.2.1 ⟨by omega, by omega, by omega, by omega⟩ | have m_23 := (zi_or_f l5 (zi_shl 1 l6)).2.2.2.1 ⟨by omega, by omega, by omega, by omega⟩ | have m_23 := (zi_or_f l5 (zi_shl 1 l6)).2.2.2.2.1 ⟨by omega, by omega, by omega, by omega⟩ | have m_23 := (zi_or_f l5 (zi_shl 1 l6)).2.2.2.2.2 ⟨by omega, by omega, by omega, by omega⟩ | have m_23 := zi_r_or l5 (zi_shl 1 l6)
          exact k_Thought_tellers_l6 I q3 q4 hK66 hQ n ⟨by omega, by omega⟩ ⟨by omega, by omega⟩ (by omega) (by first | exact zTT_4 I (by assumption) (by assumption) (by assumption) (by assumption) (by omega) | exact zTT_3 I (by assumption) (by assumption) (by assumption) | exact zTT_1 (by assumption) (by assumption) | exact zTT_0) (by omega)
set_option maxRecDepth 100000 in
set_option maxHeartbeats 4000000 in
theorem k_Thought_tellers {l3 : Int} {l4 : Int} {g : zi_M} {Q : Int → zi_M → Prop} (I : zk_I g) (p3 : (-2147483648) ≤ l3 ∧ l3 ≤ 2147483647) (p4 : (-2147483648) ≤ l4 ∧ l4 ≤ 2147483647) (hQ : ∀ v : Int, (0 ≤ v ∧ v ≤ 255) → (zTT g l3 l4 (g 2 11) v) → Q v g) : w_Thought_tellers l3 l4 g Q := by
  unfold w_Thought_tellers
  have m_26 : 0 ≤ (g 2 11) ∧ (g 2 11) ≤ 8 := I.1 2 11
  refine ⟨((8 - 0 : Int).toNat + 1), k_Thought_tellers_l6 (l3 := l3) (l4 := l4) I ⟨by omega, by omega⟩ ⟨by omega, by omega⟩ (fun k10 b_24 b_25 => ?_) hQ ((8 - 0 : Int).toNat + 1) ⟨by omega, by omega⟩ ⟨by omega, by omega⟩ (by omega) (by first | exact zTT_4 I (by assumption) (by assumption) (by assumption) (by assumption) (by omega) | exact zTT_3 I (by assumption) (by assumption) (by assumption) | exact zTT_1 (by assumption) (by assumption) | exact zTT_0) (by omega)⟩
  exact hQ _ ⟨by omega, by omega⟩ (by assumption)
-- SpoutNews.told(II)I
set_option maxRecDepth 100000 in
set_option maxHeartbeats 4000000 in
theorem k_S_told {l1 : Int} {l2 : Int} {g : zi_M} {Q : Int → zi_M → Prop} (I : zk_I g) (p1 : (-2147483648) ≤ l1 ∧ l1 ≤ 2147483647) (p2 : (-2147483648) ≤ l2 ∧ l2 ≤ 2147483647) (hQ : ∀ v : Int, ((-1) ≤ v ∧ v ≤ 255) → (0 ≤ l1 ∧ l1 ≤ 15 ∧ 0 ≤ l2 ∧ l2 < g 2 8 → zTT g l1 l2 (g 2 11) v) → (¬ (0 ≤ l1 ∧ l1 ≤ 15 ∧ 0 ≤ l2 ∧ l2 < g 2 8) → v = -1) → Q v g) : w_S_told l1 l2 g Q := by
  unfold w_S_told
  refine k_S_isWord I ⟨by omega, by omega⟩ (fun v1 b_1 b_2 b_3 => ?_)
  refine ⟨fun c11 => ?_, fun c11 => ?_⟩
  · exact hQ _ ⟨by omega, by omega⟩ (by first | (intro hv; assumption) | (intro hv; exfalso; omega)) (by first | (intro hv; rfl) | (intro hv; exfalso; omega))
  · have m_7 : 0 ≤ (g 2 8) ∧ (g 2 8) ≤ 10 := I.1 2 8
    refine k_World_isSpout rfl I ⟨by omega, by omega⟩ (fun v4 b_4 b_5 b_6 => ?_)
    try simp only [Nat.reduceAdd] at b_4 b_5 b_6
    refine ⟨fun c10 => ?_, fun c10 => ?_⟩
    · have m_8 : 0 ≤ (g 2 11) ∧ (g 2 11) ≤ 8 := I.1 2 11
      refine k_Thought_tellers I ⟨by omega, by omega⟩ ⟨by omega, by omega⟩ (fun v7 b_9 b_10 => ?_)
      exact hQ _ ⟨by omega, by omega⟩ (by first | (intro hv; assumption) | (intro hv; exfalso; omega)) (by first | (intro hv; rfl) | (intro hv; exfalso; omega))
    · exact hQ _ ⟨by omega, by omega⟩ (by first | (intro hv; assumption) | (intro hv; exfalso; omega)) (by first | (intro hv; rfl) | (intro hv; exfalso; omega))
-- SpoutNewsModel.passedFrom(I)I
theorem k_M_passedFrom_l4 {g : zi_M} {p : Int} {K33 : Int → zi_M → Prop} {Q : Int → zi_M → Prop} (I : zk_I g) (hK : ∀ s : Int, (0 ≤ s ∧ s ≤ 1023) → zMp (zf g) p s → K33 s g) :
    ∀ (n : Nat) (l2 l3 : Int), (0 ≤ l2 ∧ l2 ≤ 1023) → ((-1) ≤ l3 ∧ l3 ≤ 9) → zMi (zf g) p l2 l3 → 1023 - l2 < (n : Int) → w_M_passedFrom_l4 K33 Q n l2 l3 g
  | 0, l2, l3, b0, b1, b2, hm => by exfalso; omega
  | n + 1, l2, l3, b0, b1, b2, hm => by
    unfold w_M_passedFrom_l4
    refine ⟨⟨by omega, by omega⟩, fun c9 => hK l2 b0 (zMi_e b2 c9), fun c9 => ?_⟩
    refine k_M_has I ⟨by omega, by omega⟩ ⟨by omega, by omega⟩ (fun v2 b_1 b_2 => ⟨fun c8 => hK l2 b0 (zMi_h b2 b1 c9 b_1 c8), fun c8 => ?_⟩)
    have m_9 : 0 ≤ (g 232 (l3)) ∧ (g 232 (l3)) ≤ 10 := I.1 232 (l3)
    refine k_M_into I ⟨by omega, by omega⟩ (fun v5 b_8 => ?_)
    have z := zMi_s (v := v5) b2 c9 b1 (by rw [b_8]; rfl)
    have m_5 := zi_r_and (zi_shr l2 l3) 1
    try have m_6 := (zi_and_f (zi_shr l2 l3) 1).2.1 ⟨by omega, by omega⟩
    try have m_7 := (zi_and_f (zi_shr l2 l3) 1).2.2 ⟨by omega, by omega⟩
    have m_10 := zi_r_shl 1 l3
    try have m_11 := (zi_shl_f l3).2.1 ⟨by omega, by omega⟩
    first | have m_12 := (zi_shl_f l3).2.2.1 ⟨by omega, by omega⟩ | have m_13 := (zi_shl_f l3).2.2.2.1 ⟨by omega, by omega⟩ | have m_14 := (zi_shl_f l3).2.2.2.2.1 ⟨by omega, by omega⟩ | have m_15 := (zi_shl_f l3).2.2.2.2.2.1 ⟨by omega, by omega⟩ | have m_16 := (zi_shl_f l3).2.2.2.2.2.2 ⟨by omega, by omega⟩ | skip
    have m_17 := (zi_or_f l2 (zi_shl 1 l3)).2.2.2.1 ⟨by omega, by omega, by omega, by omega⟩
    have m_18 := zi_or_new (s := l2) (k := l3) ⟨by omega, by omega⟩ ⟨by omega, by omega⟩ (by omega)
    exact k_M_passedFrom_l4 I hK n _ _ ⟨by omega, by omega⟩ ⟨by omega, by omega⟩ z (by omega)
theorem k_M_passedFrom {l1 : Int} {g : zi_M} {Q : Int → zi_M → Prop} (I : zk_I g) (p1 : 0 ≤ l1 ∧ l1 ≤ 9) (hQ : ∀ v : Int, (0 ≤ v ∧ v ≤ 1023) → (zMp (zf g) l1 v) → Q v g) : w_M_passedFrom l1 g Q := by
  unfold w_M_passedFrom
  exact ⟨1024, k_M_passedFrom_l4 I (fun s hs h => hQ s hs h) 1024 0 l1 ⟨by decide, by decide⟩ ⟨by omega, by omega⟩ zMi_0 (by decide)⟩

-- SpoutNewsModel.told(II)I
set_option maxRecDepth 100000 in
set_option maxHeartbeats 4000000 in
theorem k_M_told_l31 {l1 : Int} {l2 : Int} {K111 : Int → zi_M → Prop} {Q : Int → zi_M → Prop} {g0 : zi_M} (q1 : (-2147483648) ≤ l1 ∧ l1 ≤ 2147483647) (q2 : (-2147483648) ≤ l2 ∧ l2 ≤ 2147483647) (hK111 : ∀ (k3 : Int) (g : zi_M), zk_I g → zk_fr fr_M_told g0 g → (0 ≤ k3 ∧ k3 ≤ 255) → (zTM g l1 l2 (g 214 7) k3) → K111 k3 g) (hQ : ∀ (v : Int) (g' : zi_M), zk_I g' → zk_fr fr_M_told g0 g' → ((-1) ≤ v ∧ v ≤ 255) → (0 ≤ l1 ∧ l1 ≤ 15 ∧ 0 ≤ l2 ∧ l2 < g0 214 6 → zTM g' l1 l2 (g' 214 7) v) → (¬ (0 ≤ l1 ∧ l1 ≤ 15 ∧ 0 ≤ l2 ∧ l2 < g0 214 6) → v = -1) → Q v g') : ∀ (n : Nat) {l3 : Int} {l4 : Int} {g : zi_M}, zk_I g → zk_fr fr_M_told g0 g → (0 ≤ l3 ∧ l3 ≤ 255) → (0 ≤ l4 ∧ l4 ≤ 8) → (l4 ≤ g 214 7) → (zTM g l1 l2 l4 l3) → 8 - l4 < (n : Int) → w_M_told_l31 l1 l2 K111 Q n l3 l4 g
  | 0, l3, l4, g, I, F, b0, b1, b2, b3, hm => by exfalso; omega
  | n + 1, l3, l4, g, I, F, b0, b1, b2, b3, hm => by
    unfold w_M_told_l31
    have m_16 : 0 ≤ (g 214 7) ∧ (g 214 7) ≤ 8 := I.1 214 7
    refine ⟨⟨by omega, by omega⟩, ⟨by omega, by omega⟩, ?_⟩
    refine ⟨fun c25 => ?_, fun c25 => ?_⟩
    · exact hK111 _ _ I F ⟨by omega, by omega⟩ (by exact zTM_x (by assumption) (by omega))
    · refine ⟨⟨by omega, by omega⟩, ?_⟩
      have m_17 := zk_rng I 215 (236 + l4)
      have m_20 := zi_r_shr ((g 215 (236 + l4))) (l1)
      try have m_21 := (zi_shr_f ((g 215 (236 + l4))) (l1)).2 ⟨by omega, by omega⟩
      have m_22 := zi_r_and (zi_shr (g 215 (236 + l4)) l1) 1
      try have m_23 := (zi_and_f (zi_shr (g 215 (236 + l4)) l1) 1).2.1 ⟨by omega, by omega⟩
      try have m_24 := (zi_and_f (zi_shr (g 215 (236 + l4)) l1) 1).2.2 ⟨by omega, by omega⟩
      refine k_M_has I ⟨by omega, by omega⟩ ⟨by omega, by omega⟩ (fun v11 b_18 b_19 => ?_)
      refine ⟨fun c24 => ?_, fun c24 => ?_⟩
      · exact k_M_told_l31 q1 q2 hK111 hQ n I F ⟨by omega, by omega⟩ ⟨by omega, by omega⟩ (by omega) (by first | exact zTM_4 (by assumption) (by assumption) (by assumption) (by assumption) (by assumption) (by assumption) (by assumption) (by omega) | exact zTM_3 (by assumption) (by assumption) (by assumption) (by assumption) | exact zTM_2 (by assumption) (by assumption) | exact zTM_1 (by assumption) (by assumption) (by assumption) | exact zTM_0) (by omega)
      · refine ⟨⟨by omega, by omega⟩, ?_⟩
        have m_25 := zk_now244 I (i := (244 + l4)) (by omega)
        refine ⟨⟨by omega, by omega⟩, ?_⟩
        refine ⟨fun c23 => ?_, fun c23 => ?_⟩
        · exact k_M_told_l31 q1 q2 hK111 hQ n I F ⟨by omega, by omega⟩ ⟨by omega, by omega⟩ (by omega) (by first | exact zTM_4 (by assumption) (by assumption) (by assumption) (by assumption) (by assumption) (by assumption) (by assumption) (by omega) | exact zTM_3 (by assumption) (by assumption) (by assumption) (by assumption) | exact zTM_2 (by assumption) (by assumption) | exact zTM_1 (by assumption) (by assumption) (by assumption) | exact zTM_0) (by omega)
        · refine k_M_passedFrom I ⟨by omega, by omega⟩ (fun v16 b_26 b_27 => ?_)
          have m_30 := zi_r_shr (v16) (l2)
          try have m_31 := (zi_shr_f (v16) (l2)).2 ⟨by omega, by omega⟩
          have m_32 := zi_r_and (zi_shr v16 l2) 1
          try have m_33 := (zi_and_f (zi_shr v16 l2) 1).2.1 ⟨by omega, by omega⟩
          try have m_34 := (zi_and_f (zi_shr v16 l2) 1).2.2 ⟨by omega, by omega⟩
          refine k_M_has I ⟨by omega, by omega⟩ ⟨by omega, by omega⟩ (fun v19 b_28 b_29 => ?_)
          refine ⟨fun c22 => ?_, fun c22 => ?_⟩
          · exact k_M_told_l31 q1 q2 hK111 hQ n I F ⟨by omega, by omega⟩ ⟨by omega, by omega⟩ (by omega) (by first | exact zTM_4 (by assumption) (by assumption) (by assumption) (by assumption) (by assumption) (by assumption) (by assumption) (by omega) | exact zTM_3 (by assumption) (by assumption) (by assumption) (by assumption) | exact zTM_2 (by assumption) (by assumption) | exact zTM_1 (by assumption) (by assumption) (by assumption) | exact zTM_0) (by omega)
          · have m_35 := zi_r_shl 1 l4
            try have m_36 := (zi_shl_f l4).2.1 ⟨by omega, by omega⟩
            first | have m_37 := (zi_shl_f l4).2.2.1 ⟨by omega, by omega⟩ | have m_38 := (zi_shl_f l4).2.2.2.1 ⟨by omega, by omega⟩ | have m_39 := (zi_shl_f l4).2.2.2.2.1 ⟨by omega, by omega⟩ | have m_40 := (zi_shl_f l4).2.2.2.2.2.1 ⟨by omega, by omega⟩ | have m_41 := (zi_shl_f l4).2.2.2.2.2.2 ⟨by omega, by omega⟩ | skip
            first | have m_42 := (zi_or_f l3 (zi_shl 1 l4)).2.1 ⟨by omega, by omega, by omega, by omega⟩ | have m_42 := (zi_or_f l3 (zi_shl 1 l4)).2.2.1 ⟨by omega, by omega, by omega, by omega⟩ | have m_42 := (zi_or_f l3 (zi_shl 1 l4)).2.2.2.1 ⟨by omega, by omega, by omega, by omega⟩ | have m_42 := (zi_or_f l3 (zi_shl 1 l4)).2.2.2.2.1 ⟨by omega, by omega, by omega, by omega⟩ | have m_42 := (zi_or_f l3 (zi_shl 1 l4)).2.2.2.2.2 ⟨by omega, by omega, by omega, by omega⟩ | have m_42 := zi_r_or l3 (zi_shl 1 l4)
            exact k_M_told_l31 q1 q2 hK111 hQ n I F ⟨by omega, by omega⟩ ⟨by omega, by omega⟩ (by omega) (by first | exact zTM_4 (by assumption) (by assumption) (by assumption) (by assumption) (by assumption) (by assumption) (by assumption) (by omega) | exact zTM_3 (by assumption) (by assumption) (by assumption) (by assumption) | exact zTM_2 (by assumption) (by assumption) | exact zTM_1 (by assumption) (by assumption) (by assumption) | exact zTM_0) (by omega)
set_option maxRecDepth 100000 in
set_option maxHeartbeats 4000000 in
theorem k_M_told {l1 : Int} {l2 : Int} {g : zi_M} {Q : Int → zi_M → Prop} (I : zk_I g) (p1 : (-2147483648) ≤ l1 ∧ l1 ≤ 2147483647) (p2 : (-2147483648) ≤ l2 ∧ l2 ≤ 2147483647) (hQ : ∀ (v : Int) (g' : zi_M), zk_I g' → zk_fr fr_M_told g g' → ((-1) ≤ v ∧ v ≤ 255) → (0 ≤ l1 ∧ l1 ≤ 15 ∧ 0 ≤ l2 ∧ l2 < g 214 6 → zTM g' l1 l2 (g' 214 7) v) → (¬ (0 ≤ l1 ∧ l1 ≤ 15 ∧ 0 ≤ l2 ∧ l2 < g 214 6) → v = -1) → Q v g') : w_M_told l1 l2 g Q := by
  unfold w_M_told
  intro g1 e_1
  have I_2 : zk_I g1 := by rw [e_1]; exact zk_upd (L := (-2147483648)) (H := 2147483647) rfl rfl I ⟨by omega, by omega⟩
  have F_3 : zk_fr fr_M_told g g1 := by rw [e_1]; exact zk_fu (zk_f0 _) ⟨rfl, rfl⟩
  refine k_M_isIn I_2 ⟨by omega, by omega⟩ ⟨by omega, by omega⟩ ⟨by omega, by omega⟩ (fun v2 b_4 b_5 b_6 => ?_)
  refine ⟨fun c30 => ?_, fun c30 => ?_⟩
  · have m_7 : 0 ≤ (g1 214 7) ∧ (g1 214 7) ≤ 8 := I_2.1 214 7
    have m_8 : g1 214 7 = g 214 7 := by rw [e_1]; exact zi_u_ni (by decide)
    have m_9 : 0 ≤ (g 214 7) ∧ (g 214 7) ≤ 8 := I.1 214 7
    exact hQ _ _ I_2 F_3 ⟨by omega, by omega⟩ (by first | (intro hv; assumption) | (intro hv; exfalso; omega)) (by first | (intro hv; rfl) | (intro hv; exfalso; omega))
  · have m_13 : 0 ≤ (g1 214 6) ∧ (g1 214 6) ≤ 10 := I_2.1 214 6
    have m_14 : g1 214 6 = g 214 6 := by rw [e_1]; exact zi_u_ni (by decide)
    have m_15 : 0 ≤ (g 214 6) ∧ (g 214 6) ≤ 10 := I.1 214 6
    refine k_M_isSpout I_2 ⟨by omega, by omega⟩ (fun v5 b_10 b_11 b_12 => ?_)
    refine ⟨fun c29 => ?_, fun c29 => ?_⟩
    · have m_48 : 0 ≤ (g1 214 7) ∧ (g1 214 7) ≤ 8 := I_2.1 214 7
      have m_49 : g1 214 7 = g 214 7 := by rw [e_1]; exact zi_u_ni (by decide)
      have m_50 : 0 ≤ (g 214 7) ∧ (g 214 7) ≤ 8 := I.1 214 7
      refine ⟨((8 - 0 : Int).toNat + 1), k_M_told_l31 (l1 := l1) (l2 := l2) ⟨by omega, by omega⟩ ⟨by omega, by omega⟩ (fun k26 g27 I_43 F_44 b_45 b_46 => ?_) hQ ((8 - 0 : Int).toNat + 1) I_2 F_3 ⟨by omega, by omega⟩ ⟨by omega, by omega⟩ (by omega) (by first | exact zTM_4 (by assumption) (by assumption) (by assumption) (by assumption) (by assumption) (by assumption) (by assumption) (by omega) | exact zTM_3 (by assumption) (by assumption) (by assumption) (by assumption) | exact zTM_2 (by assumption) (by assumption) | exact zTM_1 (by assumption) (by assumption) (by assumption) | exact zTM_0) (by omega)⟩
      have m_47 : 0 ≤ (g27 214 7) ∧ (g27 214 7) ≤ 8 := I_43.1 214 7
      exact hQ _ _ I_43 F_44 ⟨by omega, by omega⟩ (by first | (intro hv; assumption) | (intro hv; exfalso; omega)) (by first | (intro hv; rfl) | (intro hv; exfalso; omega))
    · have m_51 : 0 ≤ (g1 214 7) ∧ (g1 214 7) ≤ 8 := I_2.1 214 7
      have m_52 : g1 214 7 = g 214 7 := by rw [e_1]; exact zi_u_ni (by decide)
      have m_53 : 0 ≤ (g 214 7) ∧ (g 214 7) ≤ 8 := I.1 214 7
      exact hQ _ _ I_2 F_3 ⟨by omega, by omega⟩ (by first | (intro hv; assumption) | (intro hv; exfalso; omega)) (by first | (intro hv; rfl) | (intro hv; exfalso; omega))
-- SpoutNews$Thought.lastOnes(LSpoutNews$Texts;I)I
theorem k_Thought_lastOnes_l5 {g : zi_M} {p : Int} {K33 : Int → zi_M → Prop} {Q : Int → zi_M → Prop} (I : zk_I g) (hK : ∀ s : Int, ((-2147483648) ≤ s ∧ s ≤ 2147483647) → (0 ≤ p → p ≤ 9 → 0 ≤ s ∧ s ≤ 9 ∧ ∃ t : Nat, t ≤ 10 ∧ (∀ i : Nat, i ≤ t → zit (zeg g) i p ≠ -1) ∧ (t = 10 ∨ zeg g (zit (zeg g) t p) = -1) ∧ s = zit (zeg g) t p) → K33 s g) :
    ∀ (n : Nat) (l3 l4 : Int), (0 ≤ l4 ∧ l4 ≤ 10) → ((-2147483648) ≤ l3 ∧ l3 ≤ 2147483647) → (0 ≤ p → p ≤ 9 → l3 = zit (zeg g) l4.toNat p ∧ ∀ i : Nat, i ≤ l4.toNat → zit (zeg g) i p ≠ -1) → 10 - l4 < (n : Int) → w_Thought_lastOnes_l5 K33 Q n l3 l4 g
  | 0, l3, l4, b0, b1, b3, hm => by exfalso; omega
  | n + 1, l3, l4, b0, b1, b3, hm => by
    have hr : 0 ≤ p → p ≤ 9 → 0 ≤ l3 ∧ l3 ≤ 9 := fun a b => by
      obtain ⟨e, ne⟩ := b3 a b
      have lb := zit_B (zeg_b I) (p := p) ⟨by omega, b⟩ l4.toNat
      have w := ne _ (Nat.le_refl _)
      omega
    unfold w_Thought_lastOnes_l5
    refine ⟨⟨by omega, by omega⟩, fun c10 => hK l3 b1 (fun a b => ?_), fun c => ?_⟩
    · obtain ⟨e, ne⟩ := b3 a b
      have h := hr a b
      exact ⟨h.1, h.2, 10, Nat.le_refl _, fun i hi => ne i (by omega), Or.inl rfl, by rw [e, show l4.toNat = 10 by omega]⟩
    · refine k_Texts_gutterOf I b1 (fun v2 d1 d2 d3 => ?_)
      have ev := zeg_v d1 d2 d3
      have vb := zeg_b I l3
      rw [← ev] at vb
      refine ⟨⟨by omega, by omega⟩, fun e1 => hK l3 b1 (fun a b => ?_), fun ne1 => ?_⟩
      · obtain ⟨e, ne⟩ := b3 a b
        have h := hr a b
        exact ⟨h.1, h.2, l4.toNat, by omega, ne, Or.inr (by rw [← e, ← ev]; exact e1), e⟩
      · refine k_Texts_gutterOf I b1 (fun v6 f1 f2 f3 => ?_)
        have ew := zeg_v f1 f2 f3
        have wb := zeg_b I l3
        rw [← ew] at wb
        refine k_Thought_lastOnes_l5 I hK n v6 (l4 + 1) ⟨by omega, by omega⟩ ⟨by omega, by omega⟩ (fun a b => ?_) (by omega)
        obtain ⟨e, ne⟩ := b3 a b
        have e2 : v6 = zit (zeg g) (l4 + 1).toNat p := by
          rw [show (l4 + 1).toNat = l4.toNat + 1 by omega, ew, e]
          rfl
        refine ⟨e2, fun i hi => ?_⟩
        by_cases w : i ≤ l4.toNat
        · exact ne i w
        · rw [show i = (l4 + 1).toNat by omega, ← e2]
          omega
theorem k_Thought_lastOnes {l2 : Int} {g : zi_M} {Q : Int → zi_M → Prop} (I : zk_I g) (p2 : (-2147483648) ≤ l2 ∧ l2 ≤ 2147483647) (hQ : ∀ v : Int, ((-2147483648) ≤ v ∧ v ≤ 2147483647) → (0 ≤ l2 → l2 ≤ 9 → zeL (zeg g) l2 v) → Q v g) : w_Thought_lastOnes l2 g Q := by
  unfold w_Thought_lastOnes
  refine ⟨11, k_Thought_lastOnes_l5 (p := l2) I (fun s hs h => ?_) 11 l2 0 ⟨by decide, by decide⟩ p2 (fun a b => ⟨rfl, fun i hi => ?_⟩) (by decide)⟩
  · refine k_Thought_reach I hs (fun v hv hz => hQ v hv (fun a b => ?_))
    obtain ⟨s0, s9, t, t10, tn, tt, e⟩ := h a b
    exact ⟨t, t10, tn, tt, by rw [← e]; exact hz (by omega) s9⟩
  · have : i = 0 := by omega
    rw [this]
    show l2 ≠ -1
    omega

-- SpoutNews$Thought.endOf(LSpoutNews$Texts;I)I
theorem k_Thought_endOf_l13 {g : zi_M} {l3 : Int} {K38 : Int → zi_M → Prop} {Q : Int → zi_M → Prop} (hK : ∀ v : Int, 0 ≤ v → v ≤ 10 → (zBr l3 → (v < 10 → zB_ l3 v) ∧ ∀ j : Int, 0 ≤ j → j < v → ¬ zB_ l3 j) → K38 v g) :
    ∀ (n : Nat) (l4 l5 : Int), l4 = l5 → (0 ≤ l5 ∧ l5 ≤ 10) → (zBr l3 → ∀ j : Int, 0 ≤ j → j < l5 → ¬ zB_ l3 j) → 10 - l5 < (n : Int) → w_Thought_endOf_l13 l3 K38 Q n l4 l5 g
  | 0, l4, l5, e, b0, b1, hm => by exfalso; omega
  | n + 1, l4, l5, e, b0, b1, hm => by
    subst e
    unfold w_Thought_endOf_l13
    refine ⟨⟨by omega, by omega⟩, fun c => hK l4 b0.1 b0.2 (fun z => ⟨fun h => by exfalso; omega, b1 z⟩), fun c => ⟨fun ne => hK l4 b0.1 b0.2 (fun z => ⟨fun _ => ?_, b1 z⟩), fun e0 => ?_⟩⟩
    · rcases zB_01 z (k := l4) ⟨b0.1, by omega⟩ with h | h
      · exact absurd h ne
      · exact (zB_has z ⟨b0.1, by omega⟩).mp h
    · refine k_Thought_endOf_l13 hK n (l4 + 1) (l4 + 1) rfl ⟨by omega, by omega⟩ (fun z j j0 j1 => ?_) (by omega)
      by_cases w : j = l4
      · rw [w]
        intro h
        have h1 := (zB_has z ⟨b0.1, by omega⟩).mpr h
        omega
      · exact b1 z j j0 (by omega)
theorem k_Thought_endOf {l2 : Int} {g : zi_M} {Q : Int → zi_M → Prop} (I : zk_I g) (p2 : (-2147483648) ≤ l2 ∧ l2 ≤ 2147483647) (hQ : ∀ v : Int, (0 ≤ v) → (0 ≤ l2 → l2 ≤ 9 → zEo (zeg g) l2 v) → Q v g) : w_Thought_endOf l2 g Q := by
  unfold w_Thought_endOf
  refine k_Thought_lastOnes I p2 (fun m hm hz => ⟨11, ?_⟩)
  refine k_Thought_endOf_l13 (fun v v0 v10 h => hQ v v0 (fun a b => ?_)) 11 0 0 rfl ⟨by decide, by decide⟩ (fun _ j j0 j1 => by exfalso; omega) (by decide)
  have z := hz a b
  obtain ⟨t, -, -, -, zr⟩ := id z
  have k := h zr.1
  exact ⟨m, z, v0, v10, k.1, k.2⟩

-- SpoutNews$Thought.guttersToEnd(LSpoutNews$Texts;I)I
theorem k_Thought_guttersToEnd_l16 {g : zi_M} {p l3 : Int} {K55 : Int → zi_M → Prop} {Q : Int → zi_M → Prop} (I : zk_I g) (hK : ∀ v : Int, 0 ≤ v → v ≤ 10 → (0 ≤ p → p ≤ 9 → zBr l3 → (v < 10 → zit (zeg g) v.toNat p = -1 ∨ zB_ l3 (zit (zeg g) v.toNat p)) ∧ ∀ i : Nat, (i : Int) < v → ¬ zB_ l3 (zit (zeg g) i p)) → K55 v g) :
    ∀ (n : Nat) (l4 l5 l6 : Int), l5 = l6 → (0 ≤ l6 ∧ l6 ≤ 10) → ((-2147483648) ≤ l4 ∧ l4 ≤ 2147483647) → (0 ≤ p → p ≤ 9 → l4 = zit (zeg g) l6.toNat p ∧ (zBr l3 → ∀ i : Nat, (i : Int) < l6 → ¬ zB_ l3 (zit (zeg g) i p))) → 10 - l6 < (n : Int) → w_Thought_guttersToEnd_l16 l3 K55 Q n l4 l5 l6 g
  | 0, l4, l5, l6, e, b0, b1, b2, hm => by exfalso; omega
  | n + 1, l4, l5, l6, e, b0, b1, b2, hm => by
    subst e
    unfold w_Thought_guttersToEnd_l16
    refine ⟨⟨by omega, by omega⟩, fun c => hK l5 b0.1 b0.2 (fun a b z => ⟨fun h => by exfalso; omega, (b2 a b).2 z⟩), fun c => ⟨b1, fun e1 => hK l5 b0.1 b0.2 (fun a b z => ⟨fun _ => Or.inl (by rw [← (b2 a b).1]; exact e1), (b2 a b).2 z⟩), fun ne1 => ⟨fun nb => hK l5 b0.1 b0.2 (fun a b z => ⟨fun _ => Or.inr ?_, (b2 a b).2 z⟩), fun nb => ?_⟩⟩⟩
    · rw [← (b2 a b).1]
      have lb := zit_B (zeg_b I) (p := p) ⟨by omega, b⟩ l5.toNat
      rw [← (b2 a b).1] at lb
      rcases zB_01 z (k := l4) ⟨by omega, by omega⟩ with h | h
      · exact absurd h nb
      · exact (zB_has z ⟨by omega, by omega⟩).mp h
    · refine k_Texts_gutterOf I b1 (fun v6 d1 d2 d3 => ?_)
      have ev := zeg_v d1 d2 d3
      have vb := zeg_b I l4
      rw [← ev] at vb
      refine k_Thought_guttersToEnd_l16 I hK n v6 (l5 + 1) (l5 + 1) rfl ⟨by omega, by omega⟩ ⟨by omega, by omega⟩ (fun a b => ?_) (by omega)
      obtain ⟨e, ne⟩ := b2 a b
      refine ⟨by rw [show (l5 + 1).toNat = l5.toNat + 1 by omega, ev, e]; rfl, fun z i hi => ?_⟩
      by_cases w : (i : Int) < l5
      · exact ne z i w
      · have lb := zit_B (zeg_b I) (p := p) ⟨by omega, b⟩ l5.toNat
        rw [← e] at lb
        rw [show i = l5.toNat by omega, ← e]
        intro h
        have h1 := (zB_has z (k := l4) ⟨by omega, by omega⟩).mpr h
        omega
theorem k_Thought_guttersToEnd {l2 : Int} {g : zi_M} {Q : Int → zi_M → Prop} (I : zk_I g) (p2 : (-2147483648) ≤ l2 ∧ l2 ≤ 2147483647) (hQ : ∀ v : Int, (0 ≤ v) → (0 ≤ l2 → l2 ≤ 9 → zGo (zeg g) l2 v) → Q v g) : w_Thought_guttersToEnd l2 g Q := by
  unfold w_Thought_guttersToEnd
  refine k_Thought_lastOnes I p2 (fun m hm hz => ⟨11, ?_⟩)
  refine k_Thought_guttersToEnd_l16 (p := l2) I (fun v v0 v10 h => hQ v v0 (fun a b => ?_)) 11 l2 0 0 rfl ⟨by decide, by decide⟩ p2 (fun a b => ⟨rfl, fun _ i hi => by exfalso; omega⟩) (by decide)
  have z := hz a b
  obtain ⟨t, -, -, -, zr⟩ := id z
  have k := h a b zr.1
  exact ⟨m, z, v0, v10, k.1, k.2⟩

