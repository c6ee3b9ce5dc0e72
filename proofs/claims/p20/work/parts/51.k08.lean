-- by program (wip/gen/mkz.py)
-- SpoutNews$LawReader.comparison(LSpoutNews$Tokens;LSpoutNews$Law;)Z
set_option maxRecDepth 100000 in
set_option maxHeartbeats 4000000 in
theorem k_LawReader_comparison_b57 {s0 : Int} {Q : Int → zi_M → Prop} {g : zi_M} {g0 : zi_M} (I : zk_I g) (F : zk_fr fr_LawReader_comparison g0 g) (ps0 : (-1) ≤ s0 ∧ s0 ≤ 8) (hQ : ∀ (v : Int) (g' : zi_M), zk_I g' → zk_fr fr_LawReader_comparison g0 g' → (0 ≤ v ∧ v ≤ 1) → Q v g') : w_LawReader_comparison_b57 s0 g Q := by
  unfold w_LawReader_comparison_b57
  refine ⟨⟨by omega, by omega⟩, ?_⟩
  refine ⟨fun c27 => ?_, fun c27 => ?_⟩
  · refine k_Tokens_step I (fun g15 I_28 F_29 b_27 => ?_)
    have F_30 : zk_fr fr_LawReader_comparison g0 g15 := zk_ft F F_29 (fun a i => (fun h => (Or.inr (Or.inr (Or.inl h)))))
    refine k_LawReader_sum I_28 (fun v17 g18 I_32 F_33 b_31 => ?_)
    have F_34 : zk_fr fr_LawReader_comparison g0 g18 := zk_ft F_30 F_33 (fun a i => (fun h => Or.elim h (fun h => (Or.inl h)) (fun h => Or.elim h (fun h => (Or.inr (Or.inl h))) (fun h => Or.elim h (fun h => (Or.inr (Or.inr (Or.inl h)))) (fun h => Or.elim h (fun h => (Or.inr (Or.inr (Or.inr (Or.inl h))))) (fun h => Or.elim h (fun h => (Or.inr (Or.inr (Or.inr (Or.inr (Or.inl h)))))) (fun h => (Or.inr (Or.inr (Or.inr (Or.inr (Or.inr h))))))))))))
    refine ⟨fun c23 => ?_, fun c23 => ?_⟩
    · refine k_Law_add I_32 ⟨by omega, by omega⟩ ⟨by omega, by omega⟩ (fun g21 I_35 F_36 => ?_)
      have F_37 : zk_fr fr_LawReader_comparison g0 g21 := zk_ft F_34 F_36 (fun a i => (fun h => Or.elim h (fun h => (Or.inl h)) (fun h => Or.elim h (fun h => (Or.inr (Or.inl h))) (fun h => (Or.inr (Or.inr (Or.inr (Or.inr (Or.inr h)))))))))
      exact hQ _ _ I_35 F_37 ⟨by omega, by omega⟩
    · exact hQ _ _ I_32 F_34 ⟨by omega, by omega⟩
  · refine k_Tokens_refuse I ⟨by omega, by omega⟩ (fun v24 g25 I_40 F_41 b_38 b_39 => ?_)
    have F_42 : zk_fr fr_LawReader_comparison g0 g25 := zk_ft F F_41 (fun a i => (fun h => Or.elim h (fun h => (Or.inr (Or.inr (Or.inr (Or.inl h))))) (fun h => (Or.inr (Or.inr (Or.inr (Or.inr (Or.inl h))))))))
    exact hQ _ _ I_40 F_42 ⟨by omega, by omega⟩
set_option maxRecDepth 100000 in
set_option maxHeartbeats 4000000 in
theorem k_LawReader_comparison {g : zi_M} {Q : Int → zi_M → Prop} (I : zk_I g) (hQ : ∀ (v : Int) (g' : zi_M), zk_I g' → zk_fr fr_LawReader_comparison g g' → (0 ≤ v ∧ v ≤ 1) → Q v g') : w_LawReader_comparison g Q := by
  unfold w_LawReader_comparison
  refine k_LawReader_sum I (fun v1 g2 I_2 F_3 b_1 => ?_)
  have F_4 : zk_fr fr_LawReader_comparison g g2 := zk_ft (zk_f0 _) F_3 (fun a i => (fun h => Or.elim h (fun h => (Or.inl h)) (fun h => Or.elim h (fun h => (Or.inr (Or.inl h))) (fun h => Or.elim h (fun h => (Or.inr (Or.inr (Or.inl h)))) (fun h => Or.elim h (fun h => (Or.inr (Or.inr (Or.inr (Or.inl h))))) (fun h => Or.elim h (fun h => (Or.inr (Or.inr (Or.inr (Or.inr (Or.inl h)))))) (fun h => (Or.inr (Or.inr (Or.inr (Or.inr (Or.inr h))))))))))))
  refine ⟨fun c31 => ?_, fun c31 => ?_⟩
  · have m_9 : 0 ≤ (g2 191 4) ∧ (g2 191 4) ≤ 401 := I_2.1 191 4
    have m_10 : 0 ≤ (g2 191 3) ∧ (g2 191 3) ≤ 401 := I_2.1 191 3
    have m_11 : g2 191 3 = g 191 3 := F_3 _ _ (by unfold fr_LawReader_sum; omega)
    have m_12 : 0 ≤ (g 191 3) ∧ (g 191 3) ≤ 401 := I.1 191 3
    have m_13 : 0 ≤ (g2 192 (g2 191 4)) ∧ (g2 192 (g2 191 4)) ≤ 4 := I_2.1 192 (g2 191 4)
    have m_14 : g2 192 (g2 191 4) = g 192 (g2 191 4) := F_3 _ _ (by unfold fr_LawReader_sum; omega)
    have m_15 : 0 ≤ (g 192 (g2 191 4)) ∧ (g 192 (g2 191 4)) ≤ 4 := I.1 192 (g2 191 4)
    have m_16 : (-1) ≤ (g2 193 (g2 191 4)) ∧ (g2 193 (g2 191 4)) ≤ 9999 := I_2.1 193 (g2 191 4)
    have m_17 : g2 193 (g2 191 4) = g 193 (g2 191 4) := F_3 _ _ (by unfold fr_LawReader_sum; omega)
    have m_18 : (-1) ≤ (g 193 (g2 191 4)) ∧ (g 193 (g2 191 4)) ≤ 9999 := I.1 193 (g2 191 4)
    refine k_Tokens_isAt I_2 ⟨by omega, by omega⟩ ⟨by omega, by omega⟩ (fun v4 b_5 b_6 b_7 b_8 => ?_)
    refine ⟨fun c30 => ?_, fun c30 => ?_⟩
    · refine k_Tokens_isAt I_2 ⟨by omega, by omega⟩ ⟨by omega, by omega⟩ (fun v7 b_19 b_20 b_21 b_22 => ?_)
      refine ⟨fun c29 => ?_, fun c29 => ?_⟩
      · refine k_Tokens_isAt I_2 ⟨by omega, by omega⟩ ⟨by omega, by omega⟩ (fun v10 b_23 b_24 b_25 b_26 => ?_)
        refine ⟨fun c28 => ?_, fun c28 => ?_⟩
        · exact k_LawReader_comparison_b57 I_2 F_4 ⟨by omega, by omega⟩ hQ
        · exact k_LawReader_comparison_b57 I_2 F_4 ⟨by omega, by omega⟩ hQ
      · exact k_LawReader_comparison_b57 I_2 F_4 ⟨by omega, by omega⟩ hQ
    · exact k_LawReader_comparison_b57 I_2 F_4 ⟨by omega, by omega⟩ hQ
  · exact hQ _ _ I_2 F_4 ⟨by omega, by omega⟩
-- SpoutNews$LawReader.settleNots(LSpoutNews$Law;)V
theorem k_LawReader_settleNots_l2 {g0 : zi_M} {K : zi_M → Prop} {Q : Int → zi_M → Prop} {P0 : List Int} (hK : ∀ g, zk_I g → zk_fr fr_LawReader_settleNots g0 g → zB (zl_drop 6 P0) g → K g) :
    ∀ (P : List Int) (n : Nat) (l2 : Int) (g : zi_M), zk_I g → zk_fr fr_LawReader_settleNots g0 g → zB P g → zl_drop 6 P = zl_drop 6 P0 → 0 ≤ l2 → l2 + g 212 2 ≤ 8 → P.length < n → w_LawReader_settleNots_l2 K Q n l2 g
  | P, 0, l2, g, I, F, h, e, h0, h1, hm => absurd hm (Nat.not_lt_zero _)
  | [], n + 1, l2, g, I, F, h, e, h0, h1, hm => by
    have q : g 212 1 = 0 := h.q1
    have b2 : 0 ≤ g 212 2 := (I.1 212 2).1
    unfold w_LawReader_settleNots_l2
    have hk := hK g I F (by rw [← e]; exact h)
    exact ⟨⟨by omega, by omega⟩, fun _ => hk, fun _ => ⟨zk_rng I _ _, fun _ => hk, fun n => by omega⟩⟩
  | x :: t, n + 1, l2, g, I, F, h, e, h0, h1, hm => by
    have q := h.q1
    rw [List.length_cons] at q hm
    have b2 : 0 ≤ g 212 2 := (I.1 212 2).1
    have b1 : g 212 1 ≤ 40 := (I.1 212 1).2
    have ei : g 212 1 - 1 = (t.length : Int) := by omega
    have hx : g 213 (g 212 1 - 1) = x := by rw [ei]; exact h.ql.1
    have ho : g 212 2 = zl_of 6 0 t + (if x = 6 ∨ x = 0 then 1 else 0) := h.op
    have o0 := zl_of0 6 0 t
    unfold w_LawReader_settleNots_l2
    by_cases e6 : x = 6
    · rw [if_pos (Or.inl e6)] at ho
      refine ⟨⟨by omega, by omega⟩, fun q => by omega, fun _ => ⟨zk_rng I _ _, fun q => by omega, fun _ => ⟨⟨by omega, by omega⟩, zk_rng I _ _, fun q => absurd (hx.trans e6) q, fun _ => ?_⟩⟩⟩
      refine k_Law_add I ⟨by decide, by decide⟩ ⟨by decide, by decide⟩ (fun g6 I6 F6 => ?_)
      intro g8 e8 g9 e9
      have c1 : g6 212 1 = g 212 1 := F6 _ _ (by unfold fr_Law_add; omega)
      have c2 : g6 212 2 = g 212 2 := F6 _ _ (by unfold fr_Law_add; omega)
      have c3 : g6 212 3 = g 212 3 := F6 _ _ (by unfold fr_Law_add; omega)
      have z6 := h.c c1 c2 c3 (fun i => F6 _ _ (by unfold fr_Law_add; omega))
      rw [e6] at z6
      have z9 := z6.n e8 e9
      have d2 : g8 212 2 = g6 212 2 := by rw [e8]; exact zi_u_ni (by decide)
      have d9 : g9 212 2 = g 212 2 - 1 := by rw [e9, zi_u_eq, d2, c2]
      have b8 : g 212 2 ≤ 8 := (I.1 212 2).2
      have I8 : zk_I g8 := by rw [e8]; exact zk_upd (L := 0) (H := 40) rfl rfl I6 ⟨by omega, by omega⟩
      have I9 : zk_I g9 := by rw [e9]; exact zk_upd (L := 0) (H := 8) rfl rfl I8 ⟨by omega, by omega⟩
      have F6' : zk_fr fr_LawReader_settleNots g0 g6 := zk_ft F F6 (fun a i h => h.elim Or.inl (fun h => Or.inr (h.elim Or.inl (fun h => Or.inr (Or.inl h)))))
      refine k_LawReader_settleNots_l2 hK t n (l2 + 1) g9 I9 ?_ z9 ?_ (by omega) (by omega) (by omega)
      · rw [e9, e8]; exact zk_fu (zk_fu F6' (Or.inr (Or.inr (Or.inr (Or.inl ⟨rfl, rfl⟩))))) (Or.inr (Or.inr (Or.inr (Or.inr ⟨rfl, rfl⟩))))
      · rw [← e, e6]
        show _ = (if (6 : Int) = 6 then zl_drop 6 t else _)
        rw [if_pos rfl]
    · have hk := hK g I F (by rw [← e]; show zB (if x = 6 then _ else _) g; rw [if_neg e6]; exact h)
      exact ⟨⟨by omega, by omega⟩, fun _ => hk, fun _ => ⟨zk_rng I _ _, fun _ => hk, fun _ => ⟨⟨by omega, by omega⟩, zk_rng I _ _, fun _ => hk, fun q => absurd (hx.symm.trans q) e6⟩⟩⟩
theorem k_LawReader_settleNots {g : zi_M} {Q : Int → zi_M → Prop} (I : zk_I g) (px0 : ∃ P, zB P g) (hQ : ∀ g' : zi_M, zk_I g' → zk_fr fr_LawReader_settleNots g g' → (∃ P, zB P g' ∧ zl_top P ≠ 6) → Q 0 g') : w_LawReader_settleNots g Q := by
  unfold w_LawReader_settleNots
  obtain ⟨P, hP⟩ := px0
  have b8 : g 212 2 ≤ 8 := (I.1 212 2).2
  exact ⟨P.length + 1, k_LawReader_settleNots_l2 (g0 := g) (P0 := P) (fun g' I' F' z => hQ g' I' F' ⟨_, z, zl_dropt 6 (by decide) P⟩) P (P.length + 1) 0 g I (zk_f0 _) hP rfl (by omega) (by omega) (Nat.lt_succ_self _)⟩

-- SpoutNews$LawReader.settleBinary(LSpoutNews$Law;I)V
theorem k_LawReader_settleBinary_l2 {g0 : zi_M} {l2 : Int} {K45 K82 : zi_M → Prop} {Q : Int → zi_M → Prop} (q2 : l2 = 4 ∨ l2 = 5) (hK : ∀ g P, zk_I g → zk_fr fr_LawReader_settleBinary g0 g → zB P g → zl_top P ≠ 6 → zl_top P ≠ 5 → (l2 = 4 → zl_top P ≠ 4) → K45 g ∧ K82 g) :
    ∀ (P : List Int) (n : Nat) (l3 : Int) (g : zi_M), zk_I g → zk_fr fr_LawReader_settleBinary g0 g → zB P g → zl_top P ≠ 6 → 0 ≤ l3 → l3 + g 212 1 ≤ 40 → P.length < n → w_LawReader_settleBinary_l2 l2 K45 K82 Q n l3 g
  | P, 0, l3, g, I, F, h, ht, h0, h1, hm => absurd hm (Nat.not_lt_zero _)
  | [], n + 1, l3, g, I, F, h, ht, h0, h1, hm => by
    have q : g 212 1 = 0 := h.q1
    have hk := (hK g [] I F h (show (0 : Int) ≠ 6 by decide) (show (0 : Int) ≠ 5 by decide) (fun _ => (show (0 : Int) ≠ 4 by decide))).2
    unfold w_LawReader_settleBinary_l2
    exact ⟨⟨by omega, by omega⟩, fun _ => hk, fun _ => ⟨zk_rng I _ _, fun _ => hk, fun n => by omega⟩⟩
  | x :: t, n + 1, l3, g, I, F, h, ht, h0, h1, hm => by
    have q := h.q1
    rw [List.length_cons] at q hm
    have b1 : g 212 1 ≤ 40 := (I.1 212 1).2
    have ei : g 212 1 - 1 = (t.length : Int) := by omega
    have hx : g 213 (g 212 1 - 1) = x := by rw [ei]; exact h.ql.1
    have b48 : x = 4 ∨ x = 5 → w_LawReader_settleBinary_b48 l2 l3 (g 213 (g 212 1 - 1)) g (w_LawReader_settleBinary_l2 l2 K45 K82 Q n) K45 K82 Q := by
      intro hx2
      have tt : zl_top t ≠ 6 := by
        rcases h.ok.2 with q | q | q | q
        · omega
        · omega
        · exact q.2.1
        · exact q.2.1
      have go : ∀ w : Int, 0 ≤ w ∧ w ≤ 11 → w_Law_add w 0 g (fun _ g7 => (∀ g9, g9 = zi_u g7 212 1 ((g7 212 1) - 1) → w_LawReader_settleBinary_l2 l2 K45 K82 Q n (l3 + 1) g9)) := by
        intro w hw
        refine k_Law_add I hw ⟨by decide, by decide⟩ (fun g6 I6 F6 => ?_)
        intro g9 e9
        have c1 : g6 212 1 = g 212 1 := F6 _ _ (by unfold fr_Law_add; omega)
        have c2 : g6 212 2 = g 212 2 := F6 _ _ (by unfold fr_Law_add; omega)
        have c3 : g6 212 3 = g 212 3 := F6 _ _ (by unfold fr_Law_add; omega)
        have z6 := h.c c1 c2 c3 (fun i => F6 _ _ (by unfold fr_Law_add; omega))
        have z9 := z6.b hx2 e9
        have d1 : g9 212 1 = g 212 1 - 1 := by rw [e9, zi_u_eq, c1]
        have I9 : zk_I g9 := by rw [e9]; exact zk_upd (L := 0) (H := 40) rfl rfl I6 ⟨by omega, by omega⟩
        have F6' : zk_fr fr_LawReader_settleBinary g0 g6 := zk_ft F F6 (fun a i h => h.elim Or.inl (fun h => Or.inr (h.elim Or.inl (fun h => Or.inr (Or.inl h)))))
        exact k_LawReader_settleBinary_l2 q2 hK t n (l3 + 1) g9 I9 (by rw [e9]; exact zk_fu F6' (Or.inr (Or.inr (Or.inr ⟨rfl, rfl⟩)))) z9 tt (by omega) (by omega) (by omega)
      unfold w_LawReader_settleBinary_b48
      exact ⟨zk_rng I _ _, fun _ => go 11 ⟨by decide, by decide⟩, fun _ => go 10 ⟨by decide, by decide⟩⟩
    unfold w_LawReader_settleBinary_l2
    refine ⟨⟨by omega, by omega⟩, fun q => by omega, fun _ => ⟨zk_rng I _ _, fun q => by omega, fun _ => ⟨⟨by omega, by omega⟩, zk_rng I _ _, fun e5 => b48 (by omega), fun n5 => ⟨fun n4 => ?_, fun e4 => ⟨⟨by omega, by omega⟩, fun el => b48 (by omega), fun nl => ?_⟩⟩⟩⟩⟩
    · rw [hx] at n5 n4
      exact (hK g _ I F h ht n5 (fun _ => n4)).2
    · rw [hx] at n5
      exact (hK g _ I F h ht n5 (fun q => absurd q nl)).1
theorem k_LawReader_settleBinary {l2 : Int} {g : zi_M} {Q : Int → zi_M → Prop} (I : zk_I g) (p2 : (-1) ≤ l2 ∧ l2 ≤ 9999) (px0 : l2 = 4 ∨ l2 = 5) (px1 : ∃ P, zB P g ∧ zl_top P ≠ 6) (hQ : ∀ g' : zi_M, zk_I g' → zk_fr fr_LawReader_settleBinary g g' → (∃ P, zB P g' ∧ zl_top P ≠ 6 ∧ zl_top P ≠ 5 ∧ (l2 = 4 → zl_top P ≠ 4)) → Q 0 g') : w_LawReader_settleBinary l2 g Q := by
  unfold w_LawReader_settleBinary
  obtain ⟨P, hP, ht⟩ := px1
  have b1 : g 212 1 ≤ 40 := (I.1 212 1).2
  exact ⟨P.length + 1, k_LawReader_settleBinary_l2 (g0 := g) px0 (fun g' P' I' F' z t1 t2 t3 => ⟨hQ g' I' F' ⟨_, z, t1, t2, t3⟩, hQ g' I' F' ⟨_, z, t1, t2, t3⟩⟩) P (P.length + 1) 0 g I (zk_f0 _) hP ht (by omega) (by omega) (Nat.lt_succ_self _)⟩

-- SpoutNews$LawReader.closeAll(LSpoutNews$Tokens;LSpoutNews$Law;)V
theorem k_LawReader_closeAll_l7 {g0 : zi_M} {K : zi_M → Prop} {Q : Int → zi_M → Prop} (hK : ∀ g P, zk_I g → zk_fr fr_LawReader_closeAll g0 g → zB P g → zl_top P ≠ 6 → K g) :
    ∀ (n : Nat) (l3 : Int) (P : List Int) (g : zi_M), zk_I g → zk_fr fr_LawReader_closeAll g0 g → zB P g → zl_top P ≠ 6 → 0 ≤ l3 → l3 ≤ 8 → 8 - l3 < (n : Int) → w_LawReader_closeAll_l7 K Q n l3 g
  | 0, l3, P, g, I, F, h, ht, h0, h1, hm => by exfalso; omega
  | n + 1, l3, P, g, I, F, h, ht, h0, h1, hm => by
    have hk := hK g P I F h ht
    unfold w_LawReader_closeAll_l7
    refine ⟨⟨by omega, by omega⟩, fun _ => hk, fun _ => ⟨zk_rng I _ _, fun _ => hk, fun hp => ?_⟩⟩
    refine k_Tokens_isAt I ⟨by decide, by decide⟩ ⟨by decide, by decide⟩ (fun v6 d1 d2 d3 d4 => ⟨fun _ => hk, fun _ => ?_⟩)
    refine k_LawReader_settleBinary I ⟨by decide, by decide⟩ (Or.inl rfl) ⟨P, h, ht⟩ (fun g10 I10 F10 hz => ?_)
    obtain ⟨P2, z2, t6, t5, t4⟩ := hz
    have t4 := t4 rfl
    have c3 : g10 212 3 = g 212 3 := F10 _ _ (by unfold fr_LawReader_settleBinary; omega)
    have pr := z2.pr
    have hP : ∃ t, P2 = 0 :: t := by
      cases P2 with
      | nil => rw [c3] at pr; have : g 212 3 = 0 := pr; omega
      | cons x t =>
        have hx : x ≠ 6 ∧ x ≠ 5 ∧ x ≠ 4 := ⟨t6, t5, t4⟩
        rcases z2.ok.2 with q | q | q | q
        · exact absurd q hx.1
        · exact ⟨t, by rw [q]⟩
        · exact absurd q.1 hx.2.1
        · exact absurd q.1 hx.2.2
    obtain ⟨t, et⟩ := hP
    rw [et] at z2
    intro g12 e12 g13 e13 g14 e14
    have z14 := z2.p e12 e13 e14
    have q1 := z2.q1
    rw [List.length_cons] at q1
    have o : g10 212 2 = zl_of 6 0 t + 1 := z2.op
    have p : g10 212 3 = zl_of 0 0 t + 1 := z2.pr
    have o0 := zl_of0 6 0 t
    have p0 := zl_of0 0 0 t
    have r1 : g10 212 1 ≤ 40 := (I10.1 212 1).2
    have r2 : g10 212 2 ≤ 8 := (I10.1 212 2).2
    have r3 : g10 212 3 ≤ 8 := (I10.1 212 3).2
    have a3 : g12 212 3 = g10 212 3 := by rw [e12]; exact zi_u_ni (by decide)
    have a2 : g13 212 2 = g10 212 2 := by rw [e13, zi_u_ni (by decide), e12]; exact zi_u_ni (by decide)
    have I12 : zk_I g12 := by rw [e12]; exact zk_upd (L := 0) (H := 40) rfl rfl I10 ⟨by omega, by omega⟩
    have I13 : zk_I g13 := by rw [e13]; exact zk_upd (L := 0) (H := 8) rfl rfl I12 ⟨by omega, by omega⟩
    have I14 : zk_I g14 := by rw [e14]; exact zk_upd (L := 0) (H := 8) rfl rfl I13 ⟨by omega, by omega⟩
    have G10 : zk_fr fr_LawReader_closeAll g0 g10 := zk_ft F F10 (fun a i h => h.elim Or.inl (fun h => Or.inr (h.elim Or.inl (fun h => Or.inr (Or.inr (h.elim Or.inl (fun h => Or.inr (Or.inl h))))))))
    have G14 : zk_fr fr_LawReader_closeAll g0 g14 := by
      rw [e14, e13, e12]
      exact zk_fu (zk_fu (zk_fu G10 (Or.inr (Or.inr (Or.inr (Or.inr (Or.inl ⟨rfl, rfl⟩)))))) (Or.inr (Or.inr (Or.inr (Or.inr (Or.inr (Or.inr ⟨rfl, rfl⟩))))))) (Or.inr (Or.inr (Or.inr (Or.inr (Or.inr (Or.inl ⟨rfl, rfl⟩))))))
    refine k_Tokens_step I14 (fun g16 I16 F16 _ => ?_)
    have z16 : zB t g16 := z14.c (F16 _ _ (by unfold fr_Tokens_step; omega)) (F16 _ _ (by unfold fr_Tokens_step; omega)) (F16 _ _ (by unfold fr_Tokens_step; omega)) (fun i => F16 _ _ (by unfold fr_Tokens_step; omega))
    have G16 : zk_fr fr_LawReader_closeAll g0 g16 := zk_ft G14 F16 (fun a i h => Or.inr (Or.inr (Or.inl h)))
    refine k_LawReader_settleNots I16 ⟨t, z16⟩ (fun g19 I19 F19 hz => ?_)
    obtain ⟨P3, z19, t19⟩ := hz
    exact k_LawReader_closeAll_l7 hK n (l3 + 1) P3 g19 I19 (zk_ft G16 F19 (fun a i h => h.elim Or.inl (fun h => Or.inr (h.elim Or.inl (fun h => Or.inr (Or.inr (h.elim Or.inl (fun h => Or.inr (h.elim Or.inl (fun h => Or.inr (Or.inl h)))))))))) ) z19 t19 (by omega) (by omega) (by omega)
theorem k_LawReader_closeAll {g : zi_M} {Q : Int → zi_M → Prop} (I : zk_I g) (px0 : ∃ P, zB P g) (hQ : ∀ g' : zi_M, zk_I g' → zk_fr fr_LawReader_closeAll g g' → (∃ P, zB P g' ∧ zl_top P ≠ 6) → Q 0 g') : w_LawReader_closeAll g Q := by
  unfold w_LawReader_closeAll
  refine k_LawReader_settleNots I px0 (fun g2 I2 F2 hz => ?_)
  obtain ⟨P, z, t⟩ := hz
  have G2 : zk_fr fr_LawReader_closeAll g g2 := zk_ft (zk_f0 _) F2 (fun a i h => h.elim Or.inl (fun h => Or.inr (h.elim Or.inl (fun h => Or.inr (Or.inr (h.elim Or.inl (fun h => Or.inr (h.elim Or.inl (fun h => Or.inr (Or.inl h)))))))))) 
  exact ⟨9, k_LawReader_closeAll_l7 (fun g' P' I' F' z' t' => hQ g' I' F' ⟨_, z', t'⟩) 9 0 P g2 I2 G2 z t (by omega) (by omega) (by omega)⟩

-- SpoutNews$LawReader.conditions(LSpoutNews$Tokens;LSpoutNews$Law;)Z
theorem k_LawReader_conditions_l17 {g0 : zi_M} {K41 K65 K97 : zi_M → Prop} {Q : Int → zi_M → Prop} (hK41 : ∀ g, zk_I g → zk_fr fr_LawReader_conditions g0 g → K41 g) (hK65 : ∀ g P, zk_I g → zk_fr fr_LawReader_conditions g0 g → zB P g → zl_top P ≠ 6 → K65 g) (hK97 : ∀ g P, zk_I g → zk_fr fr_LawReader_conditions g0 g → zB P g → zl_top P ≠ 6 → K97 g) :
    ∀ (n : Nat) (l3 : Int) (P : List Int) (g : zi_M), zk_I g → zk_fr fr_LawReader_conditions g0 g → zB P g → zl_top P ≠ 6 → 0 ≤ l3 → l3 ≤ 401 → 401 - l3 < (n : Int) → w_LawReader_conditions_l17 K41 K65 K97 Q n l3 g
  | 0, l3, P, g, I, F, h, ht, h0, h1, hm => by exfalso; omega
  | n + 1, l3, P, g, I, F, h, ht, h0, h1, hm => by
    unfold w_LawReader_conditions_l17
    refine ⟨⟨by omega, by omega⟩, fun _ => hK97 g P I F h ht, fun hl => ?_⟩
    have OC : ∀ a i, fr_LawReader_openAll a i → fr_LawReader_conditions a i := by
      intro a i h
      unfold fr_LawReader_openAll at h
      unfold fr_LawReader_conditions
      rcases h with h | h | h | h | h | h | h <;> simp [h]
    have CC : ∀ a i, fr_LawReader_comparison a i → fr_LawReader_conditions a i := by
      intro a i h
      unfold fr_LawReader_comparison at h
      unfold fr_LawReader_conditions
      rcases h with h | h | h | h | h | h <;> simp [h]
    have LC : ∀ a i, fr_LawReader_closeAll a i → fr_LawReader_conditions a i := by
      intro a i h
      unfold fr_LawReader_closeAll at h
      unfold fr_LawReader_conditions
      rcases h with h | h | h | h | h | h | h <;> simp [h]
    have BC : ∀ a i, fr_LawReader_settleBinary a i → fr_LawReader_conditions a i := by
      intro a i h
      unfold fr_LawReader_settleBinary at h
      unfold fr_LawReader_conditions
      rcases h with h | h | h | h <;> simp [h]
    have UC : ∀ a i, fr_LawReader_push a i → fr_LawReader_conditions a i := by
      intro a i h
      unfold fr_LawReader_push at h
      unfold fr_LawReader_conditions
      rcases h with h | h <;> simp [h]
    have SC : ∀ a i, fr_Tokens_step a i → fr_LawReader_conditions a i := by
      intro a i h
      unfold fr_Tokens_step at h
      unfold fr_LawReader_conditions
      simp [h]
    refine k_LawReader_openAll I ⟨P, h⟩ (fun v5 g6 I6 F6 hv5 hz => ⟨fun _ => hK41 g6 I6 (zk_ft F F6 OC), fun n5 => ?_⟩)
    obtain ⟨P6, z6⟩ := hz n5
    have G6 := zk_ft F F6 OC
    refine k_LawReader_comparison I6 (fun v8 g9 I9 F9 hv8 => ⟨fun n8 => ?_, fun _ => hK41 g9 I9 (zk_ft G6 F9 CC)⟩)
    have z9 : zB P6 g9 := z6.c (F9 _ _ (by unfold fr_LawReader_comparison; omega)) (F9 _ _ (by unfold fr_LawReader_comparison; omega)) (F9 _ _ (by unfold fr_LawReader_comparison; omega)) (fun i => F9 _ _ (by unfold fr_LawReader_comparison; omega))
    have G9 := zk_ft G6 F9 CC
    refine k_LawReader_closeAll I9 ⟨P6, z9⟩ (fun g12 I12 F12 hz => ?_)
    obtain ⟨P12, z12, t12⟩ := hz
    have G12 := zk_ft G9 F12 LC
    have r := I12.1 193 (g12 191 4)
    have r1 : -1 ≤ g12 193 (g12 191 4) := r.1
    have r2 : g12 193 (g12 191 4) ≤ 9999 := r.2
    have b68 : (g12 191 4 < g12 191 3 ∧ g12 192 (g12 191 4) = 2 ∧ (g12 193 (g12 191 4) = 4 ∨ g12 193 (g12 191 4) = 5)) → w_LawReader_conditions_b68 l3 g12 (w_LawReader_conditions_l17 K41 K65 K97 Q n) K41 K65 K97 Q := by
      intro hk
      unfold w_LawReader_conditions_b68
      refine k_Tokens_keyword I12 (fun v18 d1 d2 d3 => ?_)
      have hv := d3 hk.1 hk.2.1
      refine k_LawReader_settleBinary I12 ⟨by omega, by omega⟩ (by omega) ⟨P12, z12, t12⟩ (fun g22 I22 F22 hz => ?_)
      obtain ⟨P22, z22, t6, t5, t4⟩ := hz
      have G22 := zk_ft G12 F22 BC
      have ln := z22.len I22
      have q1 := z22.q1
      refine k_LawReader_push I22 ⟨by omega, by omega⟩ (fun g25 I25 F25 hp => ?_)
      obtain ⟨w1, w2, w3⟩ := hp (by omega)
      have z25 : zB (v18 :: P22) g25 := by
        refine z22.u ⟨z22.ok, ?_⟩ w1 w2 w3 ?_ ?_
        · by_cases e : v18 = 5
          · exact Or.inr (Or.inr (Or.inl ⟨e, t6, t5⟩))
          · exact Or.inr (Or.inr (Or.inr ⟨by omega, t6, t5, t4 (by omega)⟩))
        · rw [F25 _ _ (by unfold fr_LawReader_push; omega), if_neg (by omega)]; omega
        · rw [F25 _ _ (by unfold fr_LawReader_push; omega), if_neg (by omega)]; omega
      have G25 := zk_ft G22 F25 UC
      refine k_Tokens_step I25 (fun g28 I28 F28 _ => ?_)
      refine k_LawReader_conditions_l17 hK41 hK65 hK97 n (l3 + 1) (v18 :: P22) g28 I28 (zk_ft G25 F28 SC) (z25.c ?_ ?_ ?_ (fun i => ?_)) (show v18 ≠ 6 by omega) (by omega) (by omega) (by omega) <;> exact F28 _ _ (by unfold fr_Tokens_step; omega)
    refine k_Tokens_keyword I12 (fun v14 d1 d2 d3 => ⟨⟨by omega, by omega⟩, fun e5 => b68 (by omega), fun n5 => ?_⟩)
    refine k_Tokens_keyword I12 (fun v30 f1 f2 f3 => ⟨⟨by omega, by omega⟩, fun e4 => b68 (by omega), fun _ => hK65 g12 P12 I12 G12 z12 t12⟩)
theorem k_LawReader_conditions {g : zi_M} {Q : Int → zi_M → Prop} (I : zk_I g) (hQ : ∀ (v : Int) (g' : zi_M), zk_I g' → zk_fr fr_LawReader_conditions g g' → (0 ≤ v ∧ v ≤ 1) → Q v g') : w_LawReader_conditions g Q := by
  unfold w_LawReader_conditions
  intro g1 e1 g2 e2 g3 e3
  have I1 : zk_I g1 := by rw [e1]; exact zk_upd (L := 0) (H := 40) rfl rfl I ⟨by decide, by decide⟩
  have I2 : zk_I g2 := by rw [e2]; exact zk_upd (L := 0) (H := 8) rfl rfl I1 ⟨by decide, by decide⟩
  have I3 : zk_I g3 := by rw [e3]; exact zk_upd (L := 0) (H := 8) rfl rfl I2 ⟨by decide, by decide⟩
  have w : ∀ k : Int, k = 1 ∨ k = 2 ∨ k = 3 → fr_LawReader_conditions 212 k := by
    intro k hk
    unfold fr_LawReader_conditions
    rcases hk with h | h | h <;> simp [h]
  have F3 : zk_fr fr_LawReader_conditions g g3 := by
    rw [e3, e2, e1]
    exact zk_fu (zk_fu (zk_fu (zk_f0 _) (w 1 (Or.inl rfl))) (w 2 (Or.inr (Or.inl rfl)))) (w 3 (Or.inr (Or.inr rfl)))
  have z3 : zB [] g3 := ⟨by rw [e3, zi_u_ni (by decide), e2, zi_u_ni (by decide), e1, zi_u_eq]; rfl, trivial, trivial, by rw [e3, zi_u_ni (by decide), e2, zi_u_eq]; rfl, by rw [e3, zi_u_eq]; rfl⟩
  have b97 : ∀ g' P, zk_I g' → zk_fr fr_LawReader_conditions g g' → zB P g' → zl_top P ≠ 6 → w_LawReader_conditions_b97 g' Q := by
    intro g' P I' F' z' t'
    unfold w_LawReader_conditions_b97
    refine ⟨zk_rng I' _ _, fun _ => ?_, fun _ => ?_⟩
    · refine k_LawReader_settleBinary I' ⟨by decide, by decide⟩ (Or.inl rfl) ⟨P, z', t'⟩ (fun g'' I'' F'' _ => hQ _ _ I'' (zk_ft F' F'' (fun a i h => ?_)) ⟨by decide, by decide⟩)
      unfold fr_LawReader_settleBinary at h
      unfold fr_LawReader_conditions
      rcases h with h | h | h | h <;> simp [h]
    · refine k_Tokens_refuse I' ⟨by decide, by decide⟩ (fun v g'' I'' F'' hv _ => hQ _ _ I'' (zk_ft F' F'' (fun a i h => ?_)) ⟨by omega, by omega⟩)
      unfold fr_Tokens_refuse at h
      unfold fr_LawReader_conditions
      rcases h with h | h <;> simp [h]
  exact ⟨402, k_LawReader_conditions_l17 (fun g' I' F' => hQ _ _ I' F' ⟨by decide, by decide⟩) (fun g' P I' F' z' t' => b97 g' P I' F' z' t') (fun g' P I' F' z' t' => b97 g' P I' F' z' t') 402 0 [] g3 I3 F3 z3 (show (0 : Int) ≠ 6 by decide) (by omega) (by omega) (by omega)⟩

-- SpoutNews$LawReader.readLaw(LSpoutNews$Tokens;LSpoutNews$Law;)Z
set_option maxRecDepth 100000 in
set_option maxHeartbeats 4000000 in
theorem k_LawReader_readLaw_b98 {l3 : Int} {l4 : Int} {l5 : Int} {l6 : Int} {H : Int → zi_M → Prop} {K36 : zi_M → Prop} {K67 : zi_M → Prop} {K96 : zi_M → Prop} {K108 : zi_M → Prop} {K126 : zi_M → Prop} {Q : Int → zi_M → Prop} {g : zi_M} {g0 : zi_M} (I : zk_I g) (F : zk_fr fr_LawReader_readLaw g0 g) (p3 : 0 ≤ l3 ∧ l3 ≤ 16) (p4 : 0 ≤ l4 ∧ l4 ≤ 2) (p5 : 0 ≤ l5 ∧ l5 ≤ 400) (p6 : 0 ≤ l6 ∧ l6 ≤ 400) (M : Int) (hM : 17 - l3 ≤ M) (hH : ∀ (m3 : Int) (g : zi_M), zk_I g → zk_fr fr_LawReader_readLaw g0 g → (0 ≤ m3 ∧ m3 ≤ 17) → 17 - m3 < M → H m3 g) (hK36 : ∀ (g : zi_M), zk_I g → zk_fr fr_LawReader_readLaw g0 g → K36 g) (hK67 : ∀ (g : zi_M), zk_I g → zk_fr fr_LawReader_readLaw g0 g → K67 g) (hK96 : ∀ (g : zi_M), zk_I g → zk_fr fr_LawReader_readLaw g0 g → K96 g) (hK108 : ∀ (g : zi_M), zk_I g → zk_fr fr_LawReader_readLaw g0 g → K108 g) (hK126 : ∀ (g : zi_M), zk_I g → zk_fr fr_LawReader_readLaw g0 g → K126 g) (hQ : ∀ (v : Int) (g' : zi_M), zk_I g' → zk_fr fr_LawReader_readLaw g0 g' → (0 ≤ v ∧ v ≤ 1) → Q v g') : w_LawReader_readLaw_b98 l3 l4 l5 l6 g H K36 K67 K96 K108 K126 Q := by
  unfold w_LawReader_readLaw_b98
  refine k_Tokens_take I ⟨by omega, by omega⟩ ⟨by omega, by omega⟩ (fun v22 g23 I_43 F_44 b_41 b_42 => ?_)
  have F_45 : zk_fr fr_LawReader_readLaw g0 g23 := zk_ft F F_44 (fun a i => (fun h => Or.elim h (fun h => (Or.inr (Or.inr (Or.inr (Or.inr (Or.inr (Or.inr (Or.inr (Or.inl h))))))))) (fun h => Or.elim h (fun h => (Or.inr (Or.inr (Or.inr (Or.inr (Or.inr (Or.inr (Or.inr (Or.inr (Or.inl h)))))))))) (fun h => (Or.inr (Or.inr (Or.inr (Or.inr (Or.inr (Or.inr (Or.inr (Or.inr (Or.inr (Or.inl h))))))))))))))
  refine ⟨fun c28 => ?_, fun c28 => ?_⟩
  · refine k_Law_addLine I_43 ⟨by omega, by omega⟩ ⟨by omega, by omega⟩ ⟨by omega, by omega⟩ (fun g26 I_46 F_47 => ?_)
    have F_48 : zk_fr fr_LawReader_readLaw g0 g26 := zk_ft F_45 F_47 (fun a i => (fun h => Or.elim h (fun h => (Or.inr (Or.inr (Or.inl h)))) (fun h => Or.elim h (fun h => (Or.inr (Or.inr (Or.inr (Or.inl h))))) (fun h => Or.elim h (fun h => (Or.inr (Or.inr (Or.inr (Or.inr (Or.inl h)))))) (fun h => Or.elim h (fun h => (Or.inr (Or.inr (Or.inr (Or.inr (Or.inr (Or.inl h))))))) (fun h => (Or.inr (Or.inr (Or.inr (Or.inr (Or.inr (Or.inr (Or.inr (Or.inr (Or.inr (Or.inr (Or.inr (Or.inl h))))))))))))))))))
    exact hH _ _ I_46 F_48 ⟨by omega, by omega⟩ (by omega)
  · exact hK108 _ I_43 F_45
set_option maxRecDepth 100000 in
set_option maxHeartbeats 4000000 in
theorem k_LawReader_readLaw_l6 {K36 : zi_M → Prop} {K67 : zi_M → Prop} {K96 : zi_M → Prop} {K108 : zi_M → Prop} {K126 : zi_M → Prop} {Q : Int → zi_M → Prop} {g0 : zi_M} (hK36 : ∀ (g : zi_M), zk_I g → zk_fr fr_LawReader_readLaw g0 g → K36 g) (hK67 : ∀ (g : zi_M), zk_I g → zk_fr fr_LawReader_readLaw g0 g → K67 g) (hK96 : ∀ (g : zi_M), zk_I g → zk_fr fr_LawReader_readLaw g0 g → K96 g) (hK108 : ∀ (g : zi_M), zk_I g → zk_fr fr_LawReader_readLaw g0 g → K108 g) (hK126 : ∀ (g : zi_M), zk_I g → zk_fr fr_LawReader_readLaw g0 g → K126 g) (hQ : ∀ (v : Int) (g' : zi_M), zk_I g' → zk_fr fr_LawReader_readLaw g0 g' → (0 ≤ v ∧ v ≤ 1) → Q v g') : ∀ (n : Nat) {l3 : Int} {g : zi_M}, zk_I g → zk_fr fr_LawReader_readLaw g0 g → (0 ≤ l3 ∧ l3 ≤ 17) → 17 - l3 < (n : Int) → w_LawReader_readLaw_l6 K36 K67 K96 K108 K126 Q n l3 g
  | 0, l3, g, I, F, b0, hm => by exfalso; omega
  | n + 1, l3, g, I, F, b0, hm => by
    unfold w_LawReader_readLaw_l6
    refine ⟨⟨by omega, by omega⟩, ?_⟩
    refine ⟨fun c42 => ?_, fun c42 => ?_⟩
    · exact hK126 _ I F
    · have m_7 : 0 ≤ (g 191 4) ∧ (g 191 4) ≤ 401 := I.1 191 4
      have m_8 : 0 ≤ (g 191 3) ∧ (g 191 3) ≤ 401 := I.1 191 3
      have m_9 : 0 ≤ (g 192 (g 191 4)) ∧ (g 192 (g 191 4)) ≤ 4 := I.1 192 (g 191 4)
      refine k_Tokens_isAtEnd I (fun v5 b_4 b_5 b_6 => ?_)
      refine ⟨fun c41 => ?_, fun c41 => ?_⟩
      · exact hK126 _ I F
      · have m_13 : (-1) ≤ (g 193 (g 191 4)) ∧ (g 193 (g 191 4)) ≤ 9999 := I.1 193 (g 191 4)
        refine k_Tokens_keyword I (fun v8 b_10 b_11 b_12 => ?_)
        refine ⟨⟨by omega, by omega⟩, ?_⟩
        refine ⟨fun c40 => ?_, fun c40 => ?_⟩
        · exact hK36 _ I F
        · refine ⟨fun c39 => ?_, fun c39 => ?_⟩
          · refine k_Tokens_takeLineStart I ⟨by omega, by omega⟩ ⟨by omega, by omega⟩ (fun v12 g13 I_16 F_17 b_14 b_15 => ?_)
            have F_18 : zk_fr fr_LawReader_readLaw g0 g13 := zk_ft F F_17 (fun a i => (fun h => Or.elim h (fun h => (Or.inr (Or.inr (Or.inr (Or.inr (Or.inr (Or.inr (Or.inr (Or.inl h))))))))) (fun h => Or.elim h (fun h => (Or.inr (Or.inr (Or.inr (Or.inr (Or.inr (Or.inr (Or.inr (Or.inr (Or.inl h)))))))))) (fun h => (Or.inr (Or.inr (Or.inr (Or.inr (Or.inr (Or.inr (Or.inr (Or.inr (Or.inr (Or.inl h))))))))))))))
            refine ⟨fun c38 => ?_, fun c38 => ?_⟩
            · exact hK67 _ I_16 F_18
            · refine k_LawReader_sum I_16 (fun v15 g16 I_20 F_21 b_19 => ?_)
              have F_22 : zk_fr fr_LawReader_readLaw g0 g16 := zk_ft F_18 F_21 (fun a i => (fun h => Or.elim h (fun h => (Or.inl h)) (fun h => Or.elim h (fun h => (Or.inr (Or.inl h))) (fun h => Or.elim h (fun h => (Or.inr (Or.inr (Or.inr (Or.inr (Or.inr (Or.inr (Or.inr (Or.inl h))))))))) (fun h => Or.elim h (fun h => (Or.inr (Or.inr (Or.inr (Or.inr (Or.inr (Or.inr (Or.inr (Or.inr (Or.inl h)))))))))) (fun h => Or.elim h (fun h => (Or.inr (Or.inr (Or.inr (Or.inr (Or.inr (Or.inr (Or.inr (Or.inr (Or.inr (Or.inl h))))))))))) (fun h => (Or.inr (Or.inr (Or.inr (Or.inr (Or.inr (Or.inr (Or.inr (Or.inr (Or.inr (Or.inr (Or.inl h))))))))))))))))))
              refine ⟨fun c37 => ?_, fun c37 => ?_⟩
              · have m_26 : 0 ≤ (g16 191 4) ∧ (g16 191 4) ≤ 401 := I_20.1 191 4
                have m_27 : 0 ≤ (g16 191 3) ∧ (g16 191 3) ≤ 401 := I_20.1 191 3
                have m_28 : g16 191 3 = g13 191 3 := F_21 _ _ (by unfold fr_LawReader_sum; omega)
                have m_29 : 0 ≤ (g13 191 3) ∧ (g13 191 3) ≤ 401 := I_16.1 191 3
                have m_30 : g13 191 3 = g 191 3 := F_17 _ _ (by unfold fr_Tokens_takeLineStart; omega)
                have m_31 : 0 ≤ (g16 192 (g16 191 4)) ∧ (g16 192 (g16 191 4)) ≤ 4 := I_20.1 192 (g16 191 4)
                have m_32 : g16 192 (g16 191 4) = g13 192 (g16 191 4) := F_21 _ _ (by unfold fr_LawReader_sum; omega)
                have m_33 : 0 ≤ (g13 192 (g16 191 4)) ∧ (g13 192 (g16 191 4)) ≤ 4 := I_16.1 192 (g16 191 4)
                have m_34 : g13 192 (g16 191 4) = g 192 (g16 191 4) := F_17 _ _ (by unfold fr_Tokens_takeLineStart; omega)
                have m_35 : 0 ≤ (g 192 (g16 191 4)) ∧ (g 192 (g16 191 4)) ≤ 4 := I.1 192 (g16 191 4)
                have m_36 : (-1) ≤ (g16 193 (g16 191 4)) ∧ (g16 193 (g16 191 4)) ≤ 9999 := I_20.1 193 (g16 191 4)
                have m_37 : g16 193 (g16 191 4) = g13 193 (g16 191 4) := F_21 _ _ (by unfold fr_LawReader_sum; omega)
                have m_38 : (-1) ≤ (g13 193 (g16 191 4)) ∧ (g13 193 (g16 191 4)) ≤ 9999 := I_16.1 193 (g16 191 4)
                have m_39 : g13 193 (g16 191 4) = g 193 (g16 191 4) := F_17 _ _ (by unfold fr_Tokens_takeLineStart; omega)
                have m_40 : (-1) ≤ (g 193 (g16 191 4)) ∧ (g 193 (g16 191 4)) ≤ 9999 := I.1 193 (g16 191 4)
                refine k_Tokens_keyword I_20 (fun v18 b_23 b_24 b_25 => ?_)
                refine ⟨⟨by omega, by omega⟩, ?_⟩
                refine ⟨fun c36 => ?_, fun c36 => ?_⟩
                · have m_49 : 0 ≤ (g 196 2) ∧ (g 196 2) ≤ 400 := I.1 196 2
                  have m_50 : 0 ≤ (g16 196 2) ∧ (g16 196 2) ≤ 400 := I_20.1 196 2
                  exact k_LawReader_readLaw_b98 I_20 F_22 ⟨by omega, by omega⟩ ⟨by omega, by omega⟩ ⟨by omega, by omega⟩ ⟨by omega, by omega⟩ (n : Int) (by omega) (fun _ _ I F b0 hm => k_LawReader_readLaw_l6 hK36 hK67 hK96 hK108 hK126 hQ n I F b0 hm) hK36 hK67 hK96 hK108 hK126 hQ
                · refine k_Tokens_step I_20 (fun g30 I_52 F_53 b_51 => ?_)
                  have F_54 : zk_fr fr_LawReader_readLaw g0 g30 := zk_ft F_22 F_53 (fun a i => (fun h => (Or.inr (Or.inr (Or.inr (Or.inr (Or.inr (Or.inr (Or.inr (Or.inl h))))))))))
                  refine k_LawReader_conditions I_52 (fun v32 g33 I_56 F_57 b_55 => ?_)
                  have F_58 : zk_fr fr_LawReader_readLaw g0 g33 := zk_ft F_54 F_57 (fun a i => (fun h => Or.elim h (fun h => (Or.inl h)) (fun h => Or.elim h (fun h => (Or.inr (Or.inl h))) (fun h => Or.elim h (fun h => (Or.inr (Or.inr (Or.inr (Or.inr (Or.inr (Or.inr (Or.inl h)))))))) (fun h => Or.elim h (fun h => (Or.inr (Or.inr (Or.inr (Or.inr (Or.inr (Or.inr (Or.inr (Or.inl h))))))))) (fun h => Or.elim h (fun h => (Or.inr (Or.inr (Or.inr (Or.inr (Or.inr (Or.inr (Or.inr (Or.inr (Or.inl h)))))))))) (fun h => Or.elim h (fun h => (Or.inr (Or.inr (Or.inr (Or.inr (Or.inr (Or.inr (Or.inr (Or.inr (Or.inr (Or.inl h))))))))))) (fun h => Or.elim h (fun h => (Or.inr (Or.inr (Or.inr (Or.inr (Or.inr (Or.inr (Or.inr (Or.inr (Or.inr (Or.inr (Or.inl h)))))))))))) (fun h => Or.elim h (fun h => (Or.inr (Or.inr (Or.inr (Or.inr (Or.inr (Or.inr (Or.inr (Or.inr (Or.inr (Or.inr (Or.inr (Or.inr (Or.inl h)))))))))))))) (fun h => Or.elim h (fun h => (Or.inr (Or.inr (Or.inr (Or.inr (Or.inr (Or.inr (Or.inr (Or.inr (Or.inr (Or.inr (Or.inr (Or.inr (Or.inr (Or.inl h))))))))))))))) (fun h => (Or.inr (Or.inr (Or.inr (Or.inr (Or.inr (Or.inr (Or.inr (Or.inr (Or.inr (Or.inr (Or.inr (Or.inr (Or.inr (Or.inr h)))))))))))))))))))))))))
                  refine ⟨fun c35 => ?_, fun c35 => ?_⟩
                  · have m_59 : 0 ≤ (g 196 2) ∧ (g 196 2) ≤ 400 := I.1 196 2
                    have m_60 : 0 ≤ (g16 196 2) ∧ (g16 196 2) ≤ 400 := I_20.1 196 2
                    exact k_LawReader_readLaw_b98 I_56 F_58 ⟨by omega, by omega⟩ ⟨by omega, by omega⟩ ⟨by omega, by omega⟩ ⟨by omega, by omega⟩ (n : Int) (by omega) (fun _ _ I F b0 hm => k_LawReader_readLaw_l6 hK36 hK67 hK96 hK108 hK126 hQ n I F b0 hm) hK36 hK67 hK96 hK108 hK126 hQ
                  · exact hK96 _ I_56 F_58
              · exact hK67 _ I_20 F_22
          · exact hK36 _ I F
set_option maxRecDepth 100000 in
set_option maxHeartbeats 4000000 in
theorem k_LawReader_readLaw {g : zi_M} {Q : Int → zi_M → Prop} (I : zk_I g) (hQ : ∀ (v : Int) (g' : zi_M), zk_I g' → zk_fr fr_LawReader_readLaw g g' → (0 ≤ v ∧ v ≤ 1) → Q v g') : w_LawReader_readLaw g Q := by
  unfold w_LawReader_readLaw
  refine k_Law_clear I (fun g2 I_1 F_2 => ?_)
  have F_3 : zk_fr fr_LawReader_readLaw g g2 := zk_ft (zk_f0 _) F_2 (fun a i => (fun h => Or.elim h (fun h => (Or.inr (Or.inr (Or.inr (Or.inr (Or.inr (Or.inr (Or.inr (Or.inr (Or.inr (Or.inr (Or.inl h)))))))))))) (fun h => (Or.inr (Or.inr (Or.inr (Or.inr (Or.inr (Or.inr (Or.inr (Or.inr (Or.inr (Or.inr (Or.inr (Or.inl h)))))))))))))))
  refine ⟨((17 - 0 : Int).toNat + 1), k_LawReader_readLaw_l6 (fun g43 I_61 F_62 => ?_) (fun g47 I_68 F_69 => ?_) (fun g48 I_70 F_71 => ?_) (fun g49 I_72 F_73 => ?_) (fun g50 I_74 F_75 => ?_) hQ ((17 - 0 : Int).toNat + 1) I_1 F_3 ⟨by omega, by omega⟩ (by omega)⟩
  · refine k_Tokens_refuse I_61 ⟨by omega, by omega⟩ (fun v44 g45 I_65 F_66 b_63 b_64 => ?_)
    have F_67 : zk_fr fr_LawReader_readLaw g g45 := zk_ft F_62 F_66 (fun a i => (fun h => Or.elim h (fun h => (Or.inr (Or.inr (Or.inr (Or.inr (Or.inr (Or.inr (Or.inr (Or.inr (Or.inl h)))))))))) (fun h => (Or.inr (Or.inr (Or.inr (Or.inr (Or.inr (Or.inr (Or.inr (Or.inr (Or.inr (Or.inl h)))))))))))))
    exact hQ _ _ I_65 F_67 ⟨by omega, by omega⟩
  · exact hQ _ _ I_68 F_69 ⟨by omega, by omega⟩
  · exact hQ _ _ I_70 F_71 ⟨by omega, by omega⟩
  · exact hQ _ _ I_72 F_73 ⟨by omega, by omega⟩
  · exact hQ _ _ I_74 F_75 ⟨by omega, by omega⟩
-- SpoutNews$Law.copyFrom(LSpoutNews$Law;)V
set_option maxRecDepth 100000 in
set_option maxHeartbeats 4000000 in
theorem k_Law_copyFrom {r0 : Nat} (hr0 : zs_sh r0 = some (3, 10)) {r1 : Nat} (hr1 : zs_sh r1 = some (3, 10)) {g : zi_M} {Q : Int → zi_M → Prop} (I : zk_I g) (hQ : ∀ g' : zi_M, zk_I g' → zk_fr (fr_Law_copyFrom r0 r1) g g' → Q 0 g') : w_Law_copyFrom r0 r1 g Q := by
  unfold w_Law_copyFrom
  have m_4 := zk_c3_2 hr1 I
  refine ⟨⟨⟨by omega, by omega, by omega⟩, by omega, by omega⟩, ?_⟩
  intro g2 e_1
  have I_2 : zk_I g2 := by rw [e_1]; exact zk_cp (L := (-2147483648)) (H := 2147483647) (fun i => zk_la3_1 hr1 (i := i)) (fun i => zk_la3_1 hr0 (i := i)) I (zj_a3_1 hr0)
  have F_3 : zk_fr (fr_Law_copyFrom r0 r1) g g2 := by rw [e_1]; exact zk_fc (zk_f0 _) (fun i => (Or.inl rfl))
  have m_8 := zk_c3_2 hr1 I_2
  refine ⟨⟨⟨by omega, by omega, by omega⟩, by omega, by omega⟩, ?_⟩
  intro g4 e_5
  have I_6 : zk_I g4 := by rw [e_5]; exact zk_cp (L := 0) (H := 9999) (fun i => zk_la3_2 hr1 (i := i)) (fun i => zk_la3_2 hr0 (i := i)) I_2 (zj_a3_2 hr0)
  have F_7 : zk_fr (fr_Law_copyFrom r0 r1) g g4 := by rw [e_5]; exact zk_fc F_3 (fun i => (Or.inr (Or.inl rfl)))
  have m_12 := zk_c3_2 hr1 I_6
  intro g5 e_9
  have I_10 : zk_I g5 := by rw [e_9]; exact zk_upd (zk_lc3_2 hr0).1 (zk_lc3_2 hr0).2 I_6 ⟨by omega, by omega⟩ (zj_w3 hr0)
  have F_11 : zk_fr (fr_Law_copyFrom r0 r1) g g5 := by rw [e_9]; exact zk_fu F_7 (Or.inr (Or.inr (Or.inr (Or.inr (Or.inr (Or.inr (Or.inl ⟨rfl, rfl⟩)))))))
  intro g7 e_13
  have I_14 : zk_I g7 := by rw [e_13]; exact zk_cp (L := (-2147483648)) (H := 2147483647) (fun i => zk_la3_3 hr1 (i := i)) (fun i => zk_la3_3 hr0 (i := i)) I_10 (zj_a3_3 hr0)
  have F_15 : zk_fr (fr_Law_copyFrom r0 r1) g g7 := by rw [e_13]; exact zk_fc F_11 (fun i => (Or.inr (Or.inr (Or.inl rfl))))
  intro g9 e_16
  have I_17 : zk_I g9 := by rw [e_16]; exact zk_cp (L := 0) (H := 400) (fun i => zk_la3_4 hr1 (i := i)) (fun i => zk_la3_4 hr0 (i := i)) I_14 (zj_a3_4 hr0)
  have F_18 : zk_fr (fr_Law_copyFrom r0 r1) g g9 := by rw [e_16]; exact zk_fc F_15 (fun i => (Or.inr (Or.inr (Or.inr (Or.inl rfl)))))
  intro g11 e_19
  have I_20 : zk_I g11 := by rw [e_19]; exact zk_cp (L := 0) (H := 400) (fun i => zk_la3_5 hr1 (i := i)) (fun i => zk_la3_5 hr0 (i := i)) I_17 (zj_a3_5 hr0)
  have F_21 : zk_fr (fr_Law_copyFrom r0 r1) g g11 := by rw [e_19]; exact zk_fc F_18 (fun i => (Or.inr (Or.inr (Or.inr (Or.inr (Or.inl rfl))))))
  intro g13 e_22
  have I_23 : zk_I g13 := by rw [e_22]; exact zk_cp (L := 0) (H := 400) (fun i => zk_la3_6 hr1 (i := i)) (fun i => zk_la3_6 hr0 (i := i)) I_20 (zj_a3_6 hr0)
  have F_24 : zk_fr (fr_Law_copyFrom r0 r1) g g13 := by rw [e_22]; exact zk_fc F_21 (fun i => (Or.inr (Or.inr (Or.inr (Or.inr (Or.inr (Or.inl rfl)))))))
  have m_28 := zk_c3_7 hr1 I_23
  intro g14 e_25
  have I_26 : zk_I g14 := by rw [e_25]; exact zk_upd (zk_lc3_7 hr0).1 (zk_lc3_7 hr0).2 I_23 ⟨by omega, by omega⟩ (zj_w3 hr0)
  have F_27 : zk_fr (fr_Law_copyFrom r0 r1) g g14 := by rw [e_25]; exact zk_fu F_24 (Or.inr (Or.inr (Or.inr (Or.inr (Or.inr (Or.inr (Or.inr ⟨rfl, rfl⟩)))))))
  exact hQ _ I_26 F_27
-- SpoutNews.takeLaw(I)I
set_option maxRecDepth 100000 in
set_option maxHeartbeats 4000000 in
theorem k_S_takeLaw {l1 : Int} {g : zi_M} {Q : Int → zi_M → Prop} (I : zk_I g) (p1 : 0 ≤ l1 ∧ l1 ≤ 400) (hQ : ∀ (v : Int) (g' : zi_M), zk_I g' → zk_fr fr_S_takeLaw g g' → ((-1) ≤ v ∧ v ≤ 16) → (zySs 1000000001 (g 190) l1 g') → Q v g') : w_S_takeLaw l1 g Q := by
  unfold w_S_takeLaw
  refine k_Tokens_split (show zs_str 1000000001 from rfl) I ⟨by omega, by omega⟩ (fun g2 I_3 F_4 b_1 b_2 => ?_)
  have F_5 : zk_fr fr_S_takeLaw g g2 := zk_ft (zk_f0 _) F_4 (fun a i => (fun h => Or.elim h (fun h => (Or.inl h)) (fun h => Or.elim h (fun h => (Or.inr (Or.inl h))) (fun h => Or.elim h (fun h => (Or.inr (Or.inr (Or.inl h)))) (fun h => Or.elim h (fun h => (Or.inr (Or.inr (Or.inr (Or.inr (Or.inr (Or.inr (Or.inr (Or.inr (Or.inr (Or.inr (Or.inr (Or.inr (Or.inr (Or.inr (Or.inr (Or.inr (Or.inl h)))))))))))))))))) (fun h => Or.elim h (fun h => (Or.inr (Or.inr (Or.inr (Or.inr (Or.inr (Or.inr (Or.inr (Or.inr (Or.inr (Or.inr (Or.inr (Or.inr (Or.inr (Or.inr (Or.inr (Or.inr (Or.inr (Or.inl h))))))))))))))))))) (fun h => Or.elim h (fun h => (Or.inr (Or.inr (Or.inr (Or.inr (Or.inr (Or.inr (Or.inr (Or.inr (Or.inr (Or.inr (Or.inr (Or.inr (Or.inr (Or.inr (Or.inr (Or.inr (Or.inr (Or.inr (Or.inl h)))))))))))))))))))) (fun h => (Or.inr (Or.inr (Or.inr (Or.inr (Or.inr (Or.inr (Or.inr (Or.inr (Or.inr (Or.inr (Or.inr (Or.inr (Or.inr (Or.inr (Or.inr (Or.inr (Or.inr (Or.inr (Or.inr (Or.inl h))))))))))))))))))))))))))))
  refine k_LawReader_readLaw I_3 (fun v4 g5 I_7 F_8 b_6 => ?_)
  have F_9 : zk_fr fr_S_takeLaw g g5 := zk_ft F_5 F_8 (fun a i => (fun h => Or.elim h (fun h => (Or.inr (Or.inr (Or.inr (Or.inl h))))) (fun h => Or.elim h (fun h => (Or.inr (Or.inr (Or.inr (Or.inr (Or.inl h)))))) (fun h => Or.elim h (fun h => (Or.inr (Or.inr (Or.inr (Or.inr (Or.inr (Or.inl h))))))) (fun h => Or.elim h (fun h => (Or.inr (Or.inr (Or.inr (Or.inr (Or.inr (Or.inr (Or.inl h)))))))) (fun h => Or.elim h (fun h => (Or.inr (Or.inr (Or.inr (Or.inr (Or.inr (Or.inr (Or.inr (Or.inl h))))))))) (fun h => Or.elim h (fun h => (Or.inr (Or.inr (Or.inr (Or.inr (Or.inr (Or.inr (Or.inr (Or.inr (Or.inl h)))))))))) (fun h => Or.elim h (fun h => (Or.inr (Or.inr (Or.inr (Or.inr (Or.inr (Or.inr (Or.inr (Or.inr (Or.inr (Or.inr (Or.inl h)))))))))))) (fun h => Or.elim h (fun h => (Or.inr (Or.inr (Or.inr (Or.inr (Or.inr (Or.inr (Or.inr (Or.inr (Or.inr (Or.inr (Or.inr (Or.inr (Or.inr (Or.inr (Or.inr (Or.inr (Or.inr (Or.inl h))))))))))))))))))) (fun h => Or.elim h (fun h => (Or.inr (Or.inr (Or.inr (Or.inr (Or.inr (Or.inr (Or.inr (Or.inr (Or.inr (Or.inr (Or.inr (Or.inr (Or.inr (Or.inr (Or.inr (Or.inr (Or.inr (Or.inr (Or.inl h)))))))))))))))))))) (fun h => Or.elim h (fun h => (Or.inr (Or.inr (Or.inr (Or.inr (Or.inr (Or.inr (Or.inr (Or.inr (Or.inr (Or.inr (Or.inr (Or.inr (Or.inr (Or.inr (Or.inr (Or.inr (Or.inr (Or.inr (Or.inr (Or.inl h))))))))))))))))))))) (fun h => Or.elim h (fun h => (Or.inr (Or.inr (Or.inr (Or.inr (Or.inr (Or.inr (Or.inr (Or.inr (Or.inr (Or.inr (Or.inr (Or.inr (Or.inr (Or.inr (Or.inr (Or.inr (Or.inr (Or.inr (Or.inr (Or.inr (Or.inl h)))))))))))))))))))))) (fun h => Or.elim h (fun h => (Or.inr (Or.inr (Or.inr (Or.inr (Or.inr (Or.inr (Or.inr (Or.inr (Or.inr (Or.inr (Or.inr (Or.inr (Or.inr (Or.inr (Or.inr (Or.inr (Or.inr (Or.inr (Or.inr (Or.inr (Or.inr (Or.inl h))))))))))))))))))))))) (fun h => Or.elim h (fun h => (Or.inr (Or.inr (Or.inr (Or.inr (Or.inr (Or.inr (Or.inr (Or.inr (Or.inr (Or.inr (Or.inr (Or.inr (Or.inr (Or.inr (Or.inr (Or.inr (Or.inr (Or.inr (Or.inr (Or.inr (Or.inr (Or.inr (Or.inr (Or.inr (Or.inl h)))))))))))))))))))))))))) (fun h => Or.elim h (fun h => (Or.inr (Or.inr (Or.inr (Or.inr (Or.inr (Or.inr (Or.inr (Or.inr (Or.inr (Or.inr (Or.inr (Or.inr (Or.inr (Or.inr (Or.inr (Or.inr (Or.inr (Or.inr (Or.inr (Or.inr (Or.inr (Or.inr (Or.inr (Or.inr (Or.inr (Or.inl h))))))))))))))))))))))))))) (fun h => (Or.inr (Or.inr (Or.inr (Or.inr (Or.inr (Or.inr (Or.inr (Or.inr (Or.inr (Or.inr (Or.inr (Or.inr (Or.inr (Or.inr (Or.inr (Or.inr (Or.inr (Or.inr (Or.inr (Or.inr (Or.inr (Or.inr (Or.inr (Or.inr (Or.inr (Or.inr h))))))))))))))))))))))))))))))))))))))))))
  refine ⟨fun c10 => ?_, fun c10 => ?_⟩
  · refine k_Law_copyFrom rfl rfl I_7 (fun g8 I_10 F_11 => ?_)
    have F_12 : zk_fr fr_S_takeLaw g g8 := zk_ft F_9 F_11 (fun a i => (fun h => Or.elim h (fun h => (Or.inr (Or.inr (Or.inr (Or.inr (Or.inr (Or.inr (Or.inr (Or.inr (Or.inr (Or.inl h))))))))))) (fun h => Or.elim h (fun h => (Or.inr (Or.inr (Or.inr (Or.inr (Or.inr (Or.inr (Or.inr (Or.inr (Or.inr (Or.inr (Or.inr (Or.inl h))))))))))))) (fun h => Or.elim h (fun h => (Or.inr (Or.inr (Or.inr (Or.inr (Or.inr (Or.inr (Or.inr (Or.inr (Or.inr (Or.inr (Or.inr (Or.inr (Or.inl h)))))))))))))) (fun h => Or.elim h (fun h => (Or.inr (Or.inr (Or.inr (Or.inr (Or.inr (Or.inr (Or.inr (Or.inr (Or.inr (Or.inr (Or.inr (Or.inr (Or.inr (Or.inl h))))))))))))))) (fun h => Or.elim h (fun h => (Or.inr (Or.inr (Or.inr (Or.inr (Or.inr (Or.inr (Or.inr (Or.inr (Or.inr (Or.inr (Or.inr (Or.inr (Or.inr (Or.inr (Or.inl h)))))))))))))))) (fun h => Or.elim h (fun h => (Or.inr (Or.inr (Or.inr (Or.inr (Or.inr (Or.inr (Or.inr (Or.inr (Or.inr (Or.inr (Or.inr (Or.inr (Or.inr (Or.inr (Or.inr (Or.inl h))))))))))))))))) (fun h => Or.elim h (fun h => (Or.inr (Or.inr (Or.inr (Or.inr (Or.inr (Or.inr (Or.inr (Or.inr (Or.inr (Or.inr (Or.inr (Or.inr (Or.inr (Or.inr (Or.inr (Or.inr (Or.inr (Or.inr (Or.inr (Or.inr (Or.inr (Or.inr (Or.inl h)))))))))))))))))))))))) (fun h => (Or.inr (Or.inr (Or.inr (Or.inr (Or.inr (Or.inr (Or.inr (Or.inr (Or.inr (Or.inr (Or.inr (Or.inr (Or.inr (Or.inr (Or.inr (Or.inr (Or.inr (Or.inr (Or.inr (Or.inr (Or.inr (Or.inr (Or.inr (Or.inl h)))))))))))))))))))))))))))))))))
    have m_13 : 0 ≤ (g8 196 7) ∧ (g8 196 7) ≤ 16 := I_10.1 196 7
    have m_14 : g8 196 7 = g5 196 7 := F_11 _ _ (by unfold fr_Law_copyFrom; omega)
    have m_15 : 0 ≤ (g5 196 7) ∧ (g5 196 7) ≤ 16 := I_7.1 196 7
    exact hQ _ _ I_10 F_12 ⟨by omega, by omega⟩ (by first | exact zySs_L2 (by assumption) (by assumption) (by assumption) (by assumption) | exact zySs_L1 (by assumption) (by assumption) (by assumption))
  · exact hQ _ _ I_7 F_9 ⟨by omega, by omega⟩ (by first | exact zySs_L2 (by assumption) (by assumption) (by assumption) (by assumption) | exact zySs_L1 (by assumption) (by assumption) (by assumption))
-- SpoutNews$Tokens.takeBelow(I)I
theorem k_Tokens_takeBelow {l1 : Int} {g : zi_M} {Q : Int → zi_M → Prop} (I : zk_I g) (p1 : 0 ≤ l1 ∧ l1 ≤ 1000) (hQ : ∀ (v : Int) (g' : zi_M), zk_I g' → zk_fr fr_Tokens_takeBelow g g' → ((-1) ≤ v ∧ v ≤ 999) → (¬ v = -1 → v < l1) → (∀ (T : zyT) (t : Int), zyC T g t → zyE T → zyS T g' t (zyN T l1 t) ∧ (zyN T l1 t = 0 → v = T.2.1 t) ∧ (¬ zyN T l1 t = 0 → v = -1)) → Q v g') : w_Tokens_takeBelow l1 g Q := by
  unfold w_Tokens_takeBelow
  have b4 : 0 ≤ g 191 4 ∧ g 191 4 ≤ 401 := I.1 191 4
  have b3 : 0 ≤ g 191 3 ∧ g 191 3 ≤ 401 := I.1 191 3
  have r : -1 ≤ g 193 (g 191 4) ∧ g 193 (g 191 4) ≤ 9999 := I.1 193 (g 191 4)
  have key : ∀ (v : Int) (T : zyT) (t : Int), ((g 191 3) ≤ (g 191 4) → v = (-1)) → ((g 191 4) < (g 191 3) → ¬ (g 192 (g 191 4)) = 1 → v = (-1)) → ((g 191 4) < (g 191 3) → (g 192 (g 191 4)) = 1 → v = g 193 (g 191 4)) → zyC T g t → zyE T → (T.1 t = 1 → v = T.2.1 t ∧ 0 ≤ v) ∧ (¬ T.1 t = 1 → v = -1) := by
    intro v T t a1 a2 a3 h hE
    have a := zyC_a h
    have b := h.2.1
    refine ⟨fun q => ?_, fun q => a2 a.2.2.2 (by rw [a.1]; exact q)⟩
    have e := a3 a.2.2.2 (by rw [a.1]; exact q)
    rw [a.2.1] at e
    have := hE.2.2.2 t b.2.1 b.2.2 q
    exact ⟨e, by omega⟩
  refine k_Tokens_number I (fun v1 a1 a2 a3 => ⟨⟨by omega, by omega⟩, fun ne => ⟨⟨by omega, by omega⟩, fun lt => ?_, fun ge => ?_⟩, fun e => ?_⟩)
  · refine k_Tokens_step I (fun g7 I7 F7 x7 => ?_)
    refine hQ v1 g7 I7 (zk_ft (zk_f0 _) F7 (fun a i h => Or.inl h)) ⟨by omega, by omega⟩ (by omega) (fun T t h hE => ?_)
    have k := key v1 T t a1 a2 a3 h hE
    have k1 : T.1 t = 1 := Classical.byContradiction (fun q => ne (k.2 q))
    have kv := k.1 k1
    have z := zyN_0.2 (⟨k1, by omega⟩ : T.1 t = 1 ∧ T.2.1 t < l1)
    exact ⟨⟨fun _ => x7 T t h hE (by omega), fun n => absurd z n⟩, fun _ => kv.1, fun n => absurd z n⟩
  · refine k_Tokens_refuse I ⟨by omega, by omega⟩ (fun v9 g10 I10 F10 c10 x10 => ?_)
    refine hQ (-1) g10 I10 (zk_ft (zk_f0 _) F10 (fun a i h => Or.inr h)) ⟨by omega, by omega⟩ (by omega) (fun T t h hE => ?_)
    have k := key v1 T t a1 a2 a3 h hE
    have k1 : T.1 t = 1 := Classical.byContradiction (fun q => ne (k.2 q))
    have kv := k.1 k1
    rw [zyN_2 k1 (by omega)]
    exact ⟨⟨fun n => absurd n (by decide), fun _ => x10 T t h⟩, fun n => absurd n (by decide), fun _ => rfl⟩
  · refine k_Tokens_refuse I ⟨by omega, by omega⟩ (fun v9 g10 I10 F10 c10 x10 => ?_)
    refine hQ (-1) g10 I10 (zk_ft (zk_f0 _) F10 (fun a i h => Or.inr h)) ⟨by omega, by omega⟩ (by omega) (fun T t h hE => ?_)
    have k := key v1 T t a1 a2 a3 h hE
    have k1 : ¬ T.1 t = 1 := fun q => by have := k.1 q; omega
    rw [zyN_1 k1]
    exact ⟨⟨fun n => absurd n (by decide), fun _ => x10 T t h⟩, fun n => absurd n (by decide), fun _ => rfl⟩

-- SpoutNews$Texts.readGutters(LSpoutNews$Tokens;LSpoutNews$World;)Z
theorem k_Texts_readGutters_l15 {T : zyT} (hE : zyE T) {g0 : zi_M} {K37 K64 K75 K107 K131 : zi_M → Prop} {Q : Int → zi_M → Prop}
    (hF : ∀ (g : zi_M) (s : Int), zk_I g → zk_fr fr_Texts_readGutters g0 g → zyI (zyH T (g0 2 8)) s → ¬ zyH T (g0 2 8) s = -1 → zyF T g (zyH T (g0 2 8) s) s → K37 g ∧ K64 g ∧ K107 g)
    (h75 : ∀ (g : zi_M) (s : Int), zk_I g → zk_fr fr_Texts_readGutters g0 g → zyI (zyH T (g0 2 8)) s → zyH T (g0 2 8) s = 2 → zyC T g s → K75 g)
    (hN : ∀ (g : zi_M) (n : Int), zk_I g → zk_fr fr_Texts_readGutters g0 g → 0 ≤ n → n ≤ 16 → zyC T g (5 * n) → g 195 2 = n → zyHr T (g 205) n → zyI (zyH T (g0 2 8)) (5 * n) → zyH T (g0 2 8) (5 * n) = -1 → K131 g) :
    ∀ (m : Nat) (l3 : Int) (g : zi_M), zk_I g → zk_fr fr_Texts_readGutters g0 g → (0 ≤ l3 ∧ l3 ≤ 16) → zyC T g (5 * l3) → g 195 2 = l3 → zyHr T (g 205) l3 → (∀ i : Int, 0 ≤ i → i < 5 * l3 → zyH T (g0 2 8) i = 0) → 16 - l3 < (m : Int) → w_Texts_readGutters_l15 K37 K64 K75 K107 K131 Q m l3 g
  | 0, l3, g, I, F, hl, hc, hn, hw, hz, hm => by exfalso; omega
  | m + 1, l3, g, I, F, hl, hc, hn, hw, hz, hm => by
    have a := zyC_a hc
    have sub : ∀ a i, (a = 191 ∧ i = 4) ∨ (a = 191 ∧ i = 5) ∨ (a = 191 ∧ i = 6) → fr_Texts_readGutters a i := fun a i h => by unfold fr_Texts_readGutters; omega
    have sp : ∀ g' : zi_M, zk_fr fr_Texts_readGutters g0 g' → g' 2 8 = g0 2 8 := fun g' F' => F' 2 8 (by unfold fr_Texts_readGutters; omega)
    have bsp : ∀ g' : zi_M, zk_I g' → 0 ≤ g' 2 8 ∧ g' 2 8 ≤ 10 := fun g' I' => I'.1 2 8
    unfold w_Texts_readGutters_l15
    refine ⟨⟨by omega, by omega⟩, fun c => by exfalso; omega, fun _ => ?_⟩
    refine k_Tokens_isAtEnd I (fun v3 b1 b2 b3 => ⟨fun ne => ?_, fun e => ?_⟩)
    · have k4 : T.1 (5 * l3) = 4 := Classical.byContradiction (fun q => ne (b2 a.2.2.2 (by rw [a.1]; exact q)))
      have f := zyH_e (sp := g0 2 8) k4
      exact hN g l3 I F hl.1 hl.2 hc hn hw ⟨by omega, hz, by rw [f]; decide⟩ f
    · have k4 : ¬ T.1 (5 * l3) = 4 := fun q => by
        have := b3 a.2.2.2 (by rw [a.1]; exact q)
        omega
      refine k_Tokens_takeLineStart I ⟨by omega, by omega⟩ ⟨by omega, by omega⟩ (fun v6 g7 I7 F7 c7 x7 => ?_)
      have x := x7 T _ hc hE
      have y0 := zyH_0 (sp := g0 2 8) k4
      rw [← y0] at x
      have G7 := zk_ft F F7 sub
      refine ⟨fun n6 => ?_, fun e6 => ?_⟩
      · have z0 : zyH T (g0 2 8) (5 * l3) = 0 := Classical.byContradiction (fun q => n6 (x.2.2 q))
        have l16 : l3 < 16 := (zyL_0.1 (y0.symm.trans z0)).2
        have C7 := x.1.1 z0
        have hz1 := zyI_s hz z0
        have s7 := sp g7 G7
        have t7 := bsp g7 I7
        refine k_Tokens_takeBelow I7 ⟨by omega, by omega⟩ (fun v9 g10 I10 F10 c10 d10 x10 => ?_)
        have u := x10 T _ C7 hE
        rw [s7, ← zyH_1] at u
        have G10 := zk_ft G7 F10 sub
        refine ⟨⟨by omega, by omega⟩, fun e9 => ?_, fun n9 => ?_⟩
        · have z1 : ¬ zyH T (g0 2 8) (5 * l3 + 1) = 0 := fun q => by
            have v := u.2.1 q
            have k := zyN_0.1 (zyH_1.symm.trans q)
            have := hE.2.2.2 _ C7.2.1.2.1 C7.2.1.2.2 k.1
            omega
          have z2 : ¬ zyH T (g0 2 8) (5 * l3 + 1) = -1 := by rw [zyH_1]; exact zyN_ne
          exact (hF g10 _ I10 G10 ⟨by omega, hz1, z1⟩ z2 (u.1.2 z1)).2.1
        · have z1 : zyH T (g0 2 8) (5 * l3 + 1) = 0 := Classical.byContradiction (fun q => n9 (u.2.2 q))
          have C10 := u.1.1 z1
          have w9 := u.2.1 z1
          have hz2 := zyI_s hz1 z1
          refine k_Tokens_take I10 ⟨by omega, by omega⟩ ⟨by omega, by omega⟩ (fun v13 g14 I14 F14 c14 x14 => ?_)
          have u := x14 T _ C10 hE
          rw [← zyH_2 (sp := g0 2 8)] at u
          have G14 := zk_ft G10 F14 sub
          refine ⟨fun n13 => ?_, fun e13 => ?_⟩
          · have z2 : zyH T (g0 2 8) (5 * l3 + 1 + 1) = 0 := Classical.byContradiction (fun q => n13 (u.2.2 q))
            have C14 := u.1.1 z2
            have hz3 := zyI_s hz2 z2
            have a14 := zyC_a C14
            have r93 : -1 ≤ g14 193 (g14 191 4) ∧ g14 193 (g14 191 4) ≤ 9999 := I14.1 193 _
            refine k_Tokens_number I14 (fun v17 b1 b2 b3 => ⟨⟨by omega, by omega⟩, fun n17 => ?_, fun e17 => ?_⟩)
            · have ns : ¬ (T.1 (5 * l3 + 1 + 1 + 1) = 1 ∧ T.2.1 (5 * l3 + 1 + 1 + 1) = T.2.1 (5 * l3 + 1)) := fun q => n17 (by
                have v := b3 a14.2.2.2 (by rw [a14.1]; exact q.1)
                rw [v, a14.2.1, q.2, w9])
              have y3 := zyH_3n (sp := g0 2 8) ns
              have s14 := sp g14 G14
              have t14 := bsp g14 I14
              refine k_Tokens_takeBelow I14 ⟨by omega, by omega⟩ (fun v21 g22 I22 F22 c22 d22 x22 => ?_)
              have u := x22 T _ C14 hE
              rw [s14, ← y3] at u
              have G22 := zk_ft G14 F22 sub
              refine ⟨⟨by omega, by omega⟩, fun e21 => ?_, fun n21 => ?_⟩
              · have z3 : ¬ zyH T (g0 2 8) (5 * l3 + 1 + 1 + 1) = 0 := fun q => by
                  have v := u.2.1 q
                  have k := zyN_0.1 (y3.symm.trans q)
                  have := hE.2.2.2 _ C14.2.1.2.1 C14.2.1.2.2 k.1
                  omega
                have z4 : ¬ zyH T (g0 2 8) (5 * l3 + 1 + 1 + 1) = -1 := by rw [y3]; exact zyN_ne
                exact (hF g22 _ I22 G22 ⟨by omega, hz3, z3⟩ z4 (u.1.2 z3)).2.2
              · have z3 : zyH T (g0 2 8) (5 * l3 + 1 + 1 + 1) = 0 := Classical.byContradiction (fun q => n21 (u.2.2 q))
                have C22 := u.1.1 z3
                have w21 := u.2.1 z3
                have b21 := (zyN_0.1 (y3.symm.trans z3)).2
                have hz4 := zyI_s hz3 z3
                refine k_Tokens_take I22 ⟨by omega, by omega⟩ ⟨by omega, by omega⟩ (fun v25 g26 I26 F26 c26 x26 => ?_)
                have u := x26 T _ C22 hE
                rw [← zyH_4 (sp := g0 2 8)] at u
                have G26 := zk_ft G22 F26 sub
                refine ⟨fun n25 => ⟨⟨by omega, by omega⟩, ?_⟩, fun e25 => ?_⟩
                · have z4 : zyH T (g0 2 8) (5 * l3 + 1 + 1 + 1 + 1) = 0 := Classical.byContradiction (fun q => n25 (u.2.2 q))
                  have C26 := u.1.1 z4
                  have hz5 := zyI_s hz4 z4
                  have r5 : g26 205 = g 205 := funext (fun i => by rw [F26 205 i (by unfold fr_Tokens_take; omega), F22 205 i (by unfold fr_Tokens_takeBelow; omega), F14 205 i (by unfold fr_Tokens_take; omega), F10 205 i (by unfold fr_Tokens_takeBelow; omega), F7 205 i (by unfold fr_Tokens_takeLineStart; omega)])
                  intro g29 e29 g30 e30
                  have I29 : zk_I g29 := by rw [e29]; exact zk_upd (L := -1) (H := 9) rfl rfl I26 ⟨by omega, by omega⟩
                  have I30 : zk_I g30 := by rw [e30]; exact zk_upd (L := 0) (H := 17) rfl rfl I29 ⟨by omega, by omega⟩
                  refine k_Texts_readGutters_l15 hE hF h75 hN m (l3 + 1) g30 I30 ?_ ⟨by omega, by omega⟩ ?_ (by rw [e30, zi_u_eq]) ?_ ?_ (by omega)
                  · rw [e30, e29]
                    exact zk_fu (zk_fu G26 (Or.inl rfl)) (Or.inr (Or.inr (Or.inr (Or.inr ⟨rfl, rfl⟩))))
                  · rw [show 5 * (l3 + 1) = 5 * l3 + 1 + 1 + 1 + 1 + 1 by omega]
                    exact zyC_u (zyC_u C26 e29 (Or.inr (by decide))) e30 (Or.inr (by decide))
                  · have q5 : g30 205 = zup (g 205) (T.2.1 (5 * l3 + 1)) (T.2.1 (5 * l3 + 1 + 1 + 1)) := by rw [e30, zi_u_row (by decide), e29, zup_u, r5, w9, w21]
                    rw [q5]
                    exact zyHr_s hw hl.1
                  · rw [show 5 * (l3 + 1) = 5 * l3 + 1 + 1 + 1 + 1 + 1 by omega]
                    exact hz5
                · have z4 : ¬ zyH T (g0 2 8) (5 * l3 + 1 + 1 + 1 + 1) = 0 := fun q => by
                    have := u.2.1 q
                    omega
                  have z5 : ¬ zyH T (g0 2 8) (5 * l3 + 1 + 1 + 1 + 1) = -1 := by rw [zyH_4]; exact zyK_ne
                  exact (hF g26 _ I26 G26 ⟨by omega, hz4, z4⟩ z5 (u.1.2 z4)).2.2
            · have k1 : T.1 (5 * l3 + 1 + 1 + 1) = 1 := Classical.byContradiction (fun q => by
                have v := b2 a14.2.2.2 (by rw [a14.1]; exact q)
                omega)
              have v := b3 a14.2.2.2 (by rw [a14.1]; exact k1)
              rw [a14.2.1] at v
              have z3 := zyH_3s (sp := g0 2 8) ⟨k1, by omega⟩
              exact h75 g14 _ I14 G14 ⟨by omega, hz3, by rw [z3]; decide⟩ z3 C14
          · have z2 : ¬ zyH T (g0 2 8) (5 * l3 + 1 + 1) = 0 := fun q => by
              have := u.2.1 q
              omega
            have z3 : ¬ zyH T (g0 2 8) (5 * l3 + 1 + 1) = -1 := by rw [zyH_2]; exact zyK_ne
            exact (hF g14 _ I14 G14 ⟨by omega, hz2, z2⟩ z3 (u.1.2 z2)).2.1
      · have z0 : ¬ zyH T (g0 2 8) (5 * l3) = 0 := fun q => by
          have := x.2.1 q
          omega
        have z1 : ¬ zyH T (g0 2 8) (5 * l3) = -1 := by rw [y0]; exact zyL_ne
        exact (hF g7 _ I7 G7 ⟨by omega, hz, z0⟩ z1 (x.1.2 z0)).1
theorem k_Texts_readGutters {g : zi_M} {Q : Int → zi_M → Prop} (I : zk_I g) (px0 : zyC (zyM g) g 0 ∧ zyE (zyM g)) (hQ : ∀ (v : Int) (g' : zi_M), zk_I g' → zk_fr fr_Texts_readGutters g g' → (0 ≤ v ∧ v ≤ 1) → (zyHo (zyM g) (g 2 8) g' v) → Q v g') : w_Texts_readGutters g Q := by
  unfold w_Texts_readGutters
  intro g1 e1 g2 e2
  have I1 : zk_I g1 := by rw [e1]; exact zk_fill (L := -1) (H := 9) (fun _ => rfl) (fun _ => rfl) I ⟨by decide, by decide⟩
  have I2 : zk_I g2 := by rw [e2]; exact zk_upd (L := 0) (H := 17) rfl rfl I1 ⟨by decide, by decide⟩
  have F2 : zk_fr fr_Texts_readGutters g g2 := by rw [e2, e1]; exact zk_fu (zk_ff (zk_f0 _) (fun _ => Or.inl rfl)) (Or.inr (Or.inr (Or.inr (Or.inr ⟨rfl, rfl⟩))))
  have C2 : zyC (zyM g) g2 (5 * 0) := by
    rw [Int.mul_zero]
    refine zyC_m px0.1 (fun a i h1 h2 => ?_)
    rw [e2, zi_u_ne (by omega), e1]
    unfold zi_fl
    rw [if_neg (by omega)]
  have R2 : zyHr (zyM g) (g2 205) 0 := fun k k0 k1 => by
    rw [e2, zi_u_row (by decide), e1]
    unfold zi_fl
    rw [if_pos ⟨rfl, k0, k1⟩]
    rfl
  refine ⟨17, k_Texts_readGutters_l15 px0.2 (g0 := g) (fun g' s I' F' hs hn hf => ?_) (fun g' s I' F' hs h2 hc => ?_) (fun g' n I' F' n0 n16 hc hn hw hi he => ?_) 17 0 g2 I2 F2 ⟨by decide, by decide⟩ C2 (by rw [e2, zi_u_eq]) R2 (fun i i0 i1 => by exfalso; omega) (by omega)⟩
  · have r := hQ 0 g' I' F' ⟨by decide, by decide⟩ ⟨s, hs, fun q => absurd q hn, fun _ => ⟨rfl, hf⟩⟩
    exact ⟨r, r, r⟩
  · refine k_Tokens_refuse I' ⟨by decide, by decide⟩ (fun v g'' I'' F'' c x => ?_)
    have y := x _ _ hc
    rw [← h2] at y
    exact hQ v g'' I'' (zk_ft F' F'' (fun a i h => by unfold fr_Tokens_refuse at h; unfold fr_Texts_readGutters; omega)) ⟨by omega, by omega⟩ ⟨s, hs, fun q => by omega, fun _ => ⟨by omega, y⟩⟩
  · exact hQ 1 g' I' F' ⟨by decide, by decide⟩ ⟨5 * n, hi, fun _ => ⟨rfl, by rw [hn], by rw [hn]; exact hw, hc.2.2.1, hc.2.2.2⟩, fun q => absurd he q⟩

-- SpoutNews$Texts.copyGutters(LSpoutNews$Texts;)V
set_option maxRecDepth 100000 in
set_option maxHeartbeats 4000000 in
theorem k_Texts_copyGutters {r0 : Nat} (hr0 : zs_sh r0 = some (6, 11)) {r1 : Nat} (hr1 : zs_sh r1 = some (6, 11)) {g : zi_M} {Q : Int → zi_M → Prop} (I : zk_I g) (hQ : ∀ g' : zi_M, zk_I g' → zk_fr (fr_Texts_copyGutters r0 r1) g g' → (zyTg r0 r1 g g') → Q 0 g') : w_Texts_copyGutters r0 r1 g Q := by
  unfold w_Texts_copyGutters
  intro g2 e_1
  have I_2 : zk_I g2 := by rw [e_1]; exact zk_cp (L := (-1)) (H := 9) (fun i => zk_la6_10 hr1 (i := i)) (fun i => zk_la6_10 hr0 (i := i)) I (zj_a6_10 hr0)
  have F_3 : zk_fr (fr_Texts_copyGutters r0 r1) g g2 := by rw [e_1]; exact zk_fc (zk_f0 _) (fun i => (Or.inl rfl))
  have m_7 := zk_c6_2 hr1 I_2
  intro g3 e_4
  have I_5 : zk_I g3 := by rw [e_4]; exact zk_upd (zk_lc6_2 hr0).1 (zk_lc6_2 hr0).2 I_2 ⟨by omega, by omega⟩ (zj_w6 hr0)
  have F_6 : zk_fr (fr_Texts_copyGutters r0 r1) g g3 := by rw [e_4]; exact zk_fu F_3 (Or.inr ⟨rfl, rfl⟩)
  exact hQ _ I_5 F_6 (by exact zyTg_all hr0 hr1 (by assumption) (by assumption))
-- SpoutNews.takeGutters(I)I
theorem k_S_takeGutters {l1 : Int} {g : zi_M} {Q : Int → zi_M → Prop} (I : zk_I g) (p1 : 0 ≤ l1 ∧ l1 ≤ 400) (hQ : ∀ (v : Int) (g' : zi_M), zk_I g' → zk_fr fr_S_takeGutters g g' → ((-1) ≤ v ∧ v ≤ 17) → (zySs 1000000002 (g 190) l1 g') → (zySg (g 2 8) g g' v) → Q v g') : w_S_takeGutters l1 g Q := by
  unfold w_S_takeGutters
  refine k_Tokens_split (show zs_str 1000000002 from rfl) I p1 (fun g2 I2 F2 s2 c2 => ?_)
  have S2 : zySs 1000000002 (g 190) l1 g2 := ⟨s2, c2.2.2.2⟩
  have sub2 : ∀ a i, fr_Tokens_split 1000000002 a i → fr_S_takeGutters a i := (fun a i h => by unfold fr_Tokens_split at h; unfold fr_S_takeGutters; rcases h with h | h | h | h | h | h | h <;> simp [h])
  have subR : ∀ a i, fr_Texts_readGutters a i → fr_S_takeGutters a i := (fun a i h => by unfold fr_Texts_readGutters at h; unfold fr_S_takeGutters; rcases h with h | h | h | h | h <;> simp [h])
  have G2 := zk_ft (zk_f0 _) F2 sub2
  have e8 : g2 2 8 = g 2 8 := F2 2 8 (by unfold fr_Tokens_split; omega)
  refine k_Texts_readGutters I2 (zySs_C S2 c2) (fun v4 g5 I5 F5 b5 x5 => ?_)
  have G5 := zk_ft G2 F5 subR
  have k5 : ∀ (a : Nat) (i : Int), a = 192 ∨ a = 193 ∨ a = 194 ∨ (a = 191 ∧ i = 3) → g5 a i = g2 a i := fun a i h => F5 a i (by unfold fr_Texts_readGutters; omega)
  have S5 := zySs_m S2 k5
  have m5 := zyM_m k5
  rw [← m5, e8] at x5
  have k : ∀ (a : Nat) (i : Int), a ≤ 91 → g5 a i = g a i := fun a i ha => by rw [F5 a i (by unfold fr_Texts_readGutters; omega), F2 a i (by unfold fr_Tokens_split; omega)]
  refine ⟨fun ne => ?_, fun e => ?_⟩
  · refine k_Texts_copyGutters rfl rfl I5 (fun g8 I8 F8 t8 => ?_)
    have G8 := zk_ft G5 F8 (fun a i h => by unfold fr_Texts_copyGutters at h; unfold fr_S_takeGutters; rcases h with h | h <;> simp [h])
    have k8 : ∀ (a : Nat) (i : Int), ¬ (a = 29 ∨ (a = 19 ∧ i = 2)) → g8 a i = g5 a i := fun a i h2 => F8 a i (by unfold fr_Texts_copyGutters; omega)
    have e195 : g8 195 2 = g5 195 2 := k8 195 2 (by decide)
    have b195 : 0 ≤ g5 195 2 ∧ g5 195 2 ≤ 17 := I5.1 195 2
    have m8 : zyM g8 = zyM g5 := zyM_m (fun a i h => k8 a i (by omega))
    obtain ⟨s, s1, s2, s3⟩ := x5
    by_cases z : zyH (zyM g5) (g 2 8) s = -1
    · obtain ⟨h1, h2, h3, h4, h5⟩ := s2 z
      refine hQ _ g8 I8 G8 ⟨by omega, by omega⟩ (zySs_m S5 (fun a i h => k8 a i (by omega))) ?_
      unfold zySg
      rw [m8]
      refine ⟨by rw [k8 91 1 (by decide)]; exact k 91 1 (by decide), s, s1, fun _ => ⟨by rw [e195]; exact t8.1.symm, by rw [e195]; exact h2, ?_, by rw [k8 191 5 (by decide)]; exact h4, by rw [k8 191 6 (by decide)]; exact h5⟩, fun q => absurd z q⟩
      intro m m0 m1
      rw [e195, t8.2 m m0 m1]
      exact h3 m m0 m1
    · exfalso
      have := (s3 z).1
      omega
  · obtain ⟨s, s1, s2, s3⟩ := x5
    have z : ¬ zyH (zyM g5) (g 2 8) s = -1 := fun q => by have := (s2 q).1; omega
    have h := s3 z
    exact hQ (-1) g5 I5 G5 ⟨by decide, by decide⟩ S5 ⟨k 91 1 (by decide), s, s1, fun q => absurd q z, fun _ => ⟨rfl, h.2, k 19 2 (by decide), fun i => k 29 i (by decide)⟩⟩

