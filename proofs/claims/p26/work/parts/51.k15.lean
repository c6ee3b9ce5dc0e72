-- by program (wip/gen/mkz.py)
-- SpoutNews$Thought.firstWithout()I
set_option maxRecDepth 100000 in
set_option maxHeartbeats 4000000 in
theorem k_Thought_firstWithout_l2 {g : zi_M} (I : zk_I g) {K17 : Int → zi_M → Prop} {K25 : zi_M → Prop} {Q : Int → zi_M → Prop} (hK17 : ∀ (k1 : Int), (0 ≤ k1 ∧ k1 ≤ 3) → K17 k1 g) (hK25 : K25 g) (hQ : ∀ v : Int, ((-1) ≤ v ∧ v ≤ 3) → Q v g) : ∀ (n : Nat) {l1 : Int}, (0 ≤ l1 ∧ l1 ≤ 4) → 4 - l1 < (n : Int) → w_Thought_firstWithout_l2 K17 K25 Q n l1 g
  | 0, l1, b0, hm => by exfalso; omega
  | n + 1, l1, b0, hm => by
    unfold w_Thought_firstWithout_l2
    refine ⟨⟨by omega, by omega⟩, ?_⟩
    refine ⟨fun c5 => ?_, fun c5 => ?_⟩
    · exact hK25
    · refine ⟨⟨by omega, by omega⟩, ?_⟩
      have m_1 : (-1) ≤ (g 186 l1) ∧ (g 186 l1) ≤ 3 := I.1 186 l1
      refine ⟨⟨by omega, by omega⟩, ?_⟩
      refine ⟨fun c4 => ?_, fun c4 => ?_⟩
      · exact k_Thought_firstWithout_l2 I hK17 hK25 hQ n ⟨by omega, by omega⟩ (by omega)
      · exact hK17 _ ⟨by omega, by omega⟩
set_option maxRecDepth 100000 in
set_option maxHeartbeats 4000000 in
theorem k_Thought_firstWithout {g : zi_M} {Q : Int → zi_M → Prop} (I : zk_I g) (hQ : ∀ v : Int, ((-1) ≤ v ∧ v ≤ 3) → Q v g) : w_Thought_firstWithout g Q := by
  unfold w_Thought_firstWithout
  refine ⟨((4 - 0 : Int).toNat + 1), k_Thought_firstWithout_l2 I (fun k6 b_2 => ?_) (?_) hQ ((4 - 0 : Int).toNat + 1) ⟨by omega, by omega⟩ (by omega)⟩
  · exact hQ _ ⟨by omega, by omega⟩
  · exact hQ _ ⟨by omega, by omega⟩
-- SpoutNews$Thought.dearness(LSpoutNews$Told;II)I
set_option maxRecDepth 100000 in
set_option maxHeartbeats 4000000 in
theorem k_Thought_dearness_l2 {g : zi_M} (I : zk_I g) {l1 : Int} {l2 : Int} {K21 : Int → zi_M → Prop} {K29 : zi_M → Prop} {Q : Int → zi_M → Prop} (q1 : 0 ≤ l1 ∧ l1 ≤ 3) (q2 : 0 ≤ l2 ∧ l2 ≤ 3) (hK21 : ∀ (k3 : Int), (0 ≤ k3 ∧ k3 ≤ 3) → K21 k3 g) (hK29 : K29 g) (hQ : ∀ v : Int, (0 ≤ v ∧ v ≤ 4) → Q v g) : ∀ (n : Nat) {l3 : Int}, (0 ≤ l3 ∧ l3 ≤ 4) → 4 - l3 < (n : Int) → w_Thought_dearness_l2 l1 l2 K21 K29 Q n l3 g
  | 0, l3, b0, hm => by exfalso; omega
  | n + 1, l3, b0, hm => by
    unfold w_Thought_dearness_l2
    refine ⟨⟨by omega, by omega⟩, ?_⟩
    refine ⟨fun c6 => ?_, fun c6 => ?_⟩
    · exact hK29
    · refine ⟨⟨by omega, by omega⟩, ?_⟩
      have m_1 : 0 ≤ (g 43 ((l1 * 4) + l3)) ∧ (g 43 ((l1 * 4) + l3)) ≤ 3 := I.1 43 ((l1 * 4) + l3)
      refine ⟨⟨by omega, by omega⟩, ⟨by omega, by omega⟩, ?_⟩
      refine ⟨fun c5 => ?_, fun c5 => ?_⟩
      · exact k_Thought_dearness_l2 I q1 q2 hK21 hK29 hQ n ⟨by omega, by omega⟩ (by omega)
      · exact hK21 _ ⟨by omega, by omega⟩
set_option maxRecDepth 100000 in
set_option maxHeartbeats 4000000 in
theorem k_Thought_dearness {l1 : Int} {l2 : Int} {g : zi_M} {Q : Int → zi_M → Prop} (I : zk_I g) (p1 : 0 ≤ l1 ∧ l1 ≤ 3) (p2 : 0 ≤ l2 ∧ l2 ≤ 3) (hQ : ∀ v : Int, (0 ≤ v ∧ v ≤ 4) → Q v g) : w_Thought_dearness l1 l2 g Q := by
  unfold w_Thought_dearness
  refine ⟨((4 - 0 : Int).toNat + 1), k_Thought_dearness_l2 (l1 := l1) (l2 := l2) I ⟨by omega, by omega⟩ ⟨by omega, by omega⟩ (fun k7 b_2 => ?_) (?_) hQ ((4 - 0 : Int).toNat + 1) ⟨by omega, by omega⟩ (by omega)⟩
  · exact hQ _ ⟨by omega, by omega⟩
  · exact hQ _ ⟨by omega, by omega⟩
-- SpoutNews$Thought.offer(LSpoutNews$Told;II)V
noncomputable def fr_Thought_offer (a : Nat) (i : Int) : Prop := a = 186 ∨ a = 187 ∨ a = 188
theorem k_Thought_offer {l2 : Int} {l3 : Int} {g : zi_M} {Q : Int → zi_M → Prop} (I : zk_I g) (p2 : 0 ≤ l2 ∧ l2 ≤ 3) (p3 : 0 ≤ l3 ∧ l3 ≤ 3) (px0 : ∀ m : Int, 0 ≤ m → m ≤ 3 → g 188 m ≤ 15) (hQ : ∀ g' : zi_M, zk_I g' → zk_fr fr_Thought_offer g g' → (∀ m : Int, 0 ≤ m → m ≤ 3 → g' 188 m ≤ g 188 m + 1) → Q 0 g') : w_Thought_offer l2 l3 g Q := by
  have q2 : g 188 l2 ≤ 15 := px0 l2 p2.1 p2.2
  have r2 : 0 ≤ g 188 l2 := (I.1 188 l2).1
  have b66 : ∀ g', zk_I g' → zk_fr fr_Thought_offer g g' → (∀ m, 0 ≤ m → m ≤ 3 → g' 188 m ≤ g 188 m + 1) → w_Thought_offer_b66 l2 l3 g' Q := by
    intro g' I' F' h
    unfold w_Thought_offer_b66
    refine ⟨⟨p3.1, by omega⟩, ?_⟩
    intro g5 e5
    have I5 : zk_I g5 := by rw [e5]; exact zk_upd (L := -1) (H := 3) rfl rfl I' ⟨by omega, by omega⟩
    refine ⟨⟨p2.1, by omega⟩, ?_⟩
    intro g7 e7
    have I7 : zk_I g7 := by rw [e7]; exact zk_upd (L := -1) (H := 3) rfl rfl I5 ⟨by omega, by omega⟩
    refine hQ g7 I7 (by rw [e7, e5]; exact zk_fu (zk_fu F' (Or.inr (Or.inl rfl))) (Or.inl rfl)) (fun m m0 m1 => ?_)
    rw [e7, zi_u_ne (by decide), e5, zi_u_ne (by decide)]
    exact h m m0 m1
  have h3 : -1 ≤ g 187 l3 ∧ g 187 l3 ≤ 3 := I.1 187 l3
  have b41 : w_Thought_offer_b41 l2 l3 (g 187 l3) g Q := by
    unfold w_Thought_offer_b41
    refine ⟨⟨by omega, by omega⟩, fun _ => b66 g I (zk_f0 _) (fun m _ _ => by omega), fun ne => ⟨⟨by omega, by omega⟩, ?_⟩⟩
    intro g9 e9 g10 e10
    have q4 : g 188 (g 187 l3) ≤ 15 := px0 _ (by omega) h3.2
    have r4 : 0 ≤ g 188 (g 187 l3) := (I.1 188 _).1
    have I9 : zk_I g9 := by rw [e9]; exact zk_upd (L := -1) (H := 3) rfl rfl I ⟨by decide, by decide⟩
    have a9 : ∀ i, g9 188 i = g 188 i := fun i => by rw [e9]; exact zi_u_ne (by decide)
    have I10 : zk_I g10 := by rw [e10]; exact zk_upd (L := 0) (H := 16) rfl rfl I9 ⟨by rw [a9]; omega, by rw [a9]; omega⟩
    refine b66 g10 I10 (by rw [e10, e9]; exact zk_fu (zk_fu (zk_f0 _) (Or.inl rfl)) (Or.inr (Or.inr rfl))) (fun m _ _ => ?_)
    by_cases q : m = g 187 l3
    · rw [q, e10, zi_u_eq, a9]; omega
    · rw [e10, zi_u_ni q, a9]; omega
  unfold w_Thought_offer
  refine ⟨⟨p3.1, by omega⟩, zk_rng I _ _, fun _ => b41, fun ne => ?_⟩
  refine k_Thought_dearness I p3 ⟨by omega, by omega⟩ (fun v12 h12 => ?_)
  refine k_Thought_dearness I p3 ⟨by omega, by omega⟩ (fun v15 h15 => ⟨⟨by omega, by omega⟩, ⟨by omega, by omega⟩, fun _ => b41, fun _ => ⟨⟨p2.1, by omega⟩, ?_⟩⟩)
  intro g21 e21
  refine hQ g21 (by rw [e21]; exact zk_upd (L := 0) (H := 16) rfl rfl I ⟨by omega, by omega⟩) (by rw [e21]; exact zk_fu (zk_f0 _) (Or.inr (Or.inr rfl))) (fun m _ _ => ?_)
  by_cases q : m = l2
  · rw [q, e21, zi_u_eq]; omega
  · rw [e21, zi_u_ni q]; omega

-- SpoutNews$Thought.makeOffers(LSpoutNews$Told;)V
noncomputable def fr_Thought_makeOffers (a : Nat) (i : Int) : Prop := a = 186 ∨ a = 187 ∨ a = 188 ∨ (a = 180 ∧ i = 11)
theorem k_Thought_makeOffers_l31 {g0 : zi_M} {K57 K97 : zi_M → Prop} {Q : Int → zi_M → Prop} (hK : ∀ g, zk_I g → zk_fr fr_Thought_makeOffers g0 g → K57 g ∧ K97 g) :
    ∀ (n : Nat) (l2 : Int) (g : zi_M), 0 ≤ l2 → l2 ≤ 16 → zk_I g → zk_fr fr_Thought_makeOffers g0 g → g 180 11 ≤ l2 → (∀ m, 0 ≤ m → m ≤ 3 → g 188 m ≤ l2) → 16 - l2 < (n : Int) → w_Thought_makeOffers_l31 K57 K97 Q n l2 g
  | 0, l2, g, h0, h1, I, F, ho, hr, hm => by exfalso; omega
  | n + 1, l2, g, h0, h1, I, F, ho, hr, hm => by
    have hk := hK g I F
    have o0 : 0 ≤ g 180 11 := (I.1 180 11).1
    unfold w_Thought_makeOffers_l31
    refine ⟨⟨by omega, by omega⟩, fun _ => hk.2, fun hl => ?_⟩
    refine k_Thought_firstWithout I (fun v6 h6 => ⟨⟨by omega, by omega⟩, fun _ => hk.2, fun ne => ⟨⟨by omega, by omega⟩, zk_rng I _ _, fun h4 => ?_, fun _ => hk.1⟩⟩)
    have r0 : 0 ≤ g 188 v6 := (I.1 188 v6).1
    intro g12 e12
    have I12 : zk_I g12 := by rw [e12]; exact zk_upd (L := 0) (H := 16) rfl rfl I ⟨by omega, by omega⟩
    have F12 : zk_fr fr_Thought_makeOffers g0 g12 := by rw [e12]; exact zk_fu F (Or.inr (Or.inr (Or.inr ⟨rfl, rfl⟩)))
    have a : ∀ i, g12 188 i = g 188 i := fun i => by rw [e12]; exact zi_u_ne (by decide)
    refine ⟨⟨by rw [a]; omega, by rw [a]; omega⟩, ?_⟩
    refine k_Thought_offer I12 ⟨by omega, by omega⟩ (I12.1 42 _) (fun m m0 m1 => by rw [a]; have := hr m m0 m1; omega) (fun g15 I15 F15 h15 => ?_)
    refine k_Thought_makeOffers_l31 hK n (l2 + 1) g15 (by omega) (by omega) I15 (zk_ft F12 F15 (fun a i h => h.elim Or.inl (fun h => Or.inr (h.elim Or.inl (fun h => Or.inr (Or.inl h)))))) ?_ (fun m m0 m1 => ?_) (by omega)
    · rw [F15 _ _ (by unfold fr_Thought_offer; omega), e12, zi_u_eq]; omega
    · have := h15 m m0 m1
      rw [a] at this
      have := hr m m0 m1
      omega
theorem k_Thought_makeOffers {g : zi_M} {Q : Int → zi_M → Prop} (I : zk_I g) (hQ : ∀ g' : zi_M, zk_I g' → zk_fr fr_Thought_makeOffers g g' → Q 0 g') : w_Thought_makeOffers g Q := by
  unfold w_Thought_makeOffers
  intro g1 e1 g2 e2 g3 e3 g4 e4
  have I1 : zk_I g1 := by rw [e1]; exact zk_fill (L := -1) (H := 3) (fun _ => rfl) (fun _ => rfl) I ⟨by decide, by decide⟩
  have I2 : zk_I g2 := by rw [e2]; exact zk_fill (L := -1) (H := 3) (fun _ => rfl) (fun _ => rfl) I1 ⟨by decide, by decide⟩
  have I3 : zk_I g3 := by rw [e3]; exact zk_fill (L := 0) (H := 16) (fun _ => rfl) (fun _ => rfl) I2 ⟨by decide, by decide⟩
  have I4 : zk_I g4 := by rw [e4]; exact zk_upd (L := 0) (H := 16) rfl rfl I3 ⟨by decide, by decide⟩
  have F4 : zk_fr fr_Thought_makeOffers g g4 := by
    rw [e4, e3, e2, e1]
    exact zk_fu (zk_ff (zk_ff (zk_ff (zk_f0 _) (fun _ => Or.inl rfl)) (fun _ => Or.inr (Or.inl rfl))) (fun _ => Or.inr (Or.inr (Or.inl rfl)))) (Or.inr (Or.inr (Or.inr ⟨rfl, rfl⟩)))
  refine ⟨17, k_Thought_makeOffers_l31 (g0 := g) (fun g' I' F' => ⟨hQ g' I' F', hQ g' I' F'⟩) 17 0 g4 (by decide) (by decide) I4 F4 (by rw [e4, zi_u_eq]; decide) (fun m m0 m1 => ?_) (by decide)⟩
  rw [e4, zi_u_ne (by decide), e3]
  unfold zi_fl
  rw [if_pos ⟨rfl, m0, by omega⟩]
  decide

-- SpoutNews.keeps(I)I
noncomputable def fr_S_keeps (a : Nat) (i : Int) : Prop := a = 186 ∨ a = 187 ∨ a = 188 ∨ (a = 180 ∧ i = 11)
set_option maxRecDepth 100000 in
set_option maxHeartbeats 4000000 in
theorem k_S_keeps {l1 : Int} {g : zi_M} {Q : Int → zi_M → Prop} (I : zk_I g) (p1 : (-2147483648) ≤ l1 ∧ l1 ≤ 2147483647) (hQ : ∀ (v : Int) (g' : zi_M), zk_I g' → zk_fr fr_S_keeps g g' → ((-1) ≤ v ∧ v ≤ 16) → Q v g') : w_S_keeps l1 g Q := by
  unfold w_S_keeps
  refine ⟨⟨by omega, by omega⟩, ?_⟩
  refine ⟨fun c8 => ?_, fun c8 => ?_⟩
  · exact hQ _ _ I (zk_f0 _) ⟨by omega, by omega⟩
  · refine ⟨fun c7 => ?_, fun c7 => ?_⟩
    · refine k_Thought_makeOffers I (fun g3 I_1 F_2 => ?_)
      have F_3 : zk_fr fr_S_keeps g g3 := zk_ft (zk_f0 _) F_2 (fun a i => (fun h => Or.elim h (fun h => (Or.inl h)) (fun h => Or.elim h (fun h => (Or.inr (Or.inl h))) (fun h => Or.elim h (fun h => (Or.inr (Or.inr (Or.inl h)))) (fun h => (Or.inr (Or.inr (Or.inr h))))))))
      refine ⟨fun c6 => ?_, fun c6 => ?_⟩
      · refine ⟨⟨by omega, by omega⟩, ?_⟩
        have m_4 : (-1) ≤ (g3 186 l1) ∧ (g3 186 l1) ≤ 3 := I_1.1 186 l1
        exact hQ _ _ I_1 F_3 ⟨by omega, by omega⟩
      · have m_5 : 0 ≤ (g3 180 11) ∧ (g3 180 11) ≤ 16 := I_1.1 180 11
        exact hQ _ _ I_1 F_3 ⟨by omega, by omega⟩
    · exact hQ _ _ I (zk_f0 _) ⟨by omega, by omega⟩
-- SpoutNewsModel.freeMason()I
theorem k_M_freeMason_l11 {g : zi_M} {l1 : Int} {K : Int → zi_M → Prop} {Q : Int → zi_M → Prop} (I : zk_I g) (p1 : 0 ≤ l1 ∧ l1 ≤ 3) (hK0 : (∀ s, 0 ≤ s → s ≤ 3 → ¬ g 245 s = l1 + 1) → K 0 g) (hK1 : (∃ s, 0 ≤ s ∧ s ≤ 3 ∧ g 245 s = l1 + 1) → K 1 g) :
    ∀ (n : Nat) (l2 l3 : Int), 0 ≤ l3 → l3 ≤ 4 → (l2 = 0 ∧ (∀ s, 0 ≤ s → s < l3 → ¬ g 245 s = l1 + 1) ∨ l2 = 1 ∧ (∃ s, 0 ≤ s ∧ s ≤ 3 ∧ g 245 s = l1 + 1)) → 4 - l3 < (n : Int) → w_M_freeMason_l11 l1 K Q n l2 l3 g
  | 0, l2, l3, h0, h1, hs, hm => by exfalso; omega
  | n + 1, l2, l3, h0, h1, hs, hm => by
    unfold w_M_freeMason_l11
    refine ⟨⟨by omega, by omega⟩, fun h4 => ?_, fun h4 => ⟨⟨by omega, by omega⟩, zk_rng I _ _, ⟨by omega, by omega⟩, fun ne => ?_, fun e => ?_⟩⟩
    · rcases hs with ⟨e, h⟩ | ⟨e, h⟩
      · rw [e]; exact hK0 (fun s s0 s1 => h s s0 (by omega))
      · rw [e]; exact hK1 h
    · refine k_M_freeMason_l11 I p1 hK0 hK1 n l2 (l3 + 1) (by omega) (by omega) ?_ (by omega)
      rcases hs with ⟨e, h⟩ | ⟨e, h⟩
      · refine Or.inl ⟨e, fun s s0 s1 => ?_⟩
        by_cases q : s = l3
        · rw [q]; exact ne
        · exact h s s0 (by omega)
      · exact Or.inr ⟨e, h⟩
    · exact k_M_freeMason_l11 I p1 hK0 hK1 n 1 (l3 + 1) (by omega) (by omega) (Or.inr ⟨rfl, l3, h0, by omega, e⟩) (by omega)
theorem k_M_freeMason_l2 {g : zi_M} {K40 : Int → zi_M → Prop} {K48 : zi_M → Prop} {Q : Int → zi_M → Prop} (I : zk_I g) (hK40 : ∀ m, 0 ≤ m → m ≤ 3 → (∀ s, 0 ≤ s → s ≤ 3 → ¬ g 245 s = m + 1) → K40 m g) (hK48 : (∀ m, 0 ≤ m → m ≤ 3 → ∃ s, 0 ≤ s ∧ s ≤ 3 ∧ g 245 s = m + 1) → K48 g) :
    ∀ (n : Nat) (l1 : Int), 0 ≤ l1 → l1 ≤ 4 → (∀ m, 0 ≤ m → m < l1 → ∃ s, 0 ≤ s ∧ s ≤ 3 ∧ g 245 s = m + 1) → 4 - l1 < (n : Int) → w_M_freeMason_l2 K40 K48 Q n l1 g
  | 0, l1, h0, h1, hs, hm => by exfalso; omega
  | n + 1, l1, h0, h1, hs, hm => by
    unfold w_M_freeMason_l2
    refine ⟨⟨by omega, by omega⟩, fun h4 => hK48 (fun m m0 m1 => hs m m0 (by omega)), fun h4 => ⟨5, ?_⟩⟩
    refine k_M_freeMason_l11 I ⟨h0, by omega⟩ (fun h => ⟨⟨by decide, by decide⟩, fun ne => absurd rfl ne, fun _ => hK40 l1 h0 (by omega) h⟩) (fun h => ⟨⟨by decide, by decide⟩, fun _ => ?_, fun e => absurd e (by decide)⟩) 5 0 0 (by decide) (by decide) (Or.inl ⟨rfl, fun s s0 s1 => by omega⟩) (by decide)
    refine k_M_freeMason_l2 I hK40 hK48 n (l1 + 1) (by omega) (by omega) (fun m m0 m1 => ?_) (by omega)
    by_cases q : m = l1
    · rw [q]; exact h
    · exact hs m m0 (by omega)
theorem k_M_freeMason {g : zi_M} {Q : Int → zi_M → Prop} (I : zk_I g) (hQ : ∀ v : Int, ((-1) ≤ v ∧ v ≤ 3) → (¬ v = -1 → ∀ s : Int, 0 ≤ s → s ≤ 3 → ¬ g 245 s = v + 1) → (v = -1 → ∀ m : Int, 0 ≤ m → m ≤ 3 → ∃ s : Int, 0 ≤ s ∧ s ≤ 3 ∧ g 245 s = m + 1) → Q v g) : w_M_freeMason g Q := by
  unfold w_M_freeMason
  exact ⟨5, k_M_freeMason_l2 I (fun m m0 m1 h => hQ m ⟨by omega, m1⟩ (fun _ => h) (fun e => by omega)) (fun h => hQ (-1) ⟨by decide, by decide⟩ (fun n => absurd rfl n) (fun _ => h)) 5 0 (by decide) (by decide) (fun m m0 m1 => by omega) (by decide)⟩

-- SpoutNewsModel.dearOf(II)I
set_option maxRecDepth 100000 in
set_option maxHeartbeats 4000000 in
theorem k_M_dearOf {l1 : Int} {l2 : Int} {g : zi_M} {Q : Int → zi_M → Prop} (I : zk_I g) (p1 : 0 ≤ l1 ∧ l1 ≤ 7) (p2 : 0 ≤ l2 ∧ l2 ≤ 3) (hQ : ∀ v : Int, (v = (g 244 ((4 * l1) + l2)) + l2) → Q v g) : w_M_dearOf l1 l2 g Q := by
  unfold w_M_dearOf
  refine ⟨⟨by omega, by omega⟩, ?_⟩
  have m_1 := zk_mason I (i := ((4 * l1) + l2))
  exact hQ _ (by intros; omega)
-- SpoutNewsModel.placeIn(II)I
theorem k_M_placeIn_l2 {g : zi_M} {l1 l2 : Int} {K : Int → zi_M → Prop} {Q : Int → zi_M → Prop} (I : zk_I g) (p1 : 0 ≤ l1 ∧ l1 ≤ 7) (p2 : 0 ≤ l2 ∧ l2 ≤ 3) {k : Int} (k0 : k ≤ 3) (hk : g 244 (4 * l1 + k) + k = l2) (hK : ∀ v, 0 ≤ v → v ≤ 3 → K v g) :
    ∀ (n : Nat) (l3 : Int), 0 ≤ l3 → l3 ≤ k → k - l3 < (n : Int) → w_M_placeIn_l2 l1 l2 K Q n l3 g
  | 0, l3, h0, h1, hm => by exfalso; omega
  | n + 1, l3, h0, h1, hm => by
    unfold w_M_placeIn_l2
    have r := zk_rng I 244 (4 * l1 + l3)
    have lm := (zk_mason I (i := 4 * l1 + l3)).2 (by omega)
    refine k_M_dearOf I p1 ⟨h0, by omega⟩ (fun v hv => ⟨⟨by omega, by omega⟩, ⟨by omega, by omega⟩, fun _ => hK _ h0 (by omega), fun ne => ?_⟩)
    by_cases e : l3 = k
    · rw [e] at hv
      exact absurd (hv.trans hk) ne
    · exact k_M_placeIn_l2 I p1 p2 k0 hk hK n (l3 + 1) (by omega) (by omega) (by omega)
theorem k_M_placeIn {l1 : Int} {l2 : Int} {g : zi_M} {Q : Int → zi_M → Prop} (I : zk_I g) (p1 : 0 ≤ l1 ∧ l1 ≤ 7) (p2 : 0 ≤ l2 ∧ l2 ≤ 3) (hQ : ∀ v : Int, (0 ≤ v ∧ v ≤ 3) → Q v g) : w_M_placeIn l1 l2 g Q := by
  unfold w_M_placeIn
  have row := I.2.rows l1 p1.1 (by omega)
  have ex : ∃ k : Int, 0 ≤ k ∧ k ≤ 3 ∧ g 244 (4 * l1 + k) + k = l2 := by
    unfold zj_row at row
    have e0 : g 244 (4 * l1 + 0) + 0 = g 244 (4 * l1) := by rw [Int.add_zero, Int.add_zero]
    by_cases a : g 244 (4 * l1) = l2
    · exact ⟨0, by decide, by decide, by rw [e0]; exact a⟩
    · by_cases b : g 244 (4 * l1 + 1) + 1 = l2
      · exact ⟨1, by decide, by decide, b⟩
      · by_cases c : g 244 (4 * l1 + 2) + 2 = l2
        · exact ⟨2, by decide, by decide, c⟩
        · refine ⟨3, by decide, by decide, ?_⟩
          clear e0
          generalize g 244 (4 * l1) = x at *
          generalize g 244 (4 * l1 + 1) + 1 = y at *
          generalize g 244 (4 * l1 + 2) + 2 = z at *
          generalize g 244 (4 * l1 + 3) + 3 = w at *
          omega
  obtain ⟨k, k0, k1, hk⟩ := ex
  exact ⟨4, k_M_placeIn_l2 I p1 p2 k1 hk (fun v h0 h1 => hQ v ⟨h0, h1⟩) 4 0 (by decide) k0 (by omega)⟩

-- SpoutNewsModel.offers()I
noncomputable def fr_M_offers (a : Nat) (i : Int) : Prop := a = 245 ∨ a = 246
theorem k_M_offers_l2 {g0 : zi_M} {K : zi_M → Prop} {Q : Int → zi_M → Prop} (hK : ∀ g, zk_I g → zk_fr fr_M_offers g0 g → (∀ i, 0 ≤ i → i < 4 → g 245 i = 0 ∧ g 246 i = 0) → K g) :
    ∀ (n : Nat) (l1 : Int) (g : zi_M), 0 ≤ l1 → l1 ≤ 4 → zk_I g → zk_fr fr_M_offers g0 g → (∀ i, 0 ≤ i → i < l1 → g 245 i = 0 ∧ g 246 i = 0) → 4 - l1 < (n : Int) → w_M_offers_l2 K Q n l1 g
  | 0, l1, g, h0, h1, I, F, hs, hm => by exfalso; omega
  | n + 1, l1, g, h0, h1, I, F, hs, hm => by
    unfold w_M_offers_l2
    refine ⟨⟨by omega, by omega⟩, fun h4 => hK g I F (fun i i0 i1 => hs i i0 (by omega)), fun h4 => ⟨⟨by omega, by omega⟩, ?_⟩⟩
    intro g3 e3 g4 e4
    have I3 : zk_I g3 := by rw [e3]; exact zk_upd (L := 0) (H := 4) rfl rfl I ⟨by decide, by decide⟩
    have I4 : zk_I g4 := by rw [e4]; exact zk_upd (L := 0) (H := 4) rfl rfl I3 ⟨by decide, by decide⟩
    refine k_M_offers_l2 hK n (l1 + 1) g4 (by omega) (by omega) I4 (by rw [e4, e3]; exact zk_fu (zk_fu F (Or.inl rfl)) (Or.inr rfl)) (fun i i0 i1 => ?_) (by omega)
    by_cases q : i = l1
    · rw [q]; exact ⟨by rw [e4, zi_u_ne (by decide), e3, zi_u_eq], by rw [e4, zi_u_eq]⟩
    · rw [e4, zi_u_ne (by decide), e3, zi_u_ni q, zi_u_ni q, zi_u_ne (by decide)]
      exact hs i i0 (by omega)
theorem k_M_offers_l29 {g0 : zi_M} {K : Int → zi_M → Prop} {Q : Int → zi_M → Prop} (hK : ∀ k g, 0 ≤ k → k ≤ 16 → zk_I g → zk_fr fr_M_offers g0 g → (∀ m, 0 ≤ m → m ≤ 3 → ∃ s, 0 ≤ s ∧ s ≤ 3 ∧ g 245 s = m + 1) → K k g) :
    ∀ (n : Nat) (l1 : Int) (g : zi_M), zk_I g → zk_fr fr_M_offers g0 g → l1 = g 246 0 + g 246 1 + g 246 2 + g 246 3 →
      (∀ s t, 0 ≤ s → s ≤ 3 → 0 ≤ t → t ≤ 3 → s ≠ t → g 245 s ≠ 0 → g 245 s ≠ g 245 t) →
      (∀ m j, 0 ≤ m → m ≤ 3 → 0 ≤ j → j < g 246 m → g 245 (g 244 (4 * m + j) + j) ≠ 0) → 16 - l1 < (n : Int) → w_M_offers_l29 K Q n l1 g
  | 0, l1, g, I, F, hl, hd, ho, hm => by
    have a0 : g 246 0 ≤ 4 := (I.1 246 0).2
    have a1 : g 246 1 ≤ 4 := (I.1 246 1).2
    have a2 : g 246 2 ≤ 4 := (I.1 246 2).2
    have a3 : g 246 3 ≤ 4 := (I.1 246 3).2
    exfalso; omega
  | n + 1, l1, g, I, F, hl, hd, ho, hm => by
    have a0 : 0 ≤ g 246 0 ∧ g 246 0 ≤ 4 := I.1 246 0
    have a1 : 0 ≤ g 246 1 ∧ g 246 1 ≤ 4 := I.1 246 1
    have a2 : 0 ≤ g 246 2 ∧ g 246 2 ≤ 4 := I.1 246 2
    have a3 : 0 ≤ g 246 3 ∧ g 246 3 ≤ 4 := I.1 246 3
    unfold w_M_offers_l29
    refine k_M_freeMason I (fun v7 hv7 hf7 hn7 => ⟨⟨by omega, by omega⟩, fun e => hK l1 g (by omega) (by omega) I F (hn7 e), fun n7 => ?_⟩)
    refine k_M_freeMason I (fun m hv11 hf hn => ?_)
    -- the mason that is free
    by_cases em : m = -1
    · exfalso
      obtain ⟨s, s0, s1, s2⟩ := hn em v7 (by omega) hv7.2
      exact hf7 n7 s s0 s1 s2
    have m0 : 0 ≤ m ∧ m ≤ 3 := by omega
    have fr := hf em
    have am : 0 ≤ g 246 m ∧ g 246 m ≤ 4 := I.1 246 m
    have row := I.2.rows m m0.1 (by omega)
    have k0 : 0 ≤ g 245 0 ∧ g 245 0 ≤ 4 := I.1 245 0
    have k1 : 0 ≤ g 245 1 ∧ g 245 1 ≤ 4 := I.1 245 1
    have k2 : 0 ≤ g 245 2 ∧ g 245 2 ≤ 4 := I.1 245 2
    have k3 : 0 ≤ g 245 3 ∧ g 245 3 ≤ 4 := I.1 245 3
    have o3 : g 246 m ≤ 3 := by
      refine Classical.byContradiction (fun n4 => ?_)
      have all : ∀ s, 0 ≤ s → s ≤ 3 → g 245 s ≠ 0 := by
        intro s s0 s1
        have ex : ∃ k : Int, 0 ≤ k ∧ k ≤ 3 ∧ g 244 (4 * m + k) + k = s := by
          unfold zj_row at row
          have e0 : g 244 (4 * m + 0) + 0 = g 244 (4 * m) := by rw [Int.add_zero, Int.add_zero]
          by_cases a : g 244 (4 * m) = s
          · exact ⟨0, by decide, by decide, by rw [e0]; exact a⟩
          · by_cases b : g 244 (4 * m + 1) + 1 = s
            · exact ⟨1, by decide, by decide, b⟩
            · by_cases c : g 244 (4 * m + 2) + 2 = s
              · exact ⟨2, by decide, by decide, c⟩
              · refine ⟨3, by decide, by decide, ?_⟩
                obtain ⟨r1, r2, r3, r4, n1, n2, n3, n4, n5, n6⟩ := row
                clear e0
                generalize g 244 (4 * m) = x at *
                generalize g 244 (4 * m + 1) + 1 = y at *
                generalize g 244 (4 * m + 2) + 2 = z at *
                generalize g 244 (4 * m + 3) + 3 = w at *
                clear hl hm a0 a1 a2 a3 k0 k1 k2 k3
                omega
        obtain ⟨k, kk0, kk1, kk⟩ := ex
        have := ho m k m0.1 m0.2 kk0 (by omega)
        rw [kk] at this
        exact this
      have f0 := fr 0 (by decide) (by decide)
      have f1 := fr 1 (by decide) (by decide)
      have f2 := fr 2 (by decide) (by decide)
      have f3 := fr 3 (by decide) (by decide)
      have n0 := all 0 (by decide) (by decide)
      have n1 := all 1 (by decide) (by decide)
      have n2 := all 2 (by decide) (by decide)
      have n3 := all 3 (by decide) (by decide)
      have d01 := hd 0 1 (by decide) (by decide) (by decide) (by decide) (by decide) n0
      have d02 := hd 0 2 (by decide) (by decide) (by decide) (by decide) (by decide) n0
      have d03 := hd 0 3 (by decide) (by decide) (by decide) (by decide) (by decide) n0
      have d12 := hd 1 2 (by decide) (by decide) (by decide) (by decide) (by decide) n1
      have d13 := hd 1 3 (by decide) (by decide) (by decide) (by decide) (by decide) n1
      have d23 := hd 2 3 (by decide) (by decide) (by decide) (by decide) (by decide) n2
      obtain ⟨i, j, hij, hj, e⟩ := zk_ph 3 (fun i => let v := g 245 (i : Int); if v < m + 1 then v - 1 else v - 2) (by
        intro i hi
        have fi := fr i (by omega) (by omega)
        have ni := all i (by omega) (by omega)
        have ki : 0 ≤ g 245 i ∧ g 245 i ≤ 4 := I.1 245 i
        simp only
        split <;> omega)
      have fi := fr i (by omega) (by omega)
      have fj := fr j (by omega) (by omega)
      have ni := all i (by omega) (by omega)
      have dij := hd i j (by omega) (by omega) (by omega) (by omega) (by omega) ni
      simp only at e
      split at e <;> split at e <;> omega
    have lm := (zk_mason I (i := 4 * m + g 246 m)).2 (by omega)
    refine ⟨⟨m0.1, by omega⟩, ?_⟩
    refine k_M_dearOf I ⟨m0.1, by omega⟩ ⟨am.1, o3⟩ (fun s hs => ?_)
    intro g18 e18
    have I18 : zk_I g18 := by rw [e18]; exact zk_upd (L := 0) (H := 4) rfl rfl I ⟨by omega, by omega⟩
    have F18 : zk_fr fr_M_offers g0 g18 := by rw [e18]; exact zk_fu F (Or.inr rfl)
    have f245 : ∀ i, g18 245 i = g 245 i := fun i => by rw [e18]; exact zi_u_ne (by decide)
    have f244 : ∀ i, g18 244 i = g 244 i := fun i => by rw [e18]; exact zi_u_ne (by decide)
    have u246 : g18 246 m = g 246 m + 1 := by rw [e18, zi_u_eq]
    have v246 : ∀ i, ¬ i = m → g18 246 i = g 246 i := fun i hi => by rw [e18]; exact zi_u_ni hi
    have s0 : 0 ≤ s ∧ s ≤ 3 := by omega
    have hl' : l1 + 1 = g18 246 0 + g18 246 1 + g18 246 2 + g18 246 3 := by
      by_cases q0 : m = 0
      · rw [q0] at u246 v246; rw [u246, v246 1 (by decide), v246 2 (by decide), v246 3 (by decide)]; omega
      · by_cases q1 : m = 1
        · rw [q1] at u246 v246; rw [u246, v246 0 (by decide), v246 2 (by decide), v246 3 (by decide)]; omega
        · by_cases q2 : m = 2
          · rw [q2] at u246 v246; rw [u246, v246 0 (by decide), v246 1 (by decide), v246 3 (by decide)]; omega
          · have q3 : m = 3 := by omega
            rw [q3] at u246 v246; rw [u246, v246 0 (by decide), v246 1 (by decide), v246 2 (by decide)]; omega
    have kb : 0 ≤ g18 245 s ∧ g18 245 s ≤ 4 := I18.1 245 s
    -- it takes the stone
    have take : ∀ g21, g21 = zi_u g18 245 s (m + 1) → w_M_offers_l29 K Q n (l1 + 1) g21 := by
      intro g21 e21
      have w245 : g21 245 s = m + 1 := by rw [e21, zi_u_eq]
      have x245 : ∀ i, ¬ i = s → g21 245 i = g 245 i := fun i hi => by rw [e21, zi_u_ni hi, f245]
      have y246 : ∀ i, g21 246 i = g18 246 i := fun i => by rw [e21]; exact zi_u_ne (by decide)
      have y244 : ∀ i, g21 244 i = g 244 i := fun i => by rw [e21, zi_u_ne (by decide), f244]
      refine k_M_offers_l29 hK n (l1 + 1) g21 (by rw [e21]; exact zk_upd (L := 0) (H := 4) rfl rfl I18 ⟨by omega, by omega⟩) (by rw [e21]; exact zk_fu F18 (Or.inl rfl)) (by rw [y246, y246, y246, y246]; exact hl') ?_ ?_ (by omega)
      · intro s' t' h1 h2 h3 h4 ne nz
        by_cases q : s' = s
        · rw [q, w245, x245 t' (fun e => ne (q.trans e.symm))]
          exact fun e => fr t' h3 h4 e.symm
        · rw [x245 s' q] at nz ⊢
          by_cases q2 : t' = s
          · rw [q2, w245]; exact fr s' h1 h2
          · rw [x245 t' q2]; exact hd s' t' h1 h2 h3 h4 ne nz
      · intro m' j h1 h2 h3 h4
        rw [y246] at h4
        rw [y244]
        by_cases q : g 244 (4 * m' + j) + j = s
        · rw [q, w245]; omega
        · rw [x245 _ q]
          refine ho m' j h1 h2 h3 ?_
          by_cases qm : m' = m
          · rw [qm, u246] at h4
            by_cases qj : j = g 246 m
            · exfalso; apply q; rw [qm, qj]; exact hs.symm
            · rw [qm]; omega
          · rw [v246 m' qm] at h4; exact h4
    have leave : g18 245 s ≠ 0 → w_M_offers_l29 K Q n (l1 + 1) g18 := by
      intro nz
      refine k_M_offers_l29 hK n (l1 + 1) g18 I18 F18 hl' ?_ ?_ (by omega)
      · intro s' t' h1 h2 h3 h4 ne nz'
        rw [f245] at nz' ⊢
        rw [f245]
        exact hd s' t' h1 h2 h3 h4 ne nz'
      · intro m' j h1 h2 h3 h4
        rw [f244, f245]
        by_cases qm : m' = m
        · rw [qm, u246] at h4
          by_cases qj : j = g 246 m
          · rw [qm, qj, ← hs, ← f245]; exact nz
          · exact ho m' j h1 h2 h3 (by rw [qm]; omega)
        · rw [v246 m' qm] at h4; exact ho m' j h1 h2 h3 h4
    refine ⟨⟨s0.1, by omega⟩, zk_rng I18 _ _, fun _ => take, fun nz => ?_⟩
    refine k_M_placeIn I18 ⟨by omega, by omega⟩ m0 (fun v22 h22 => ?_)
    refine k_M_placeIn I18 ⟨by omega, by omega⟩ ⟨by omega, by omega⟩ (fun v25 h25 => ?_)
    exact ⟨⟨by omega, by omega⟩, ⟨by omega, by omega⟩, fun _ => leave nz, fun _ => take⟩
theorem k_M_offers {g : zi_M} {Q : Int → zi_M → Prop} (I : zk_I g) (hQ : ∀ (v : Int) (g' : zi_M), zk_I g' → zk_fr fr_M_offers g g' → (0 ≤ v ∧ v ≤ 16) → (∀ m : Int, 0 ≤ m → m ≤ 3 → ∃ s : Int, 0 ≤ s ∧ s ≤ 3 ∧ g' 245 s = m + 1) → Q v g') : w_M_offers g Q := by
  unfold w_M_offers
  refine ⟨5, k_M_offers_l2 (g0 := g) (fun g6 I6 F6 hz => ⟨17, ?_⟩) 5 0 g (by decide) (by decide) I (zk_f0 _) (fun i i0 i1 => by omega) (by decide)⟩
  have z0 := hz 0 (by decide) (by decide)
  have z1 := hz 1 (by decide) (by decide)
  have z2 := hz 2 (by decide) (by decide)
  have z3 := hz 3 (by decide) (by decide)
  refine k_M_offers_l29 (g0 := g) (fun k g' h0 h1 I' F' h => hQ k g' I' F' ⟨h0, h1⟩ h) 17 0 g6 I6 F6 (by omega) (fun s t h1 h2 h3 h4 ne nz => absurd (hz s h1 (by omega)).1 nz) (fun m j h1 h2 h3 h4 => by have := (hz m h1 (by omega)).2; omega) (by decide)

-- SpoutNewsModel.keeps(I)I
noncomputable def fr_M_keeps (a : Nat) (i : Int) : Prop := a = 245 ∨ a = 246 ∨ (a = 214 ∧ i = 0)
theorem k_M_keeps_l31 {g : zi_M} {l1 : Int} {K : Int → zi_M → Prop} {Q : Int → zi_M → Prop} (I : zk_I g) (p1 : 0 ≤ l1 ∧ l1 ≤ 3) {s : Int} (s1 : s ≤ 3) (hs : g 245 s = l1 + 1) (hK : ∀ v, 0 ≤ v → v ≤ 3 → K v g) :
    ∀ (n : Nat) (l3 : Int), 0 ≤ l3 → l3 ≤ s → s - l3 < (n : Int) → w_M_keeps_l31 l1 K Q n l3 g
  | 0, l3, h0, h1, hm => by exfalso; omega
  | n + 1, l3, h0, h1, hm => by
    unfold w_M_keeps_l31
    refine ⟨⟨h0, by omega⟩, zk_rng I _ _, ⟨by omega, by omega⟩, fun _ => hK l3 h0 (by omega), fun ne => ?_⟩
    by_cases e : l3 = s
    · rw [e] at ne; exact absurd hs ne
    · exact k_M_keeps_l31 I p1 s1 hs hK n (l3 + 1) (by omega) (by omega) (by omega)
theorem k_M_keeps {l1 : Int} {g : zi_M} {Q : Int → zi_M → Prop} (I : zk_I g) (p1 : (-2147483648) ≤ l1 ∧ l1 ≤ 2147483647) (hQ : ∀ (v : Int) (g' : zi_M), zk_I g' → zk_fr fr_M_keeps g g' → ((-1) ≤ v) → Q v g') : w_M_keeps l1 g Q := by
  unfold w_M_keeps
  intro g1 e1
  have I1 : zk_I g1 := by rw [e1]; exact zk_upd (L := -2147483648) (H := 2147483647) rfl rfl I ⟨by decide, by decide⟩
  have F1 : zk_fr fr_M_keeps g g1 := by rw [e1]; exact zk_fu (zk_f0 _) (Or.inr (Or.inr ⟨rfl, rfl⟩))
  refine k_M_isIn I1 p1 ⟨by decide, by decide⟩ ⟨by decide, by decide⟩ (fun v2 a1 a2 a3 => ⟨fun n2 => ?_, fun _ => hQ _ _ I1 F1 (by decide)⟩)
  refine k_M_offers I1 (fun v5 g6 I6 F6 hv5 h => ?_)
  have F6' : zk_fr fr_M_keeps g g6 := zk_ft F1 F6 (fun a i h => h.elim Or.inl (fun h => Or.inr (Or.inl h)))
  refine ⟨p1, fun nm => ?_, fun _ => hQ _ _ I6 F6' (by omega)⟩
  obtain ⟨s, s0, s1, hs⟩ := h l1 (by omega) (by omega)
  exact ⟨4, k_M_keeps_l31 I6 ⟨by omega, by omega⟩ s1 hs (fun v v0 v1 => hQ _ _ I6 F6' (by omega)) 4 0 (by decide) s0 (by omega)⟩

-- SpoutNews$Thought.likely(III)I
theorem k_Thought_likely {l0 l1 l2 : Int} {g : zi_M} {Q : Int → zi_M → Prop} (I : zk_I g) (p0 : 0 ≤ l0 ∧ l0 ≤ 1000) (p1 : 0 ≤ l1 ∧ l1 ≤ 20) (p2 : 0 ≤ l2 ∧ l2 ≤ 20) (hQ : ∀ v : Int, (-2147483648 ≤ v ∧ v ≤ 2147483647) → v = sm_S l0 l1 l2 → Q v g) : w_Thought_likely l0 l1 l2 g Q := by
  have h := sm_S_in (p := l0) (n := l1) (m := l2) p0
  exact ⟨p0, p1, p2, hQ _ ⟨by omega, by omega⟩ rfl⟩

-- SpoutNews.surmise(III)I
theorem k_S_surmise {l1 : Int} {l2 : Int} {l3 : Int} {g : zi_M} {Q : Int → zi_M → Prop} (I : zk_I g) (p1 : (-2147483648) ≤ l1 ∧ l1 ≤ 2147483647) (p2 : (-2147483648) ≤ l2 ∧ l2 ≤ 2147483647) (p3 : (-2147483648) ≤ l3 ∧ l3 ≤ 2147483647) (hQ : ∀ v : Int, ((-2147483648) ≤ v ∧ v ≤ 2147483647) → (zsu l1 l2 l3 v) → Q v g) : w_S_surmise l1 l2 l3 g Q := by
  have no : ¬ ((0 ≤ l1 ∧ l1 ≤ 1000) ∧ (0 ≤ l2 ∧ l2 ≤ 20) ∧ (0 ≤ l3 ∧ l3 ≤ 20)) → Q (-1) g := fun n => hQ _ (by decide) ⟨fun q => absurd q n, fun _ => rfl⟩
  unfold w_S_surmise
  refine ⟨p1, fun h => no (fun q => by omega), fun h1 => ⟨fun h => no (fun q => by omega), fun h2 => ⟨p2, fun h => no (fun q => by omega), fun h3 => ⟨fun h => no (fun q => by omega), fun h4 => ⟨p3, fun h => no (fun q => by omega), fun h5 => ⟨fun h6 => ?_, fun h => no (fun q => by omega)⟩⟩⟩⟩⟩⟩
  exact k_Thought_likely I ⟨by omega, by omega⟩ ⟨by omega, by omega⟩ ⟨by omega, by omega⟩ (fun v hv e => hQ v hv ⟨fun _ => e, fun n => absurd ⟨⟨by omega, by omega⟩, ⟨by omega, by omega⟩, ⟨by omega, by omega⟩⟩ n⟩)

-- SpoutNewsModel.shareOf(II)I
theorem zs_div {a b : Int} (hb : 0 < b) : 10 * (a / b) + (a % b * 10) / b = (a * 10) / b ∧ (a % b * 10) % b = (a * 10) % b := by
  have h := Int.emod_add_mul_ediv a b
  have e : a * 10 = a % b * 10 + b * (10 * (a / b)) := by
    have h2 : (a % b + b * (a / b)) * 10 = a * 10 := by rw [h]
    rw [Int.add_mul] at h2
    rw [← h2, Int.mul_assoc, Int.mul_comm (a / b) 10]
  rw [e, Int.add_mul_ediv_left _ _ (by omega), Int.add_mul_emod_self_left]
  exact ⟨by omega, rfl⟩
theorem k_M_shareOf_l12 {g : zi_M} {O l2 : Int} {K : Int → zi_M → Prop} {Q : Int → zi_M → Prop} (hO : 0 ≤ O) (q2 : 1 ≤ l2 ∧ l2 ≤ 6000000) (hK : ∀ v, v = O * 1000000 / l2 → K v g) :
    ∀ (n : Nat) (l3 l4 l5 : Int) (k : Nat), l5 = k → k ≤ 6 → l3 = O * 10 ^ k / l2 → l4 = O * 10 ^ k % l2 → 6 - l5 < (n : Int) → w_M_shareOf_l12 l2 K Q n l3 l4 l5 g
  | 0, l3, l4, l5, k, h0, h1, h2, h3, hm => by exfalso; omega
  | n + 1, l3, l4, l5, k, h0, h1, h2, h3, hm => by
    have b0 : 0 ≤ l4 := by rw [h3]; exact Int.emod_nonneg _ (by omega)
    have b1 : l4 < l2 := by rw [h3]; exact Int.emod_lt_of_pos _ (by omega)
    unfold w_M_shareOf_l12
    refine ⟨⟨by omega, by omega⟩, fun h6 => hK l3 ?_, fun h6 => ⟨⟨by omega, by omega⟩, ⟨by omega, by omega⟩, by omega, by omega, ?_⟩⟩
    · have e : k = 6 := by omega
      rw [h2, e]
      rfl
    · have z := zs_div (a := O * 10 ^ k) (b := l2) (by omega)
      have p : O * 10 ^ (k + 1) = O * 10 ^ k * 10 := by rw [Int.pow_succ, Int.mul_assoc]
      refine k_M_shareOf_l12 hO q2 hK n _ _ (l5 + 1) (k + 1) (by omega) (by omega) ?_ ?_ (by omega)
      · rw [Int.tdiv_eq_ediv_of_nonneg (by omega), p, ← z.1, h2, h3]
      · rw [Int.tmod_eq_emod_of_nonneg (by omega), p, ← z.2, h3]
theorem k_M_shareOf {l1 : Int} {l2 : Int} {g : zi_M} {Q : Int → zi_M → Prop} (I : zk_I g) (p1 : 0 ≤ l1 ∧ l1 ≤ 6000000) (p2 : 1 ≤ l2 ∧ l2 ≤ 6000000) (px0 : l1 ≤ l2) (hQ : ∀ v : Int, (0 ≤ v ∧ v ≤ 1000000) → (v = l1 * 1000000 / l2) → Q v g) : w_M_shareOf l1 l2 g Q := by
  unfold w_M_shareOf
  refine ⟨⟨by omega, by omega⟩, ⟨by omega, by omega⟩, by omega, by omega, 7, ?_⟩
  refine k_M_shareOf_l12 (O := l1) p1.1 p2 (fun v e => hQ v ?_ e) 7 _ _ 0 0 rfl (by decide) (by rw [Int.tdiv_eq_ediv_of_nonneg p1.1, Int.pow_zero, Int.mul_one]) (by rw [Int.tmod_eq_emod_of_nonneg p1.1, Int.pow_zero, Int.mul_one]) (by decide)
  rw [e]
  refine ⟨Int.ediv_nonneg (by omega) (by omega), ?_⟩
  exact Int.ediv_le_of_le_mul (by omega) (by omega)

-- SpoutNewsModel.surmised(III)I
theorem k_M_surmised {l1 : Int} {l2 : Int} {l3 : Int} {g : zi_M} {Q : Int → zi_M → Prop} (I : zk_I g) (p1 : 0 ≤ l1 ∧ l1 ≤ 1000000) (p2 : 4 ≤ l2 ∧ l2 ≤ 6) (p3 : 4 ≤ l3 ∧ l3 ≤ 6) (px0 : (l2 = 6 ∧ l3 = 4) ∨ (l2 = 4 ∧ l3 = 6)) (hQ : ∀ v : Int, (0 ≤ v ∧ v ≤ 1000000) → (v = sm_F l2 l3 l1) → Q v g) : w_M_surmised l1 l2 l3 g Q := by
  unfold w_M_surmised
  rcases px0 with ⟨e2, e3⟩ | ⟨e2, e3⟩
  · rw [e2, e3]
    exact k_M_shareOf I ⟨by omega, by omega⟩ ⟨by omega, by omega⟩ (by omega) (fun v hv e => hQ v hv (by rw [e, e2, e3]; rfl))
  · rw [e2, e3]
    exact k_M_shareOf I ⟨by omega, by omega⟩ ⟨by omega, by omega⟩ (by omega) (fun v hv e => hQ v hv (by rw [e, e2, e3]; rfl))

-- SpoutNewsModel.surmise(III)I
noncomputable def fr_M_surmise (a : Nat) (i : Int) : Prop := (a = 214 ∧ i = 0)
theorem k_M_surmise_l51 {g : zi_M} {l2 : Int} {K : Int → zi_M → Prop} {Q : Int → zi_M → Prop} (I : zk_I g) (q2 : 0 ≤ l2 ∧ l2 ≤ 20) {X : Int} (hK : ∀ v, 0 ≤ v → v ≤ 1000000 → v = sm_it 6 4 l2.toNat X → K v g) :
    ∀ (n : Nat) (l4 l5 : Int) (k : Nat), l5 + k = l2 → 0 ≤ l5 → 0 ≤ l4 → l4 ≤ 1000000 → sm_it 6 4 k l4 = sm_it 6 4 l2.toNat X → k < n → w_M_surmise_l51 l2 K Q n l4 l5 g
  | 0, l4, l5, k, h0, h1, h2, h3, h4, hm => absurd hm (Nat.not_lt_zero _)
  | n + 1, l4, l5, k, h0, h1, h2, h3, h4, hm => by
    unfold w_M_surmise_l51
    refine ⟨⟨by omega, by omega⟩, ⟨by omega, by omega⟩, fun h => hK l4 h2 h3 ?_, fun h => ?_⟩
    · have e : k = 0 := by omega
      rw [e] at h4
      exact h4
    · refine k_M_surmised I ⟨h2, h3⟩ ⟨by decide, by decide⟩ ⟨by decide, by decide⟩ (Or.inl ⟨rfl, rfl⟩) (fun v hv e => ?_)
      cases k with
      | zero => exfalso; omega
      | succ k => exact k_M_surmise_l51 I q2 hK n v (l5 + 1) k (by omega) (by omega) hv.1 hv.2 (by rw [e, ← h4]; rfl) (by omega)
theorem k_M_surmise_l77 {g : zi_M} {l3 : Int} {K : Int → zi_M → Prop} {Q : Int → zi_M → Prop} (I : zk_I g) (q2 : 0 ≤ l3 ∧ l3 ≤ 20) {X : Int} (hK : ∀ v, 0 ≤ v → v ≤ 1000000 → v = sm_it 4 6 l3.toNat X → K v g) :
    ∀ (n : Nat) (l4 l5 : Int) (k : Nat), l5 + k = l3 → 0 ≤ l5 → 0 ≤ l4 → l4 ≤ 1000000 → sm_it 4 6 k l4 = sm_it 4 6 l3.toNat X → k < n → w_M_surmise_l77 l3 K Q n l4 l5 g
  | 0, l4, l5, k, h0, h1, h2, h3, h4, hm => absurd hm (Nat.not_lt_zero _)
  | n + 1, l4, l5, k, h0, h1, h2, h3, h4, hm => by
    unfold w_M_surmise_l77
    refine ⟨⟨by omega, by omega⟩, ⟨by omega, by omega⟩, fun h => hK l4 h2 h3 ?_, fun h => ?_⟩
    · have e : k = 0 := by omega
      rw [e] at h4
      exact h4
    · refine k_M_surmised I ⟨h2, h3⟩ ⟨by decide, by decide⟩ ⟨by decide, by decide⟩ (Or.inr ⟨rfl, rfl⟩) (fun v hv e => ?_)
      cases k with
      | zero => exfalso; omega
      | succ k => exact k_M_surmise_l77 I q2 hK n v (l5 + 1) k (by omega) (by omega) hv.1 hv.2 (by rw [e, ← h4]; rfl) (by omega)
theorem k_M_surmise {l1 : Int} {l2 : Int} {l3 : Int} {g : zi_M} {Q : Int → zi_M → Prop} (I : zk_I g) (p1 : (-2147483648) ≤ l1 ∧ l1 ≤ 2147483647) (p2 : (-2147483648) ≤ l2 ∧ l2 ≤ 2147483647) (p3 : (-2147483648) ≤ l3 ∧ l3 ≤ 2147483647) (hQ : ∀ (v : Int) (g' : zi_M), zk_I g' → zk_fr fr_M_surmise g g' → ((-2147483648000) ≤ v ∧ v ≤ 2147483647000) → (zsu l1 l2 l3 v) → Q v g') : w_M_surmise l1 l2 l3 g Q := by
  unfold w_M_surmise
  intro g1 e1
  have I1 : zk_I g1 := by rw [e1]; exact zk_upd (L := -2147483648) (H := 2147483647) rfl rfl I ⟨by decide, by decide⟩
  have F1 : zk_fr fr_M_surmise g g1 := by rw [e1]; exact zk_fu (zk_f0 _) ⟨rfl, rfl⟩
  have no : ¬ ((0 ≤ l1 ∧ l1 ≤ 1000) ∧ (0 ≤ l2 ∧ l2 ≤ 20) ∧ (0 ≤ l3 ∧ l3 ≤ 20)) → Q (-1) g1 := fun n => hQ _ _ I1 F1 (by decide) ⟨fun q => absurd q n, fun _ => rfl⟩
  refine k_M_isIn I1 p1 ⟨by decide, by decide⟩ ⟨by decide, by decide⟩ (fun v2 a1 a2 a3 => ⟨fun e => no (fun q => by omega), fun n2 => ?_⟩)
  refine k_M_isIn I1 p2 ⟨by decide, by decide⟩ ⟨by decide, by decide⟩ (fun v5 b1 b2 b3 => ⟨fun e => no (fun q => by omega), fun n5 => ?_⟩)
  refine k_M_isIn I1 p3 ⟨by decide, by decide⟩ ⟨by decide, by decide⟩ (fun v8 c1 c2 c3 => ⟨fun n8 => ?_, fun e => no (fun q => by omega)⟩)
  have q1 : 0 ≤ l1 ∧ l1 ≤ 1000 := by omega
  have q2 : 0 ≤ l2 ∧ l2 ≤ 20 := by omega
  have q3 : 0 ≤ l3 ∧ l3 ≤ 20 := by omega
  refine ⟨l2.toNat + 1, k_M_surmise_l51 I1 q2 (X := 1000 * l1) (fun v v0 v1 e => ⟨l3.toNat + 1, ?_⟩) (l2.toNat + 1) (1000 * l1) 0 l2.toNat (by omega) (by decide) (by omega) (by omega) rfl (Nat.lt_succ_self _)⟩
  refine k_M_surmise_l77 I1 q3 (X := v) (fun w w0 w1 ew => hQ w g1 I1 F1 (by omega) ⟨fun _ => ?_, fun n => absurd ⟨q1, q2, q3⟩ n⟩) (l3.toNat + 1) v 0 l3.toNat (by omega) (by decide) v0 v1 rfl (Nat.lt_succ_self _)
  rw [ew, e]
  rfl

-- SpoutNews.drought(I)I
noncomputable def fr_S_drought (a : Nat) (i : Int) : Prop := a = 44 ∨ (a = 36 ∧ i = 10)
set_option maxRecDepth 100000 in
set_option maxHeartbeats 4000000 in
theorem k_S_drought {l1 : Int} {g : zi_M} {Q : Int → zi_M → Prop} (I : zk_I g) (p1 : (-2147483648) ≤ l1 ∧ l1 ≤ 2147483647) (hQ : ∀ (v : Int) (g' : zi_M), zk_I g' → zk_fr fr_S_drought g g' → ((-1) ≤ v ∧ v ≤ 40) → (l1 = -1 → v = 0 ∧ g' 36 10 = 0) → (¬ l1 = -1 → 0 ≤ l1 ∧ l1 ≤ 9 ∧ g 36 10 < 40 → v = g 36 10 + 1 ∧ g' 36 10 = g 36 10 + 1) → (¬ l1 = -1 → ¬ (0 ≤ l1 ∧ l1 ≤ 9 ∧ g 36 10 < 40) → v = -1 ∧ g' 36 10 = g 36 10) → (∀ k : Int, 0 ≤ k ∧ k < 40 → (¬ (¬ l1 = -1 ∧ 0 ≤ l1 ∧ l1 ≤ 9 ∧ g 36 10 < 40) → g' 44 k = g 44 k) ∧ (¬ l1 = -1 ∧ 0 ≤ l1 ∧ l1 ≤ 9 ∧ g 36 10 < 40 → (k = g 36 10 → g' 44 k = l1) ∧ (¬ k = g 36 10 → g' 44 k = g 44 k))) → Q v g') : w_S_drought l1 g Q := by
  unfold w_S_drought
  refine ⟨⟨by omega, by omega⟩, ?_⟩
  refine ⟨fun c10 => ?_, fun c10 => ?_⟩
  · refine ⟨fun c8 => ?_, fun c8 => ?_⟩
    · have m_1 : 0 ≤ (g 36 10) ∧ (g 36 10) ≤ 40 := I.1 36 10
      have z_3 : ∀ k : Int, 0 ≤ k ∧ k < 40 → (¬ (¬ l1 = -1 ∧ 0 ≤ l1 ∧ l1 ≤ 9 ∧ g 36 10 < 40) → g 44 k = g 44 k) ∧ (¬ l1 = -1 ∧ 0 ≤ l1 ∧ l1 ≤ 9 ∧ g 36 10 < 40 → (k = g 36 10 → g 44 k = l1) ∧ (¬ k = g 36 10 → g 44 k = g 44 k)) := by
        intro k hk
        have m_2 : 0 ≤ (g 44 k) ∧ (g 44 k) ≤ 9 := I.1 44 k
        omega
      exact hQ _ _ I (zk_f0 _) ⟨by omega, by omega⟩ (by omega) (by omega) (by omega) z_3
    · refine ⟨fun c7 => ?_, fun c7 => ?_⟩
      · have m_4 : 0 ≤ (g 36 10) ∧ (g 36 10) ≤ 40 := I.1 36 10
        have z_6 : ∀ k : Int, 0 ≤ k ∧ k < 40 → (¬ (¬ l1 = -1 ∧ 0 ≤ l1 ∧ l1 ≤ 9 ∧ g 36 10 < 40) → g 44 k = g 44 k) ∧ (¬ l1 = -1 ∧ 0 ≤ l1 ∧ l1 ≤ 9 ∧ g 36 10 < 40 → (k = g 36 10 → g 44 k = l1) ∧ (¬ k = g 36 10 → g 44 k = g 44 k)) := by
          intro k hk
          have m_5 : 0 ≤ (g 44 k) ∧ (g 44 k) ≤ 9 := I.1 44 k
          omega
        exact hQ _ _ I (zk_f0 _) ⟨by omega, by omega⟩ (by omega) (by omega) (by omega) z_6
      · have m_7 : 0 ≤ (g 36 10) ∧ (g 36 10) ≤ 40 := I.1 36 10
        refine ⟨⟨by omega, by omega⟩, ?_⟩
        refine ⟨fun c6 => ?_, fun c6 => ?_⟩
        · refine ⟨⟨by omega, by omega⟩, ?_⟩
          intro g4 e_8
          have I_9 : zk_I g4 := by rw [e_8]; exact zk_upd (L := 0) (H := 9) rfl rfl I ⟨by omega, by omega⟩
          have F_10 : zk_fr fr_S_drought g g4 := by rw [e_8]; exact zk_fu (zk_f0 _) (Or.inl rfl)
          have m_14 : 0 ≤ (g4 36 10) ∧ (g4 36 10) ≤ 40 := I_9.1 36 10
          have m_15 : g4 36 10 = g 36 10 := by rw [e_8]; exact zi_u_ne (by decide)
          intro g5 e_11
          have I_12 : zk_I g5 := by rw [e_11]; exact zk_upd (L := 0) (H := 40) rfl rfl I_9 ⟨by omega, by omega⟩
          have F_13 : zk_fr fr_S_drought g g5 := by rw [e_11]; exact zk_fu F_10 (Or.inr ⟨rfl, rfl⟩)
          have m_16 : 0 ≤ (g5 36 10) ∧ (g5 36 10) ≤ 40 := I_12.1 36 10
          have m_17 : g5 36 10 = (g4 36 10) + 1 := by rw [e_11]; exact zi_u_eq
          have z_23 : ∀ k : Int, 0 ≤ k ∧ k < 40 → (¬ (¬ l1 = -1 ∧ 0 ≤ l1 ∧ l1 ≤ 9 ∧ g 36 10 < 40) → g5 44 k = g 44 k) ∧ (¬ l1 = -1 ∧ 0 ≤ l1 ∧ l1 ≤ 9 ∧ g 36 10 < 40 → (k = g 36 10 → g5 44 k = l1) ∧ (¬ k = g 36 10 → g5 44 k = g 44 k)) := by
            intro k hk
            have m_18 : 0 ≤ (g5 44 k) ∧ (g5 44 k) ≤ 9 := I_12.1 44 k
            have m_19 : g5 44 k = g4 44 k := by rw [e_11]; exact zi_u_ne (by decide)
            have m_20 : 0 ≤ (g4 44 k) ∧ (g4 44 k) ≤ 9 := I_9.1 44 k
            have m_21 : 0 ≤ (g 44 k) ∧ (g 44 k) ≤ 9 := I.1 44 k
            have m_22 : (k = g 36 10 → g4 44 k = l1) ∧ (¬ k = g 36 10 → g4 44 k = g 44 k) := by rw [e_8]; exact zi_u_if
            omega
          exact hQ _ _ I_12 F_13 ⟨by omega, by omega⟩ (by omega) (by omega) (by omega) z_23
        · have z_25 : ∀ k : Int, 0 ≤ k ∧ k < 40 → (¬ (¬ l1 = -1 ∧ 0 ≤ l1 ∧ l1 ≤ 9 ∧ g 36 10 < 40) → g 44 k = g 44 k) ∧ (¬ l1 = -1 ∧ 0 ≤ l1 ∧ l1 ≤ 9 ∧ g 36 10 < 40 → (k = g 36 10 → g 44 k = l1) ∧ (¬ k = g 36 10 → g 44 k = g 44 k)) := by
            intro k hk
            have m_24 : 0 ≤ (g 44 k) ∧ (g 44 k) ≤ 9 := I.1 44 k
            omega
          exact hQ _ _ I (zk_f0 _) ⟨by omega, by omega⟩ (by omega) (by omega) (by omega) z_25
  · intro g9 e_26
    have I_27 : zk_I g9 := by rw [e_26]; exact zk_upd (L := 0) (H := 40) rfl rfl I ⟨by omega, by omega⟩
    have F_28 : zk_fr fr_S_drought g g9 := by rw [e_26]; exact zk_fu (zk_f0 _) (Or.inr ⟨rfl, rfl⟩)
    have m_29 : 0 ≤ (g9 36 10) ∧ (g9 36 10) ≤ 40 := I_27.1 36 10
    have m_30 : g9 36 10 = 0 := by rw [e_26]; exact zi_u_eq
    have z_34 : ∀ k : Int, 0 ≤ k ∧ k < 40 → (¬ (¬ l1 = -1 ∧ 0 ≤ l1 ∧ l1 ≤ 9 ∧ g 36 10 < 40) → g9 44 k = g 44 k) ∧ (¬ l1 = -1 ∧ 0 ≤ l1 ∧ l1 ≤ 9 ∧ g 36 10 < 40 → (k = g 36 10 → g9 44 k = l1) ∧ (¬ k = g 36 10 → g9 44 k = g 44 k)) := by
      intro k hk
      have m_31 : 0 ≤ (g9 44 k) ∧ (g9 44 k) ≤ 9 := I_27.1 44 k
      have m_32 : g9 44 k = g 44 k := by rw [e_26]; exact zi_u_ne (by decide)
      have m_33 : 0 ≤ (g 44 k) ∧ (g 44 k) ≤ 9 := I.1 44 k
      omega
    exact hQ _ _ I_27 F_28 ⟨by omega, by omega⟩ (by omega) (by omega) (by omega) z_34
-- SpoutNewsModel.drought(I)I
noncomputable def fr_M_drought (a : Nat) (i : Int) : Prop := a = 247 ∨ (a = 214 ∧ i = 0) ∨ (a = 214 ∧ i = 56)
set_option maxRecDepth 100000 in
set_option maxHeartbeats 4000000 in
theorem k_M_drought {l1 : Int} {g : zi_M} {Q : Int → zi_M → Prop} (I : zk_I g) (p1 : (-2147483648) ≤ l1 ∧ l1 ≤ 2147483647) (hQ : ∀ (v : Int) (g' : zi_M), zk_I g' → zk_fr fr_M_drought g g' → ((-1) ≤ v ∧ v ≤ 40) → (l1 = -1 → v = 0 ∧ g' 214 56 = 0) → (¬ l1 = -1 → 0 ≤ l1 ∧ l1 ≤ 9 ∧ g 214 56 < 40 → v = g 214 56 + 1 ∧ g' 214 56 = g 214 56 + 1) → (¬ l1 = -1 → ¬ (0 ≤ l1 ∧ l1 ≤ 9 ∧ g 214 56 < 40) → v = -1 ∧ g' 214 56 = g 214 56) → (∀ k : Int, 0 ≤ k ∧ k < 40 → (¬ (¬ l1 = -1 ∧ 0 ≤ l1 ∧ l1 ≤ 9 ∧ g 214 56 < 40) → g' 247 k = g 247 k) ∧ (¬ l1 = -1 ∧ 0 ≤ l1 ∧ l1 ≤ 9 ∧ g 214 56 < 40 → (k = g 214 56 → g' 247 k = l1) ∧ (¬ k = g 214 56 → g' 247 k = g 247 k))) → Q v g') : w_M_drought l1 g Q := by
  unfold w_M_drought
  intro g1 e_1
  have I_2 : zk_I g1 := by rw [e_1]; exact zk_upd (L := (-2147483648)) (H := 2147483647) rfl rfl I ⟨by omega, by omega⟩
  have F_3 : zk_fr fr_M_drought g g1 := by rw [e_1]; exact zk_fu (zk_f0 _) (Or.inr (Or.inl ⟨rfl, rfl⟩))
  refine ⟨⟨by omega, by omega⟩, ?_⟩
  refine ⟨fun c13 => ?_, fun c13 => ?_⟩
  · refine k_M_isIn I_2 ⟨by omega, by omega⟩ ⟨by omega, by omega⟩ ⟨by omega, by omega⟩ (fun v3 b_4 b_5 b_6 => ?_)
    refine ⟨fun c11 => ?_, fun c11 => ?_⟩
    · have m_7 : 0 ≤ (g1 214 56) ∧ (g1 214 56) ≤ 40 := I_2.1 214 56
      have m_8 : g1 214 56 = g 214 56 := by rw [e_1]; exact zi_u_ni (by decide)
      have m_9 : 0 ≤ (g 214 56) ∧ (g 214 56) ≤ 40 := I.1 214 56
      have z_13 : ∀ k : Int, 0 ≤ k ∧ k < 40 → (¬ (¬ l1 = -1 ∧ 0 ≤ l1 ∧ l1 ≤ 9 ∧ g 214 56 < 40) → g1 247 k = g 247 k) ∧ (¬ l1 = -1 ∧ 0 ≤ l1 ∧ l1 ≤ 9 ∧ g 214 56 < 40 → (k = g 214 56 → g1 247 k = l1) ∧ (¬ k = g 214 56 → g1 247 k = g 247 k)) := by
        intro k hk
        have m_10 : 0 ≤ (g1 247 k) ∧ (g1 247 k) ≤ 9 := I_2.1 247 k
        have m_11 : g1 247 k = g 247 k := by rw [e_1]; exact zi_u_ne (by decide)
        have m_12 : 0 ≤ (g 247 k) ∧ (g 247 k) ≤ 9 := I.1 247 k
        omega
      exact hQ _ _ I_2 F_3 ⟨by omega, by omega⟩ (by omega) (by omega) (by omega) z_13
    · have m_14 : 0 ≤ (g1 214 56) ∧ (g1 214 56) ≤ 40 := I_2.1 214 56
      have m_15 : g1 214 56 = g 214 56 := by rw [e_1]; exact zi_u_ni (by decide)
      have m_16 : 0 ≤ (g 214 56) ∧ (g 214 56) ≤ 40 := I.1 214 56
      refine ⟨⟨by omega, by omega⟩, ?_⟩
      refine ⟨fun c10 => ?_, fun c10 => ?_⟩
      · refine ⟨⟨by omega, by omega⟩, ?_⟩
        intro g8 e_17
        have I_18 : zk_I g8 := by rw [e_17]; exact zk_upd (L := 0) (H := 9) rfl rfl I_2 ⟨by omega, by omega⟩
        have F_19 : zk_fr fr_M_drought g g8 := by rw [e_17]; exact zk_fu F_3 (Or.inl rfl)
        have m_23 : 0 ≤ (g8 214 56) ∧ (g8 214 56) ≤ 40 := I_18.1 214 56
        have m_24 : g8 214 56 = g1 214 56 := by rw [e_17]; exact zi_u_ne (by decide)
        intro g9 e_20
        have I_21 : zk_I g9 := by rw [e_20]; exact zk_upd (L := 0) (H := 40) rfl rfl I_18 ⟨by omega, by omega⟩
        have F_22 : zk_fr fr_M_drought g g9 := by rw [e_20]; exact zk_fu F_19 (Or.inr (Or.inr ⟨rfl, rfl⟩))
        have m_25 : 0 ≤ (g9 214 56) ∧ (g9 214 56) ≤ 40 := I_21.1 214 56
        have m_26 : g9 214 56 = (g8 214 56) + 1 := by rw [e_20]; exact zi_u_eq
        have z_34 : ∀ k : Int, 0 ≤ k ∧ k < 40 → (¬ (¬ l1 = -1 ∧ 0 ≤ l1 ∧ l1 ≤ 9 ∧ g 214 56 < 40) → g9 247 k = g 247 k) ∧ (¬ l1 = -1 ∧ 0 ≤ l1 ∧ l1 ≤ 9 ∧ g 214 56 < 40 → (k = g 214 56 → g9 247 k = l1) ∧ (¬ k = g 214 56 → g9 247 k = g 247 k)) := by
          intro k hk
          have m_27 : 0 ≤ (g9 247 k) ∧ (g9 247 k) ≤ 9 := I_21.1 247 k
          have m_28 : g9 247 k = g8 247 k := by rw [e_20]; exact zi_u_ne (by decide)
          have m_29 : 0 ≤ (g8 247 k) ∧ (g8 247 k) ≤ 9 := I_18.1 247 k
          have m_30 : 0 ≤ (g1 247 k) ∧ (g1 247 k) ≤ 9 := I_2.1 247 k
          have m_31 : g1 247 k = g 247 k := by rw [e_1]; exact zi_u_ne (by decide)
          have m_32 : 0 ≤ (g 247 k) ∧ (g 247 k) ≤ 9 := I.1 247 k
          have m_33 : (k = g1 214 56 → g8 247 k = l1) ∧ (¬ k = g1 214 56 → g8 247 k = g1 247 k) := by rw [e_17]; exact zi_u_if
          omega
        exact hQ _ _ I_21 F_22 ⟨by omega, by omega⟩ (by omega) (by omega) (by omega) z_34
      · have z_38 : ∀ k : Int, 0 ≤ k ∧ k < 40 → (¬ (¬ l1 = -1 ∧ 0 ≤ l1 ∧ l1 ≤ 9 ∧ g 214 56 < 40) → g1 247 k = g 247 k) ∧ (¬ l1 = -1 ∧ 0 ≤ l1 ∧ l1 ≤ 9 ∧ g 214 56 < 40 → (k = g 214 56 → g1 247 k = l1) ∧ (¬ k = g 214 56 → g1 247 k = g 247 k)) := by
          intro k hk
          have m_35 : 0 ≤ (g1 247 k) ∧ (g1 247 k) ≤ 9 := I_2.1 247 k
          have m_36 : g1 247 k = g 247 k := by rw [e_1]; exact zi_u_ne (by decide)
          have m_37 : 0 ≤ (g 247 k) ∧ (g 247 k) ≤ 9 := I.1 247 k
          omega
        exact hQ _ _ I_2 F_3 ⟨by omega, by omega⟩ (by omega) (by omega) (by omega) z_38
  · intro g12 e_39
    have I_40 : zk_I g12 := by rw [e_39]; exact zk_upd (L := 0) (H := 40) rfl rfl I_2 ⟨by omega, by omega⟩
    have F_41 : zk_fr fr_M_drought g g12 := by rw [e_39]; exact zk_fu F_3 (Or.inr (Or.inr ⟨rfl, rfl⟩))
    have m_42 : 0 ≤ (g12 214 56) ∧ (g12 214 56) ≤ 40 := I_40.1 214 56
    have m_43 : g12 214 56 = 0 := by rw [e_39]; exact zi_u_eq
    have z_49 : ∀ k : Int, 0 ≤ k ∧ k < 40 → (¬ (¬ l1 = -1 ∧ 0 ≤ l1 ∧ l1 ≤ 9 ∧ g 214 56 < 40) → g12 247 k = g 247 k) ∧ (¬ l1 = -1 ∧ 0 ≤ l1 ∧ l1 ≤ 9 ∧ g 214 56 < 40 → (k = g 214 56 → g12 247 k = l1) ∧ (¬ k = g 214 56 → g12 247 k = g 247 k)) := by
      intro k hk
      have m_44 : 0 ≤ (g12 247 k) ∧ (g12 247 k) ≤ 9 := I_40.1 247 k
      have m_45 : g12 247 k = g1 247 k := by rw [e_39]; exact zi_u_ne (by decide)
      have m_46 : 0 ≤ (g1 247 k) ∧ (g1 247 k) ≤ 9 := I_2.1 247 k
      have m_47 : g1 247 k = g 247 k := by rw [e_1]; exact zi_u_ne (by decide)
      have m_48 : 0 ≤ (g 247 k) ∧ (g 247 k) ≤ 9 := I.1 247 k
      omega
    exact hQ _ _ I_40 F_41 ⟨by omega, by omega⟩ (by omega) (by omega) (by omega) z_49
-- SpoutNews$Told.longestRunBegins()I
set_option maxRecDepth 100000 in
set_option maxHeartbeats 4000000 in
theorem k_Told_longestRunBegins_b35 {l1 : Int} {l2 : Int} {l4 : Int} {s0 : Int} {H : Int → Int → Int → Int → zi_M → Prop} {K56 : Int → zi_M → Prop} {Q : Int → zi_M → Prop} {g : zi_M} (I : zk_I g) (p1 : 0 ≤ l1 ∧ l1 ≤ 40) (p2 : (-1) ≤ l2 ∧ l2 ≤ 39) (p4 : 0 ≤ l4 ∧ l4 ≤ 39) (ix0 : 0 ≤ s0 ∧ s0 ≤ l4 + 1) (ix1 : l1 ≤ l4) (ix2 : l4 < g 36 10) (ix3 : l1 = zmost (g 44) l4.toNat) (ix4 : l2 = zbeg (g 44) l4.toNat) (ix5 : s0 = zrun (g 44) (l4 + 1).toNat) (ps0 : 0 ≤ s0 ∧ s0 ≤ 41) (M : Int) (hM : 40 - l4 ≤ M) (hH : ∀ (m1 : Int) (m2 : Int) (m3 : Int) (m4 : Int), (0 ≤ m1 ∧ m1 ≤ 40) → ((-1) ≤ m2 ∧ m2 ≤ 39) → (0 ≤ m3 ∧ m3 ≤ 40) → (0 ≤ m4 ∧ m4 ≤ 40) → (m3 ≤ m4) → (m1 ≤ m4) → (m4 ≤ g 36 10) → (m1 = zmost (g 44) m4.toNat) → (m2 = zbeg (g 44) m4.toNat) → (m3 = zrun (g 44) m4.toNat) → 40 - m4 < M → H m1 m2 m3 m4 g) (hK56 : ∀ (k2 : Int), ((-1) ≤ k2 ∧ k2 ≤ 39) → (k2 = zbeg (g 44) (g 36 10).toNat) → K56 k2 g) (hQ : ∀ v : Int, ((-1) ≤ v ∧ v ≤ 39) → (v = zbeg (g 44) (g 36 10).toNat) → Q v g) : w_Told_longestRunBegins_b35 l1 l2 l4 s0 g H K56 Q := by
  unfold w_Told_longestRunBegins_b35
  refine ⟨⟨by omega, by omega⟩, ⟨by omega, by omega⟩, ?_⟩
  refine ⟨fun c7 => ?_, fun c7 => ?_⟩
  · have m_3 : 0 ≤ (g 36 10) ∧ (g 36 10) ≤ 40 := I.1 36 10
    exact hH _ _ _ _ ⟨by omega, by omega⟩ ⟨by omega, by omega⟩ ⟨by omega, by omega⟩ ⟨by omega, by omega⟩ (by omega) (by omega) (by omega) (by first | rfl | assumption | exact zmost_s (by omega) (by assumption) (by assumption) (by omega) | exact zmost_u (by omega) (by assumption) (by assumption) (by omega)) (by first | rfl | assumption | exact zbeg_s (by omega) (by assumption) (by assumption) (by assumption) (by omega) | exact zbeg_u (by omega) (by assumption) (by assumption) (by omega)) (by first | rfl | assumption) (by omega)
  · have m_4 : 0 ≤ (g 36 10) ∧ (g 36 10) ≤ 40 := I.1 36 10
    exact hH _ _ _ _ ⟨by omega, by omega⟩ ⟨by omega, by omega⟩ ⟨by omega, by omega⟩ ⟨by omega, by omega⟩ (by omega) (by omega) (by omega) (by first | rfl | assumption | exact zmost_s (by omega) (by assumption) (by assumption) (by omega) | exact zmost_u (by omega) (by assumption) (by assumption) (by omega)) (by first | rfl | assumption | exact zbeg_s (by omega) (by assumption) (by assumption) (by assumption) (by omega) | exact zbeg_u (by omega) (by assumption) (by assumption) (by omega)) (by first | rfl | assumption) (by omega)
set_option maxRecDepth 100000 in
set_option maxHeartbeats 4000000 in
theorem k_Told_longestRunBegins_l9 {g : zi_M} (I : zk_I g) {K56 : Int → zi_M → Prop} {Q : Int → zi_M → Prop} (hK56 : ∀ (k2 : Int), ((-1) ≤ k2 ∧ k2 ≤ 39) → (k2 = zbeg (g 44) (g 36 10).toNat) → K56 k2 g) (hQ : ∀ v : Int, ((-1) ≤ v ∧ v ≤ 39) → (v = zbeg (g 44) (g 36 10).toNat) → Q v g) : ∀ (n : Nat) {l1 : Int} {l2 : Int} {l3 : Int} {l4 : Int}, (0 ≤ l1 ∧ l1 ≤ 40) → ((-1) ≤ l2 ∧ l2 ≤ 39) → (0 ≤ l3 ∧ l3 ≤ 40) → (0 ≤ l4 ∧ l4 ≤ 40) → (l3 ≤ l4) → (l1 ≤ l4) → (l4 ≤ g 36 10) → (l1 = zmost (g 44) l4.toNat) → (l2 = zbeg (g 44) l4.toNat) → (l3 = zrun (g 44) l4.toNat) → 40 - l4 < (n : Int) → w_Told_longestRunBegins_l9 K56 Q n l1 l2 l3 l4 g
  | 0, l1, l2, l3, l4, b0, b1, b2, b3, b4, b5, b6, b7, b8, b9, hm => by exfalso; omega
  | n + 1, l1, l2, l3, l4, b0, b1, b2, b3, b4, b5, b6, b7, b8, b9, hm => by
    unfold w_Told_longestRunBegins_l9
    have m_1 : 0 ≤ (g 36 10) ∧ (g 36 10) ≤ 40 := I.1 36 10
    refine ⟨⟨by omega, by omega⟩, ⟨by omega, by omega⟩, ?_⟩
    refine ⟨fun c9 => ?_, fun c9 => ?_⟩
    · exact hK56 _ ⟨by omega, by omega⟩ (by rw [show g 36 10 = l4 by omega]; assumption)
    · refine ⟨⟨by omega, by omega⟩, ?_⟩
      have m_2 : 0 ≤ (g 44 l4) ∧ (g 44 l4) ≤ 9 := I.1 44 l4
      refine ⟨⟨by omega, by omega⟩, ?_⟩
      refine ⟨fun c8 => ?_, fun c8 => ?_⟩
      · exact k_Told_longestRunBegins_b35 I ⟨by omega, by omega⟩ ⟨by omega, by omega⟩ ⟨by omega, by omega⟩ (by omega) (by omega) (by omega) (by assumption) (by assumption) (by first | exact zrun_z (by omega) (by assumption) (by omega) | exact zrun_n (by omega) (by omega)) ⟨by omega, by omega⟩ (n : Int) (by omega) (fun _ _ _ _ b0 b1 b2 b3 b4 b5 b6 b7 b8 b9 hm => k_Told_longestRunBegins_l9 I hK56 hQ n b0 b1 b2 b3 b4 b5 b6 b7 b8 b9 hm) hK56 hQ
      · exact k_Told_longestRunBegins_b35 I ⟨by omega, by omega⟩ ⟨by omega, by omega⟩ ⟨by omega, by omega⟩ (by omega) (by omega) (by omega) (by assumption) (by assumption) (by first | exact zrun_z (by omega) (by assumption) (by omega) | exact zrun_n (by omega) (by omega)) ⟨by omega, by omega⟩ (n : Int) (by omega) (fun _ _ _ _ b0 b1 b2 b3 b4 b5 b6 b7 b8 b9 hm => k_Told_longestRunBegins_l9 I hK56 hQ n b0 b1 b2 b3 b4 b5 b6 b7 b8 b9 hm) hK56 hQ
set_option maxRecDepth 100000 in
set_option maxHeartbeats 4000000 in
theorem k_Told_longestRunBegins {g : zi_M} {Q : Int → zi_M → Prop} (I : zk_I g) (hQ : ∀ v : Int, ((-1) ≤ v ∧ v ≤ 39) → (v = zbeg (g 44) (g 36 10).toNat) → Q v g) : w_Told_longestRunBegins g Q := by
  unfold w_Told_longestRunBegins
  have m_7 : 0 ≤ (g 36 10) ∧ (g 36 10) ≤ 40 := I.1 36 10
  refine ⟨((40 - 0 : Int).toNat + 1), k_Told_longestRunBegins_l9 I (fun k10 b_5 b_6 => ?_) hQ ((40 - 0 : Int).toNat + 1) ⟨by omega, by omega⟩ ⟨by omega, by omega⟩ ⟨by omega, by omega⟩ ⟨by omega, by omega⟩ (by omega) (by omega) (by omega) (by first | rfl | assumption | exact zmost_s (by omega) (by assumption) (by assumption) (by omega) | exact zmost_u (by omega) (by assumption) (by assumption) (by omega)) (by first | rfl | assumption | exact zbeg_s (by omega) (by assumption) (by assumption) (by assumption) (by omega) | exact zbeg_u (by omega) (by assumption) (by assumption) (by omega)) (by first | rfl | assumption) (by omega)⟩
  exact hQ _ ⟨by omega, by omega⟩ (by assumption)
-- SpoutNews$Told.longestRun()I
set_option maxRecDepth 100000 in
set_option maxHeartbeats 4000000 in
theorem k_Told_longestRun_l9 {g : zi_M} (I : zk_I g) {K39 : Int → zi_M → Prop} {Q : Int → zi_M → Prop} (hK39 : ∀ (k2 : Int), (0 ≤ k2 ∧ k2 ≤ 41) → (k2 = zmost (g 44) (g 36 10).toNat) → K39 k2 g) (hQ : ∀ v : Int, (0 ≤ v ∧ v ≤ 41) → (v = zmost (g 44) (g 36 10).toNat) → Q v g) : ∀ (n : Nat) {l2 : Int} {l3 : Int}, (0 ≤ l2 ∧ l2 ≤ 41) → ((-1) ≤ l3 ∧ l3 ≤ 40) → (l2 ≤ l3 + 1) → (zbeg (g 44) (g 36 10).toNat = -1 → l3 = -1 ∧ l2 = 0) → (0 ≤ zbeg (g 44) (g 36 10).toNat → l3 = zbeg (g 44) (g 36 10).toNat + l2) → (0 ≤ zbeg (g 44) (g 36 10).toNat → l2 ≤ zmost (g 44) (g 36 10).toNat) → 41 - l2 < (n : Int) → w_Told_longestRun_l9 K39 Q n l2 l3 g
  | 0, l2, l3, b0, b1, b2, b3, b4, b5, hm => by exfalso; omega
  | n + 1, l2, l3, b0, b1, b2, b3, b4, b5, hm => by
    unfold w_Told_longestRun_l9
    refine ⟨⟨by omega, by omega⟩, ?_⟩
    refine ⟨fun c10 => ?_, fun c10 => ?_⟩
    · have m_4 : 0 ≤ (g 36 10) ∧ (g 36 10) ≤ 40 := I.1 36 10
      exact hK39 _ ⟨by omega, by omega⟩ (by exact zlr_end rfl (by assumption) (by assumption) (by assumption) (by omega) (by omega))
    · have m_5 : 0 ≤ (g 36 10) ∧ (g 36 10) ≤ 40 := I.1 36 10
      refine ⟨⟨by omega, by omega⟩, ?_⟩
      refine ⟨fun c9 => ?_, fun c9 => ?_⟩
      · exact hK39 _ ⟨by omega, by omega⟩ (by exact zlr_end rfl (by assumption) (by assumption) (by assumption) (by omega) (by omega))
      · refine ⟨⟨by omega, by omega⟩, ?_⟩
        have m_6 : 0 ≤ (g 44 l3) ∧ (g 44 l3) ≤ 9 := I.1 44 l3
        refine ⟨⟨by omega, by omega⟩, ?_⟩
        refine ⟨fun c8 => ?_, fun c8 => ?_⟩
        · exact hK39 _ ⟨by omega, by omega⟩ (by exact zlr_end rfl (by assumption) (by assumption) (by assumption) (by omega) (by omega))
        · exact k_Told_longestRun_l9 I hK39 hQ n ⟨by omega, by omega⟩ ⟨by omega, by omega⟩ (by omega) (by omega) (by omega) (by intro hv; first | exact zmost_0 | exact zlr_step (i := l3) rfl hv (by omega) (by omega) (by omega) (by omega)) (by omega)
set_option maxRecDepth 100000 in
set_option maxHeartbeats 4000000 in
theorem k_Told_longestRun {g : zi_M} {Q : Int → zi_M → Prop} (I : zk_I g) (hQ : ∀ v : Int, (0 ≤ v ∧ v ≤ 41) → (v = zmost (g 44) (g 36 10).toNat) → Q v g) : w_Told_longestRun g Q := by
  unfold w_Told_longestRun
  have m_1 : 0 ≤ (g 36 10) ∧ (g 36 10) ≤ 40 := I.1 36 10
  refine k_Told_longestRunBegins I (fun v1 b_2 b_3 => ?_)
  refine ⟨((41 - 0 : Int).toNat + 1), k_Told_longestRun_l9 I (fun k11 b_7 b_8 => ?_) hQ ((41 - 0 : Int).toNat + 1) ⟨by omega, by omega⟩ ⟨by omega, by omega⟩ (by omega) (by omega) (by omega) (by intro hv; first | exact zmost_0 | exact zlr_step (i := l3) rfl hv (by omega) (by omega) (by omega) (by omega)) (by omega)⟩
  exact hQ _ ⟨by omega, by omega⟩ (by assumption)
-- SpoutNews.longest(I)I
set_option maxRecDepth 100000 in
set_option maxHeartbeats 4000000 in
theorem k_S_longest {l1 : Int} {g : zi_M} {Q : Int → zi_M → Prop} (I : zk_I g) (p1 : (-2147483648) ≤ l1 ∧ l1 ≤ 2147483647) (hQ : ∀ v : Int, ((-1) ≤ v ∧ v ≤ 41) → (l1 = 0 → v = zmost (g 44) (g 36 10).toNat) → (l1 = 1 → v = zbeg (g 44) (g 36 10).toNat) → (¬ l1 = 0 → ¬ l1 = 1 → v = -1) → Q v g) : w_S_longest l1 g Q := by
  unfold w_S_longest
  refine ⟨⟨by omega, by omega⟩, ?_⟩
  refine ⟨fun c2_0 c2_1 => ?_, fun c2 => ?_, fun c2 => ?_⟩
  · exact hQ _ ⟨by omega, by omega⟩ (by intro hv; first | assumption | (exfalso; omega)) (by intro hv; first | assumption | (exfalso; omega)) (by omega)
  · have m_1 : 0 ≤ (g 36 10) ∧ (g 36 10) ≤ 40 := I.1 36 10
    refine k_Told_longestRun I (fun v3 b_2 b_3 => ?_)
    exact hQ _ ⟨by omega, by omega⟩ (by intro hv; first | assumption | (exfalso; omega)) (by intro hv; first | assumption | (exfalso; omega)) (by omega)
  · have m_4 : 0 ≤ (g 36 10) ∧ (g 36 10) ≤ 40 := I.1 36 10
    refine k_Told_longestRunBegins I (fun v6 b_5 b_6 => ?_)
    exact hQ _ ⟨by omega, by omega⟩ (by intro hv; first | assumption | (exfalso; omega)) (by intro hv; first | assumption | (exfalso; omega)) (by omega)
-- SpoutNewsModel.longest(I)I
noncomputable def fr_M_longest (a : Nat) (i : Int) : Prop := (a = 214 ∧ i = 0)
set_option maxRecDepth 100000 in
set_option maxHeartbeats 4000000 in
theorem k_M_longest_b53 {l1 : Int} {l3 : Int} {l4 : Int} {l5 : Int} {s0 : Int} {H : Int → Int → Int → Int → zi_M → Prop} {K78 : Int → Int → zi_M → Prop} {Q : Int → zi_M → Prop} {g : zi_M} {g0 : zi_M} (I : zk_I g) (F : zk_fr fr_M_longest g0 g) (p3 : 0 ≤ l3 ∧ l3 ≤ 40) (p4 : (-1) ≤ l4 ∧ l4 ≤ 39) (p5 : 0 ≤ l5 ∧ l5 ≤ 39) (ix0 : 0 ≤ s0 ∧ s0 ≤ l5 + 1) (ix1 : l3 ≤ l5) (ix2 : l5 < g0 214 56) (ix3 : l3 = zmost (g0 247) l5.toNat) (ix4 : l4 = zbeg (g0 247) l5.toNat) (ix5 : s0 = zrun (g0 247) (l5 + 1).toNat) (ps0 : 0 ≤ s0 ∧ s0 ≤ 41) (M : Int) (hM : 40 - l5 ≤ M) (hH : ∀ (m2 : Int) (m3 : Int) (m4 : Int) (m5 : Int) (g : zi_M), zk_I g → zk_fr fr_M_longest g0 g → (0 ≤ m2 ∧ m2 ≤ 40) → (0 ≤ m3 ∧ m3 ≤ 40) → ((-1) ≤ m4 ∧ m4 ≤ 39) → (0 ≤ m5 ∧ m5 ≤ 40) → (m2 ≤ m5) → (m3 ≤ m5) → (m5 ≤ g0 214 56) → (m3 = zmost (g0 247) m5.toNat) → (m4 = zbeg (g0 247) m5.toNat) → (m2 = zrun (g0 247) m5.toNat) → 40 - m5 < M → H m2 m3 m4 m5 g) (hK78 : ∀ (k3 : Int) (k4 : Int) (g : zi_M), zk_I g → zk_fr fr_M_longest g0 g → (0 ≤ k3 ∧ k3 ≤ 40) → ((-1) ≤ k4 ∧ k4 ≤ 39) → (k3 = zmost (g0 247) (g0 214 56).toNat) → (k4 = zbeg (g0 247) (g0 214 56).toNat) → K78 k3 k4 g) (hQ : ∀ (v : Int) (g' : zi_M), zk_I g' → zk_fr fr_M_longest g0 g' → ((-1) ≤ v ∧ v ≤ 40) → (l1 = 0 → v = zmost (g0 247) (g0 214 56).toNat) → (l1 = 1 → v = zbeg (g0 247) (g0 214 56).toNat) → (¬ l1 = 0 → ¬ l1 = 1 → v = -1) → Q v g') : w_M_longest_b53 l3 l4 l5 s0 g H K78 Q := by
  unfold w_M_longest_b53
  refine ⟨⟨by omega, by omega⟩, ⟨by omega, by omega⟩, ?_⟩
  refine ⟨fun c11 => ?_, fun c11 => ?_⟩
  · exact hH _ _ _ _ _ I F ⟨by omega, by omega⟩ ⟨by omega, by omega⟩ ⟨by omega, by omega⟩ ⟨by omega, by omega⟩ (by omega) (by omega) (by first | omega | (have hi : 0 ≤ g 214 56 ∧ g 214 56 ≤ 40 := I.1 214 56; omega)) (by first | rfl | assumption | exact zmost_s (by omega) (by assumption) (by assumption) (by omega) | exact zmost_u (by omega) (by assumption) (by assumption) (by omega)) (by first | rfl | assumption | exact zbeg_s (by omega) (by assumption) (by assumption) (by assumption) (by omega) | exact zbeg_u (by omega) (by assumption) (by assumption) (by omega)) (by first | rfl | assumption) (by omega)
  · exact hH _ _ _ _ _ I F ⟨by omega, by omega⟩ ⟨by omega, by omega⟩ ⟨by omega, by omega⟩ ⟨by omega, by omega⟩ (by omega) (by omega) (by first | omega | (have hi : 0 ≤ g 214 56 ∧ g 214 56 ≤ 40 := I.1 214 56; omega)) (by first | rfl | assumption | exact zmost_s (by omega) (by assumption) (by assumption) (by omega) | exact zmost_u (by omega) (by assumption) (by assumption) (by omega)) (by first | rfl | assumption | exact zbeg_s (by omega) (by assumption) (by assumption) (by assumption) (by omega) | exact zbeg_u (by omega) (by assumption) (by assumption) (by omega)) (by first | rfl | assumption) (by omega)
set_option maxRecDepth 100000 in
set_option maxHeartbeats 4000000 in
theorem k_M_longest_l27 {l1 : Int} {K78 : Int → Int → zi_M → Prop} {Q : Int → zi_M → Prop} {g0 : zi_M} (hK78 : ∀ (k3 : Int) (k4 : Int) (g : zi_M), zk_I g → zk_fr fr_M_longest g0 g → (0 ≤ k3 ∧ k3 ≤ 40) → ((-1) ≤ k4 ∧ k4 ≤ 39) → (k3 = zmost (g0 247) (g0 214 56).toNat) → (k4 = zbeg (g0 247) (g0 214 56).toNat) → K78 k3 k4 g) (hQ : ∀ (v : Int) (g' : zi_M), zk_I g' → zk_fr fr_M_longest g0 g' → ((-1) ≤ v ∧ v ≤ 40) → (l1 = 0 → v = zmost (g0 247) (g0 214 56).toNat) → (l1 = 1 → v = zbeg (g0 247) (g0 214 56).toNat) → (¬ l1 = 0 → ¬ l1 = 1 → v = -1) → Q v g') : ∀ (n : Nat) {l2 : Int} {l3 : Int} {l4 : Int} {l5 : Int} {g : zi_M}, zk_I g → zk_fr fr_M_longest g0 g → (0 ≤ l2 ∧ l2 ≤ 40) → (0 ≤ l3 ∧ l3 ≤ 40) → ((-1) ≤ l4 ∧ l4 ≤ 39) → (0 ≤ l5 ∧ l5 ≤ 40) → (l2 ≤ l5) → (l3 ≤ l5) → (l5 ≤ g0 214 56) → (l3 = zmost (g0 247) l5.toNat) → (l4 = zbeg (g0 247) l5.toNat) → (l2 = zrun (g0 247) l5.toNat) → 40 - l5 < (n : Int) → w_M_longest_l27 K78 Q n l2 l3 l4 l5 g
  | 0, l2, l3, l4, l5, g, I, F, b0, b1, b2, b3, b4, b5, b6, b7, b8, b9, hm => by exfalso; omega
  | n + 1, l2, l3, l4, l5, g, I, F, b0, b1, b2, b3, b4, b5, b6, b7, b8, b9, hm => by
    unfold w_M_longest_l27
    have m_7 : 0 ≤ (g 214 56) ∧ (g 214 56) ≤ 40 := I.1 214 56
    refine ⟨⟨by omega, by omega⟩, ⟨by omega, by omega⟩, ?_⟩
    refine ⟨fun c13 => ?_, fun c13 => ?_⟩
    · exact hK78 _ _ _ I F ⟨by omega, by omega⟩ ⟨by omega, by omega⟩ (by have hf := F 214 56 (by unfold fr_M_longest; omega); rw [show g0 214 56 = l5 by omega]; assumption) (by have hf := F 214 56 (by unfold fr_M_longest; omega); rw [show g0 214 56 = l5 by omega]; assumption)
    · refine ⟨⟨by omega, by omega⟩, ?_⟩
      have m_8 : 0 ≤ (g 247 l5) ∧ (g 247 l5) ≤ 9 := I.1 247 l5
      refine ⟨⟨by omega, by omega⟩, ?_⟩
      refine ⟨fun c12 => ?_, fun c12 => ?_⟩
      · exact k_M_longest_b53 I F ⟨by omega, by omega⟩ ⟨by omega, by omega⟩ ⟨by omega, by omega⟩ (by omega) (by omega) (by have hf := F 214 56 (by unfold fr_M_longest; omega); omega) (by assumption) (by assumption) (by first | exact zrun_z (by omega) (by assumption) (by have hf := F 247 l5 (by unfold fr_M_longest; omega); omega) | exact zrun_n (by omega) (by have hf := F 247 l5 (by unfold fr_M_longest; omega); omega)) ⟨by omega, by omega⟩ (n : Int) (by omega) (fun _ _ _ _ _ I F b0 b1 b2 b3 b4 b5 b6 b7 b8 b9 hm => k_M_longest_l27 hK78 hQ n I F b0 b1 b2 b3 b4 b5 b6 b7 b8 b9 hm) hK78 hQ
      · exact k_M_longest_b53 I F ⟨by omega, by omega⟩ ⟨by omega, by omega⟩ ⟨by omega, by omega⟩ (by omega) (by omega) (by have hf := F 214 56 (by unfold fr_M_longest; omega); omega) (by assumption) (by assumption) (by first | exact zrun_z (by omega) (by assumption) (by have hf := F 247 l5 (by unfold fr_M_longest; omega); omega) | exact zrun_n (by omega) (by have hf := F 247 l5 (by unfold fr_M_longest; omega); omega)) ⟨by omega, by omega⟩ (n : Int) (by omega) (fun _ _ _ _ _ I F b0 b1 b2 b3 b4 b5 b6 b7 b8 b9 hm => k_M_longest_l27 hK78 hQ n I F b0 b1 b2 b3 b4 b5 b6 b7 b8 b9 hm) hK78 hQ
set_option maxRecDepth 100000 in
set_option maxHeartbeats 4000000 in
theorem k_M_longest {l1 : Int} {g : zi_M} {Q : Int → zi_M → Prop} (I : zk_I g) (p1 : (-2147483648) ≤ l1 ∧ l1 ≤ 2147483647) (hQ : ∀ (v : Int) (g' : zi_M), zk_I g' → zk_fr fr_M_longest g g' → ((-1) ≤ v ∧ v ≤ 40) → (l1 = 0 → v = zmost (g 247) (g 214 56).toNat) → (l1 = 1 → v = zbeg (g 247) (g 214 56).toNat) → (¬ l1 = 0 → ¬ l1 = 1 → v = -1) → Q v g') : w_M_longest l1 g Q := by
  unfold w_M_longest
  intro g1 e_1
  have I_2 : zk_I g1 := by rw [e_1]; exact zk_upd (L := (-2147483648)) (H := 2147483647) rfl rfl I ⟨by omega, by omega⟩
  have F_3 : zk_fr fr_M_longest g g1 := by rw [e_1]; exact zk_fu (zk_f0 _) ⟨rfl, rfl⟩
  refine k_M_isIn I_2 ⟨by omega, by omega⟩ ⟨by omega, by omega⟩ ⟨by omega, by omega⟩ (fun v2 b_4 b_5 b_6 => ?_)
  refine ⟨fun c20 => ?_, fun c20 => ?_⟩
  · refine ⟨((40 - 0 : Int).toNat + 1), k_M_longest_l27 (fun k14 k15 g16 I_9 F_10 b_11 b_12 b_13 b_14 => ?_) hQ ((40 - 0 : Int).toNat + 1) I_2 F_3 ⟨by omega, by omega⟩ ⟨by omega, by omega⟩ ⟨by omega, by omega⟩ ⟨by omega, by omega⟩ (by omega) (by omega) (by first | omega | (have hi : 0 ≤ g 214 56 ∧ g 214 56 ≤ 40 := I.1 214 56; omega)) (by first | rfl | assumption | exact zmost_s (by omega) (by assumption) (by assumption) (by omega) | exact zmost_u (by omega) (by assumption) (by assumption) (by omega)) (by first | rfl | assumption | exact zbeg_s (by omega) (by assumption) (by assumption) (by assumption) (by omega) | exact zbeg_u (by omega) (by assumption) (by assumption) (by omega)) (by first | rfl | assumption) (by omega)⟩
    refine ⟨⟨by omega, by omega⟩, ?_⟩
    refine ⟨fun c18 => ?_, fun c18 => ?_⟩
    · exact hQ _ _ I_9 F_10 ⟨by omega, by omega⟩ (by intro hv; first | assumption | (exfalso; omega)) (by intro hv; first | assumption | (exfalso; omega)) (by omega)
    · exact hQ _ _ I_9 F_10 ⟨by omega, by omega⟩ (by intro hv; first | assumption | (exfalso; omega)) (by intro hv; first | assumption | (exfalso; omega)) (by omega)
  · exact hQ _ _ I_2 F_3 ⟨by omega, by omega⟩ (by intro hv; first | assumption | (exfalso; omega)) (by intro hv; first | assumption | (exfalso; omega)) (by omega)
