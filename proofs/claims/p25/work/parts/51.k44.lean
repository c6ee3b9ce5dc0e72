-- by program (wip/gen/mkz.py)
-- SpoutNews$Thought.leastSum(I)I
set_option maxRecDepth 100000 in
set_option maxHeartbeats 4000000 in
theorem k_Thought_leastSum {l1 : Int} {g : zi_M} {Q : Int → zi_M → Prop} (I : zk_I g) (p1 : 1 ≤ l1 ∧ l1 ≤ 6) (hQ : ∀ v : Int, (0 ≤ v ∧ v ≤ 720) → (v = g 189 (l1 * 13)) → Q v g) : w_Thought_leastSum l1 g Q := by
  unfold w_Thought_leastSum
  refine k_Thought_storm I ⟨by omega, by omega⟩ (by omega) (fun v1 b_1 => ?_)
  refine ⟨⟨by omega, by omega⟩, ?_⟩
  have m_2 : 0 ≤ (g 189 v1) ∧ (g 189 v1) ≤ 720 := I.1 189 v1
  exact hQ _ ⟨by omega, by omega⟩ (by exact zeq_at (by omega))
-- SpoutNews$Thought.secondStorm(LSpoutNews$Told;I)I
set_option maxRecDepth 100000 in
set_option maxHeartbeats 4000000 in
theorem k_Thought_secondStorm_l2 {g : zi_M} (I : zk_I g) {l2 : Int} {K35 : Int → zi_M → Prop} {K43 : zi_M → Prop} {Q : Int → zi_M → Prop} (q2 : 1 ≤ l2 ∧ l2 ≤ 6) (hK35 : ∀ (k3 : Int), (1 ≤ k3 ∧ k3 ≤ 11) → (2 ≤ l2) → (k3 ≤ g 36 12 - l2 + 1) → (zSe g l2 k3) → (∀ j : Int, 1 ≤ j → j < k3 → ¬ zSe g l2 j) → K35 k3 g) (hK43 : (l2 < 2 ∨ ∀ j : Int, 1 ≤ j → j ≤ g 36 12 - l2 + 1 → ¬ zSe g l2 j) → K43 g) (hQ : ∀ v : Int, ((-1) ≤ v ∧ v ≤ 11) → (¬ v = -1 → (2 ≤ l2 ∧ 1 ≤ v ∧ v ≤ g 36 12 - l2 + 1) ∧ zSe g l2 v ∧ ∀ j : Int, 1 ≤ j → j < v → ¬ zSe g l2 j) → (v = -1 → l2 < 2 ∨ ∀ j : Int, 1 ≤ j → j ≤ g 36 12 - l2 + 1 → ¬ zSe g l2 j) → Q v g) : ∀ (n : Nat) {l3 : Int}, (1 ≤ l3 ∧ l3 ≤ 12) → (∀ j : Int, 1 ≤ j → j < l3 → ¬ zSe g l2 j) → 12 - l3 < (n : Int) → w_Thought_secondStorm_l2 l2 K35 K43 Q n l3 g
  | 0, l3, b0, b1, hm => by exfalso; omega
  | n + 1, l3, b0, b1, hm => by
    unfold w_Thought_secondStorm_l2
    refine ⟨⟨by omega, by omega⟩, ?_⟩
    refine ⟨fun c14 => ?_, fun c14 => ?_⟩
    · have m_1 : 0 ≤ (g 36 12) ∧ (g 36 12) ≤ 12 := I.1 36 12
      exact hK43 (by first | exact Or.inl (by omega) | exact Or.inr (zSe_e (by assumption) (by omega)))
    · have m_2 : 0 ≤ (g 36 12) ∧ (g 36 12) ≤ 12 := I.1 36 12
      refine ⟨⟨by omega, by omega⟩, ⟨by omega, by omega⟩, ?_⟩
      refine ⟨fun c13 => ?_, fun c13 => ?_⟩
      · exact hK43 (by first | exact Or.inl (by omega) | exact Or.inr (zSe_e (by assumption) (by omega)))
      · refine k_Thought_greatestSum I ⟨by omega, by omega⟩ ⟨by omega, by omega⟩ ⟨by omega, by omega⟩ (fun v4 b_3 b_4 => ?_)
        have m_5 : 0 ≤ (g 189 (l2 * 13)) ∧ (g 189 (l2 * 13)) ≤ 720 := I.1 189 (l2 * 13)
        refine k_Thought_leastSum I ⟨by omega, by omega⟩ (fun v7 b_6 b_7 => ?_)
        refine ⟨⟨by omega, by omega⟩, ⟨by omega, by omega⟩, ?_⟩
        refine ⟨fun c12 => ?_, fun c12 => ?_⟩
        · exact k_Thought_secondStorm_l2 I q2 hK35 hK43 hQ n ⟨by omega, by omega⟩ (by first | (intro j j1 j2; exfalso; omega) | exact zSe_st (by assumption) (by assumption) (by assumption) (by omega) (by assumption)) (by omega)
        · exact hK35 _ ⟨by omega, by omega⟩ (by omega) (by omega) (by exact zSe_f (by assumption) (by assumption) (by omega) (by assumption)) (by assumption)
set_option maxRecDepth 100000 in
set_option maxHeartbeats 4000000 in
theorem k_Thought_secondStorm {l2 : Int} {g : zi_M} {Q : Int → zi_M → Prop} (I : zk_I g) (p2 : 1 ≤ l2 ∧ l2 ≤ 6) (hQ : ∀ v : Int, ((-1) ≤ v ∧ v ≤ 11) → (¬ v = -1 → (2 ≤ l2 ∧ 1 ≤ v ∧ v ≤ g 36 12 - l2 + 1) ∧ zSe g l2 v ∧ ∀ j : Int, 1 ≤ j → j < v → ¬ zSe g l2 j) → (v = -1 → l2 < 2 ∨ ∀ j : Int, 1 ≤ j → j ≤ g 36 12 - l2 + 1 → ¬ zSe g l2 j) → Q v g) : w_Thought_secondStorm l2 g Q := by
  unfold w_Thought_secondStorm
  refine ⟨((12 - 1 : Int).toNat + 1), k_Thought_secondStorm_l2 (l2 := l2) I ⟨by omega, by omega⟩ (fun k15 b_8 b_9 b_10 b_11 b_12 => ?_) (fun b_13 => ?_) hQ ((12 - 1 : Int).toNat + 1) ⟨by omega, by omega⟩ (by first | (intro j j1 j2; exfalso; omega) | exact zSe_st (by assumption) (by assumption) (by assumption) (by omega) (by assumption)) (by omega)⟩
  · exact hQ _ ⟨by omega, by omega⟩ (by intro hv; first | (exfalso; omega) | exact ⟨⟨by omega, by omega, by omega⟩, by assumption, by assumption⟩) (by intro hv; first | assumption | (exfalso; omega))
  · exact hQ _ ⟨by omega, by omega⟩ (by intro hv; first | (exfalso; omega) | exact ⟨⟨by omega, by omega, by omega⟩, by assumption, by assumption⟩) (by intro hv; first | assumption | (exfalso; omega))
-- SpoutNews.read(II)I
theorem k_S_read {l1 : Int} {l2 : Int} {g : zi_M} {Q : Int → zi_M → Prop} (I : zk_I g) (p1 : (-2147483648) ≤ l1 ∧ l1 ≤ 2147483647) (p2 : (-2147483648) ≤ l2 ∧ l2 ≤ 2147483647) (hQ : ∀ (v : Int) (g' : zi_M), zk_I g' → zk_fr fr_S_read g g' → ((-1) ≤ v ∧ v ≤ 720) → (¬ ((1 ≤ l1 ∧ l1 ≤ 6 ∧ l1 ≤ g 36 12) ∧ (l2 = 0 ∨ l2 = 1)) → v = -1) → (1 ≤ l1 ∧ l1 ≤ 6 ∧ l1 ≤ g 36 12 → l2 = 0 → v = zDP (g 45) (g 36 12) l1.toNat 0) → (1 ≤ l1 ∧ l1 ≤ 6 ∧ l1 ≤ g 36 12 → l2 = 1 → l1 = 1 → v = -1) → (1 ≤ l1 ∧ l1 ≤ 6 ∧ l1 ≤ g 36 12 → l2 = 1 → 2 ≤ l1 → (1 ≤ v ∧ v ≤ g 36 12) ∧ zFs (g 45) (g 36 12) l1.toNat v ∧ ∀ j : Int, 1 ≤ j → j < v → ¬ zFs (g 45) (g 36 12) l1.toNat j) → Q v g') : w_S_read l1 l2 g Q := by
  have c12 : 0 ≤ g 36 12 ∧ g 36 12 ≤ 12 := I.1 36 12
  have b36 : (1 ≤ l1 ∧ l1 ≤ 6 ∧ l1 ≤ g 36 12) → (l2 = 0 ∨ l2 = 1) → w_S_read_b36 l1 l2 g Q := by
    intro ok h2
    unfold w_S_read_b36
    refine k_Thought_readInStorms I ⟨by omega, by omega⟩ (fun g5 I5 F5 T5 => ?_)
    have F4 : zk_fr fr_S_read g g5 := fun a i h => F5 a i h
    have e45 : g5 45 = g 45 := funext (fun i => F5 45 i (by unfold fr_Thought_readInStorms; decide))
    have e36 : g5 36 12 = g 36 12 := F5 36 12 (by unfold fr_Thought_readInStorms; decide)
    refine ⟨⟨by omega, by omega⟩, fun c => ?_, fun c => ?_⟩
    · refine k_Thought_secondStorm I5 ⟨by omega, by omega⟩ (fun v8 b5 d1 d2 => ?_)
      rw [e36] at d1 d2
      refine hQ _ _ I5 F4 ⟨by omega, by omega⟩ (fun h => absurd ⟨ok, h2⟩ h) (fun _ h => absurd h c) (fun _ _ h1 => ?_) (fun _ _ h1 => ?_)
      · by_cases q : v8 = -1
        · exact q
        · have := (d1 q).1.1
          exfalso; omega
      · by_cases q : v8 = -1
        · exfalso
          rcases d2 q with w | w
          · omega
          · obtain ⟨j, j1, j2, j3⟩ := zFs_ex (zf45 I) c12.2 (k := l1.toNat) (by omega) (by omega)
            exact w j j1 (by omega) ((zSe_Fs e45 e36 T5 h1 ok.2.2 j1 (by omega)).mpr j3)
        · obtain ⟨⟨a1, a2, a3⟩, a4, a5⟩ := d1 q
          exact ⟨⟨a2, by omega⟩, (zSe_Fs e45 e36 T5 h1 ok.2.2 a2 a3).mp a4, fun j j1 j2 w => a5 j j1 j2 ((zSe_Fs e45 e36 T5 h1 ok.2.2 j1 (by omega)).mpr w)⟩
    · refine k_Thought_leastSum I5 ⟨by omega, by omega⟩ (fun v11 b6 e6 => ?_)
      refine hQ _ _ I5 F4 ⟨by omega, by omega⟩ (fun h => absurd ⟨ok, h2⟩ h) (fun _ _ => ?_) (fun _ h => by omega) (fun _ h => by omega)
      have t := T5 l1 0 (by omega) (by decide) (by omega) (Or.inl (by omega))
      rw [Int.add_zero, e45, e36] at t
      rw [e6, t]
  have no : ¬ ((1 ≤ l1 ∧ l1 ≤ 6 ∧ l1 ≤ g 36 12) ∧ (l2 = 0 ∨ l2 = 1)) → Q (-1) g := fun h => hQ _ _ I (zk_f0 _) ⟨by omega, by omega⟩ (fun _ => rfl) (fun a b => absurd ⟨a, Or.inl b⟩ h) (fun _ _ _ => rfl) (fun a b => absurd ⟨a, Or.inr b⟩ h)
  unfold w_S_read
  exact ⟨⟨by omega, by omega⟩, fun c => no (by omega), fun c1 => ⟨fun c => no (by omega), fun c2 => ⟨⟨by omega, by omega⟩, fun c => no (by omega), fun c3 => ⟨⟨by omega, by omega⟩, fun c => b36 ⟨c1, c2, c3⟩ (Or.inl c), fun c => ⟨fun d => b36 ⟨c1, c2, c3⟩ (Or.inr d), fun d => no (by omega)⟩⟩⟩⟩⟩

-- SpoutNewsModel.minutesOf(II)I
theorem k_M_minutesOf_l5 {g : zi_M} {l1 l2 : Int} {K : Int → zi_M → Prop} {Q : Int → zi_M → Prop} (I : zk_I g) (p1 : 0 ≤ l1 ∧ l1 ≤ 12) (p2 : 1 ≤ l2 ∧ l2 ≤ 12) (hK : ∀ v, 0 ≤ v → v ≤ 720 → v = zmin g l1 l2 → K v g) :
    ∀ (n : Nat) (l3 l4 : Int), l1 ≤ l4 → (l4 ≤ l2 ∨ l4 = l1) → l3 = zmin g l1 l4 → 0 ≤ l3 → l3 ≤ 60 * (l4 - l1) → 12 - l4 < (n : Int) → w_M_minutesOf_l5 l2 K Q n l3 l4 g
  | 0, l3, l4, h1, h2, h3, h4, h5, hm => by exfalso; omega
  | n + 1, l3, l4, h1, h2, h3, h4, h5, hm => by
    unfold w_M_minutesOf_l5
    refine ⟨⟨by omega, by omega⟩, ⟨by omega, by omega⟩, fun h => hK l3 h4 (by omega) ?_, fun h => ⟨⟨by omega, by omega⟩, ?_⟩⟩
    · rcases h2 with q | q
      · rw [h3, show l4 = l2 by omega]
      · rw [h3, q, zmin_0 (Int.le_refl _), zmin_0 (by omega)]
    · have r : 0 ≤ g 248 l4 ∧ g 248 l4 ≤ 60 := I.1 248 l4
      exact k_M_minutesOf_l5 I p1 p2 hK n _ (l4 + 1) (by omega) (by omega) (by rw [zmin_s h1, h3]) (by omega) (by omega) (by omega)
theorem k_M_minutesOf {l1 : Int} {l2 : Int} {g : zi_M} {Q : Int → zi_M → Prop} (I : zk_I g) (p1 : 0 ≤ l1 ∧ l1 ≤ 12) (p2 : 1 ≤ l2 ∧ l2 ≤ 12) (hQ : ∀ v : Int, (0 ≤ v ∧ v ≤ 720) → (v = zmin g l1 l2) → (v = zSm (g 248) l1 l2) → Q v g) : w_M_minutesOf l1 l2 g Q := by
  unfold w_M_minutesOf
  exact ⟨13, k_M_minutesOf_l5 I p1 p2 (fun v h0 h1 h => hQ v ⟨h0, h1⟩ h (by rw [h, zmin_eq])) 13 0 l1 (Int.le_refl _) (Or.inr rfl) (zmin_0 (Int.le_refl _)).symm (by decide) (by omega) (by omega)⟩

-- SpoutNewsModel.findsRead(I)V
theorem k_M_findsRead_l50 {g : zi_M} {k l2 l3 : Int} {K : Int → zi_M → Prop} {Q : Int → zi_M → Prop} (I : zk_I g) (q2 : 0 ≤ l2 ∧ l2 ≤ 12) (q3 : 1 ≤ l3 ∧ l3 ≤ 6) (qk : l3 ≤ k) (hz : zMb g k l2) (hl : l2 ≤ g 214 58) (hK : ∀ v, 0 ≤ v → v ≤ 100000000 → v = zDP (g 248) (g 214 58) l3.toNat l2 → K v g) :
    ∀ (n : Nat) (l4 l5 : Int), 0 ≤ l4 → l4 ≤ 100000000 → l2 + 1 ≤ l5 → l5 ≤ g 214 58 + 1 → l4 = zLo (g 248) (zDP (g 248) (g 214 58) (l3 - 1).toNat) l2 (l5 - l2 - 1).toNat → 13 - l5 < (n : Int) → w_M_findsRead_l50 l2 l3 K Q n l4 l5 g
  | 0, l4, l5, h0, h1, h2, h3, h4, hm => by
    have c : 0 ≤ g 214 58 ∧ g 214 58 ≤ 12 := I.1 214 58
    exfalso; omega
  | n + 1, l4, l5, h0, h1, h2, h3, h4, hm => by
    have c : 0 ≤ g 214 58 ∧ g 214 58 ≤ 12 := I.1 214 58
    unfold w_M_findsRead_l50
    refine ⟨⟨by omega, by omega⟩, zk_rng I _ _, fun h => hK l4 h0 h1 (zDP_sx q3.1 ?_), fun h => ?_⟩
    · rw [h4, show l5 - l2 - 1 = g 214 58 - l2 by omega]
    · refine k_M_minutesOf I ⟨q2.1, by omega⟩ ⟨by omega, by omega⟩ (fun v9 r9 e8 e9 => ⟨⟨by omega, by omega⟩, ?_⟩)
      have rf : 0 ≤ g 249 (7 * l5 + l3 - 1) ∧ g 249 (7 * l5 + l3 - 1) ≤ 100000000 := I.1 249 _
      have ez := hz l5 (l3 - 1) (by omega) (by omega) (by omega) (by omega)
      rw [show 7 * l5 + (l3 - 1) = 7 * l5 + l3 - 1 by omega] at ez
      clear e8
      refine k_M_greater I ⟨by omega, by omega⟩ ⟨by omega, by omega⟩ (fun v13 a1 a2 => ?_)
      have e13 : v13 = max (zSm (g 248) l2 l5) (zDP (g 248) (g 214 58) (l3 - 1).toNat l5) := by rw [← e9, ← ez]; omega
      refine k_M_lesser I ⟨by omega, by omega⟩ ⟨by omega, by omega⟩ (fun v16 b1 b2 => ?_)
      exact k_M_findsRead_l50 I q2 q3 qk hz hl hK n v16 (l5 + 1) (by omega) (by omega) (by omega) (by omega) (zLo_st h4 e13 h2 (by omega)) (by omega)
theorem k_M_findsRead_l35 {g0 : zi_M} {l1 l2 : Int} {K : zi_M → Prop} {Q : Int → zi_M → Prop} (q1 : 1 ≤ l1 ∧ l1 ≤ 6) (q2 : 0 ≤ l2 ∧ l2 ≤ 12) (hK : ∀ g, zk_I g → zk_fr fr_M_findsRead g0 g → zMb g l1 (l2 + (-1)) → K g) :
    ∀ (n : Nat) (l3 : Int) (g : zi_M), zk_I g → zk_fr fr_M_findsRead g0 g → 1 ≤ l3 → l3 ≤ 7 → zMm g l1 l2 l3 → l2 ≤ g 214 58 → 7 - l3 < (n : Int) → w_M_findsRead_l35 l1 l2 K Q n l3 g
  | 0, l3, g, I, F, h0, h1, h2, h3, hm => by exfalso; omega
  | n + 1, l3, g, I, F, h0, h1, h2, h3, hm => by
    have c : 0 ≤ g 214 58 ∧ g 214 58 ≤ 12 := I.1 214 58
    unfold w_M_findsRead_l35
    refine ⟨⟨by omega, by omega⟩, ⟨by omega, by omega⟩, fun h => hK g I F (zMm_x h2 h), fun h => ⟨14, ?_⟩⟩
    refine k_M_findsRead_l50 I q2 ⟨h0, by omega⟩ (by omega) h2.1 h3 (fun v v0 v1 hv => ⟨⟨by omega, by omega⟩, ?_⟩) 14 100000000 (l2 + 1) (by decide) (by decide) (Int.le_refl _) (by omega) (by rw [show (l2 + 1 - l2 - 1).toNat = 0 by omega]; rfl) (by omega)
    intro g23 e23
    have I23 : zk_I g23 := by rw [e23]; exact zk_upd (L := 0) (H := 100000000) rfl rfl I ⟨v0, v1⟩
    have F23 : zk_fr fr_M_findsRead g0 g23 := by rw [e23]; exact zk_fu F rfl
    refine k_M_findsRead_l35 q1 q2 hK n (l3 + 1) g23 I23 F23 (by omega) (by omega) (zMm_st h2 e23 rfl hv ⟨by omega, by omega⟩ q1.2) (by rw [zv_58 e23]; exact h3) (by omega)
theorem k_M_findsRead_l5 {g0 : zi_M} {l1 : Int} {K : zi_M → Prop} {Q : Int → zi_M → Prop} (q1 : 1 ≤ l1 ∧ l1 ≤ 6) (hK : ∀ g, zk_I g → zk_fr fr_M_findsRead g0 g → zMb g l1 (-1) → K g) :
    ∀ (n : Nat) (l2 : Int) (g : zi_M), zk_I g → zk_fr fr_M_findsRead g0 g → -1 ≤ l2 → l2 ≤ 12 → l2 ≤ g 214 58 → zMb g l1 l2 → l2 + 1 < (n : Int) → w_M_findsRead_l5 l1 K Q n l2 g
  | 0, l2, g, I, F, h0, h1, h2, h3, hm => by exfalso; omega
  | n + 1, l2, g, I, F, h0, h1, h2, h3, hm => by
    unfold w_M_findsRead_l5
    have fin : 0 ≤ l2 → ∀ (v : Int) (g4 : zi_M), 0 ≤ v → v ≤ 100000000 → v = zDP (g 248) (g 214 58) 0 l2 → g4 = zi_u g 249 (7 * l2) v → (∃ f, w_M_findsRead_l35 l1 l2 (fun g26 => w_M_findsRead_l5 l1 K Q n (l2 + (-1)) g26) Q f 1 g4) := by
      intro hl v g4 v0 v1 ev e4
      have I4 : zk_I g4 := by rw [e4]; exact zk_upd (L := 0) (H := 100000000) rfl rfl I ⟨v0, v1⟩
      have F4 : zk_fr fr_M_findsRead g0 g4 := by rw [e4]; exact zk_fu F rfl
      refine ⟨7, k_M_findsRead_l35 q1 ⟨hl, h1⟩ (fun g' I' F' h' => ?_) 7 1 g4 I4 F4 (by decide) (by decide) (zMm_0 h3 e4 rfl ev q1.2) (by rw [zv_58 e4]; exact h2) (by decide)⟩
      have e58 : g' 214 58 = g 214 58 := (F' 214 58 (by unfold fr_M_findsRead; decide)).trans (F 214 58 (by unfold fr_M_findsRead; decide)).symm
      exact k_M_findsRead_l5 q1 hK n (l2 + (-1)) g' I' F' (by omega) (by omega) (by omega) h' (by omega)
    refine ⟨⟨by omega, by omega⟩, fun h => hK g I F (by rw [show (-1 : Int) = l2 by omega]; exact h3), fun h => ⟨zk_rng I _ _, fun c => ⟨⟨by omega, by omega⟩, fun g4 e4 => fin h _ g4 (by decide) (by decide) (by show (100000000 : Int) = if l2 = g 214 58 then 0 else 100000000; rw [if_neg c]) e4⟩, fun c => ⟨⟨by omega, by omega⟩, fun g4 e4 => fin h _ g4 (by decide) (by decide) (by show (0 : Int) = if l2 = g 214 58 then 0 else 100000000; rw [if_pos c]) e4⟩⟩⟩
theorem k_M_findsRead {l1 : Int} {g : zi_M} {Q : Int → zi_M → Prop} (I : zk_I g) (p1 : 1 ≤ l1 ∧ l1 ≤ 6) (hQ : ∀ g' : zi_M, zk_I g' → zk_fr fr_M_findsRead g g' → (zMb g' l1 (-1)) → Q 0 g') : w_M_findsRead l1 g Q := by
  unfold w_M_findsRead
  have c : 0 ≤ g 214 58 ∧ g 214 58 ≤ 12 := I.1 214 58
  exact ⟨14, k_M_findsRead_l5 p1 (fun g' I' F' h => hQ g' I' F' h) 14 (g 214 58) g I (zk_f0 _) (by omega) c.2 (Int.le_refl _) (fun a l h0 h1 => by exfalso; omega) (by omega)⟩

-- SpoutNewsModel.read(II)I
theorem k_M_read_l61 {g : zi_M} {l1 : Int} {K : Int → zi_M → Prop} {Q : Int → zi_M → Prop} (I : zk_I g) (q1 : 1 ≤ l1 ∧ l1 ≤ 6) {to : Int} (t2 : to ≤ 12) (t3 : zMe g l1 to) (hK : ∀ v, 1 ≤ v → v ≤ to → zMe g l1 v → (∀ j : Int, 1 ≤ j → j < v → ¬ zMe g l1 j) → K v g) :
    ∀ (n : Nat) (l3 : Int), 1 ≤ l3 → l3 ≤ to → (∀ j : Int, 1 ≤ j → j < l3 → ¬ zMe g l1 j) → to - l3 < (n : Int) → w_M_read_l61 l1 K Q n l3 g
  | 0, l3, h0, h1, h2, hm => by exfalso; omega
  | n + 1, l3, h0, h1, h2, hm => by
    unfold w_M_read_l61
    refine k_M_minutesOf I ⟨by decide, by decide⟩ ⟨h0, by omega⟩ (fun v14 r14 e13 e14 => ⟨⟨by omega, by omega⟩, ?_⟩)
    clear e13
    have rf : 0 ≤ g 249 (7 * l3 + l1 - 1) ∧ g 249 (7 * l3 + l1 - 1) ≤ 100000000 := I.1 249 _
    refine k_M_greater I ⟨by omega, by omega⟩ ⟨by omega, by omega⟩ (fun v18 a1 a2 => ?_)
    have e18 : v18 = max (zSm (g 248) 0 l3) (g 249 (7 * l3 + l1 - 1)) := by rw [← e14]; omega
    refine ⟨⟨by omega, by omega⟩, ⟨by omega, by omega⟩, zk_rng I _ _, fun eq => hK l3 h0 h1 ?_ h2, fun ne => ?_⟩
    · show max (zSm (g 248) 0 l3) (g 249 (7 * l3 + l1 - 1)) = g 249 l1
      rw [← e18]
      exact eq
    · have nl : ¬ zMe g l1 l3 := fun w => ne (e18.trans (show max (zSm (g 248) 0 l3) (g 249 (7 * l3 + l1 - 1)) = g 249 l1 from w))
      by_cases e : l3 = to
      · exact absurd (by rw [e]; exact t3) nl
      · refine k_M_read_l61 I q1 t2 t3 hK n (l3 + 1) (by omega) (by omega) (fun j j1 j2 w => ?_) (by omega)
        by_cases c : j = l3
        · exact nl (by rw [← c]; exact w)
        · exact h2 j j1 (by omega) w
theorem k_M_read {l1 : Int} {l2 : Int} {g : zi_M} {Q : Int → zi_M → Prop} (I : zk_I g) (p1 : (-2147483648) ≤ l1 ∧ l1 ≤ 2147483647) (p2 : (-2147483648) ≤ l2 ∧ l2 ≤ 2147483647) (hQ : ∀ (v : Int) (g' : zi_M), zk_I g' → zk_fr fr_M_read g g' → ((-1) ≤ v) → (¬ ((1 ≤ l1 ∧ l1 ≤ 6 ∧ l1 ≤ g 214 58) ∧ (l2 = 0 ∨ l2 = 1)) → v = -1) → (1 ≤ l1 ∧ l1 ≤ 6 ∧ l1 ≤ g 214 58 → l2 = 0 → v = zDP (g 248) (g 214 58) l1.toNat 0) → (1 ≤ l1 ∧ l1 ≤ 6 ∧ l1 ≤ g 214 58 → l2 = 1 → l1 = 1 → v = -1) → (1 ≤ l1 ∧ l1 ≤ 6 ∧ l1 ≤ g 214 58 → l2 = 1 → 2 ≤ l1 → (1 ≤ v ∧ v ≤ g 214 58) ∧ zFs (g 248) (g 214 58) l1.toNat v ∧ ∀ j : Int, 1 ≤ j → j < v → ¬ zFs (g 248) (g 214 58) l1.toNat j) → Q v g') : w_M_read l1 l2 g Q := by
  unfold w_M_read
  intro g1 e1
  have I1 : zk_I g1 := by rw [e1]; exact zk_upd (L := -2147483648) (H := 2147483647) rfl rfl I ⟨by decide, by decide⟩
  have F1 : zk_fr fr_M_read g g1 := by rw [e1]; exact zk_fu (zk_f0 _) (Or.inr ⟨rfl, rfl⟩)
  have c1 : g1 214 58 = g 214 58 := by rw [e1]; exact zi_u_ni (by decide)
  have r1 : 0 ≤ g1 214 58 ∧ g1 214 58 ≤ 12 := I1.1 214 58
  have no : ¬ ((1 ≤ l1 ∧ l1 ≤ 6 ∧ l1 ≤ g 214 58) ∧ (l2 = 0 ∨ l2 = 1)) → Q (-1) g1 := fun h => hQ _ _ I1 F1 (by omega) (fun _ => rfl) (fun a b => absurd ⟨a, Or.inl b⟩ h) (fun _ _ _ => rfl) (fun a b => absurd ⟨a, Or.inr b⟩ h)
  refine k_M_isIn I1 p1 ⟨by decide, by decide⟩ ⟨by decide, by decide⟩ (fun v2 a1 a2 a3 => ⟨fun _ => no (by omega), fun n2 => ⟨p1, zk_rng I1 _ _, fun _ => no (by omega), fun hc => ?_⟩⟩)
  refine k_M_isIn I1 p2 ⟨by decide, by decide⟩ ⟨by decide, by decide⟩ (fun v7 b1 b2 b3 => ⟨fun n7 => ?_, fun _ => no (by omega)⟩)
  have ok : 1 ≤ l1 ∧ l1 ≤ 6 ∧ l1 ≤ g 214 58 := by omega
  have ok2 : l2 = 0 ∨ l2 = 1 := by omega
  refine k_M_findsRead I1 ⟨by omega, by omega⟩ (fun g11 I11 F11 T11 => ?_)
  have F11' : zk_fr fr_M_read g g11 := zk_ft F1 F11 (fun a i h => Or.inl h)
  have e58 : g11 214 58 = g 214 58 := (F11 _ _ (by unfold fr_M_findsRead; omega)).trans c1
  have e248 : g11 248 = g 248 := funext (fun i => (F11 248 i (by unfold fr_M_findsRead; decide)).trans (by rw [e1]; exact zi_u_ne (by decide)))
  have r11 : 0 ≤ g11 214 58 ∧ g11 214 58 ≤ 12 := I11.1 214 58
  have rl : 0 ≤ g11 249 l1 ∧ g11 249 l1 ≤ 100000000 := I11.1 249 l1
  refine ⟨p2, fun n0 => ⟨fun n1 => ?_, fun y1 => hQ _ _ I11 F11' (by omega) (fun h => absurd ⟨ok, ok2⟩ h) (fun _ h => absurd h n0) (fun _ _ _ => rfl) (fun _ _ h => by omega)⟩, fun y0 => ⟨⟨by omega, by omega⟩, hQ _ _ I11 F11' (by omega) (fun h => absurd ⟨ok, ok2⟩ h) (fun _ _ => ?_) (fun _ h => by omega) (fun _ h => by omega)⟩⟩
  · obtain ⟨to, t1, t2, t3⟩ := zFs_ex (zf248 I) (show g 214 58 ≤ 12 by omega) (k := l1.toNat) (by omega) (by omega)
    have t4 : zMe g11 l1 to := (zMe_Fs e248 e58 T11 ok.1 t1 (by omega)).mpr t3
    exact ⟨13, k_M_read_l61 I11 ⟨by omega, by omega⟩ (by omega) t4 (fun v h0 h1 w1 w2 => hQ _ _ I11 F11' (by omega) (fun h => absurd ⟨ok, ok2⟩ h) (fun _ h => absurd h n0) (fun _ _ h => absurd h n1) (fun _ _ _ => ⟨⟨h0, by omega⟩, (zMe_Fs e248 e58 T11 ok.1 h0 (by omega)).mp w1, fun j j1 j2 w => w2 j j1 j2 ((zMe_Fs e248 e58 T11 ok.1 j1 (by omega)).mpr w)⟩)) 13 1 (by decide) t1 (fun j j1 j2 => by omega) (by omega)⟩
  · have t := T11 0 l1 (by decide) (by omega) (by omega) (Int.le_refl _)
    rw [show 7 * 0 + l1 = l1 by omega, e248, e58] at t
    exact t

-- SpoutNews$Thought.goodTake(LSpoutNews$World;I)I
set_option maxRecDepth 100000 in
set_option maxHeartbeats 4000000 in
theorem k_Thought_goodTake_l14 {g : zi_M} (I : zk_I g) {l1 : Int} {K48 : Int → zi_M → Prop} {Q : Int → zi_M → Prop} (q1 : 0 ≤ l1 ∧ l1 ≤ 9) (hK48 : ∀ (k2 : Int), (0 ≤ k2 ∧ k2 ≤ 3) → (k2 = zxq (g 8) l1 (g 2 8).toNat) → K48 k2 g) (hQ : ∀ v : Int, ((-1) ≤ v ∧ v ≤ 4) → (0 ≤ l1 ∧ l1 < g 2 8 → v = zvTk (g 8) (g 2 8) l1) → (l1 < 0 ∨ g 2 8 ≤ l1 → v = -1) → Q v g) : ∀ (n : Nat) {l2 : Int} {l3 : Int}, (0 ≤ l2 ∧ l2 ≤ 3) → (0 ≤ l3 ∧ l3 ≤ 10) → (l3 ≤ g 2 8) → (l2 = zxq (g 8) l1 l3.toNat) → 10 - l3 < (n : Int) → w_Thought_goodTake_l14 l1 K48 Q n l2 l3 g
  | 0, l2, l3, b0, b1, b2, b3, hm => by exfalso; omega
  | n + 1, l2, l3, b0, b1, b2, b3, hm => by
    unfold w_Thought_goodTake_l14
    have m_5 : 0 ≤ (g 2 8) ∧ (g 2 8) ≤ 10 := I.1 2 8
    refine ⟨⟨by omega, by omega⟩, ⟨by omega, by omega⟩, ?_⟩
    refine ⟨fun c10 => ?_, fun c10 => ?_⟩
    · exact hK48 _ ⟨by omega, by omega⟩ (by exact zxq_x (by assumption) (by omega))
    · refine ⟨⟨by omega, by omega⟩, ?_⟩
      refine ⟨fun c9 => ?_, fun c9 => ?_⟩
      · refine ⟨⟨by omega, by omega⟩, ?_⟩
        have m_6 : 0 ≤ (g 8 l3) ∧ (g 8 l3) ≤ 20 := I.1 8 l3
        refine ⟨⟨by omega, by omega⟩, ?_⟩
        have m_7 := zi_tmod_f (g 8 l3) 3
        have m_8 := zi_tmod_c (g 8 l3) 3 (by decide)
        first | have m_9 := (zi_xor_f l2 (Int.tmod (g 8 l3) 3)).2.1 ⟨by omega, by omega, by omega, by omega⟩ | have m_9 := (zi_xor_f l2 (Int.tmod (g 8 l3) 3)).2.2.1 ⟨by omega, by omega, by omega, by omega⟩ | have m_9 := (zi_xor_f l2 (Int.tmod (g 8 l3) 3)).2.2.2 ⟨by omega, by omega, by omega, by omega⟩ | have m_9 := zi_r_xor l2 (Int.tmod (g 8 l3) 3)
        exact k_Thought_goodTake_l14 I q1 hK48 hQ n ⟨by omega, by omega⟩ ⟨by omega, by omega⟩ (by omega) (by first | exact zxq_t (by assumption) (by omega) (by assumption) (by rfl) | exact zxq_u (by assumption) (by omega) (by assumption) (by rfl) | rfl) (by omega)
      · first | have m_10 := (zi_xor_f l2 0).2.1 ⟨by omega, by omega, by omega, by omega⟩ | have m_10 := (zi_xor_f l2 0).2.2.1 ⟨by omega, by omega, by omega, by omega⟩ | have m_10 := (zi_xor_f l2 0).2.2.2 ⟨by omega, by omega, by omega, by omega⟩ | have m_10 := zi_r_xor l2 0
        exact k_Thought_goodTake_l14 I q1 hK48 hQ n ⟨by omega, by omega⟩ ⟨by omega, by omega⟩ (by omega) (by first | exact zxq_t (by assumption) (by omega) (by assumption) (by rfl) | exact zxq_u (by assumption) (by omega) (by assumption) (by rfl) | rfl) (by omega)
set_option maxRecDepth 100000 in
set_option maxHeartbeats 4000000 in
theorem k_Thought_goodTake_l50 {g : zi_M} (I : zk_I g) {l1 : Int} {l2 : Int} {K79 : Int → zi_M → Prop} {K88 : zi_M → Prop} {Q : Int → zi_M → Prop} (q1 : 0 ≤ l1 ∧ l1 ≤ 9) (q2 : 0 ≤ l2 ∧ l2 ≤ 3) (hK79 : ∀ (k3 : Int), (1 ≤ k3 ∧ k3 ≤ 4) → (k3 = zvTf (g 8 l1) l2) → K79 k3 g) (hK88 : (zvTf (g 8 l1) l2 = -1) → K88 g) (hQ : ∀ v : Int, ((-1) ≤ v ∧ v ≤ 4) → (0 ≤ l1 ∧ l1 < g 2 8 → v = zvTk (g 8) (g 2 8) l1) → (l1 < 0 ∨ g 2 8 ≤ l1 → v = -1) → Q v g) : ∀ (n : Nat) {l3 : Int}, (1 ≤ l3 ∧ l3 ≤ 8) → (zvTi (g 8 l1) l2 l3) → 8 - l3 < (n : Int) → w_Thought_goodTake_l50 l1 l2 K79 K88 Q n l3 g
  | 0, l3, b0, b1, hm => by exfalso; omega
  | n + 1, l3, b0, b1, hm => by
    unfold w_Thought_goodTake_l50
    refine ⟨⟨by omega, by omega⟩, ?_⟩
    refine ⟨fun c21 => ?_, fun c21 => ?_⟩
    · have m_13 : 0 ≤ (g 8 l1) ∧ (g 8 l1) ≤ 20 := I.1 8 l1
      exact hK88 (by exact zvTi_n (by assumption) (by omega))
    · refine ⟨⟨by omega, by omega⟩, ?_⟩
      have m_14 : 0 ≤ (g 8 l1) ∧ (g 8 l1) ≤ 20 := I.1 8 l1
      refine ⟨⟨by omega, by omega⟩, ?_⟩
      refine ⟨fun c20 => ?_, fun c20 => ?_⟩
      · exact hK88 (by exact zvTi_n (by assumption) (by omega))
      · refine ⟨⟨by omega, by omega⟩, ?_⟩
        have m_15 := zi_tmod_f ((g 8 l1) - l3) 3
        have m_16 := zi_tmod_c ((g 8 l1) - l3) 3 (by decide)
        refine ⟨⟨by omega, by omega⟩, ⟨by omega, by omega⟩, ?_⟩
        refine ⟨fun c19 => ?_, fun c19 => ?_⟩
        · exact k_Thought_goodTake_l50 I q1 q2 hK79 hK88 hQ n ⟨by omega, by omega⟩ (by first | exact zvTi_s (by assumption) (by assumption) (by assumption) | exact zvTi_0) (by omega)
        · exact hK79 _ ⟨by omega, by omega⟩ (by exact zvTi_y (by assumption) (by omega) (by omega) (by assumption))
set_option maxRecDepth 100000 in
set_option maxHeartbeats 4000000 in
theorem k_Thought_goodTake {l1 : Int} {g : zi_M} {Q : Int → zi_M → Prop} (I : zk_I g) (p1 : (-1) ≤ l1 ∧ l1 ≤ 9) (hQ : ∀ v : Int, ((-1) ≤ v ∧ v ≤ 4) → (0 ≤ l1 ∧ l1 < g 2 8 → v = zvTk (g 8) (g 2 8) l1) → (l1 < 0 ∨ g 2 8 ≤ l1 → v = -1) → Q v g) : w_Thought_goodTake l1 g Q := by
  unfold w_Thought_goodTake
  have m_4 : 0 ≤ (g 2 8) ∧ (g 2 8) ≤ 10 := I.1 2 8
  refine k_World_isSpout rfl I ⟨by omega, by omega⟩ (fun v1 b_1 b_2 b_3 => ?_)
  try simp only [Nat.reduceAdd] at b_1 b_2 b_3
  refine ⟨fun c27 => ?_, fun c27 => ?_⟩
  · refine ⟨((10 - 0 : Int).toNat + 1), k_Thought_goodTake_l14 (l1 := l1) I ⟨by omega, by omega⟩ (fun k11 b_11 b_12 => ?_) hQ ((10 - 0 : Int).toNat + 1) ⟨by omega, by omega⟩ ⟨by omega, by omega⟩ (by omega) (by first | exact zxq_t (by assumption) (by omega) (by assumption) (by rfl) | exact zxq_u (by assumption) (by omega) (by assumption) (by rfl) | rfl) (by omega)⟩
    have m_20 : 0 ≤ (g 8 l1) ∧ (g 8 l1) ≤ 20 := I.1 8 l1
    refine ⟨((8 - 1 : Int).toNat + 1), k_Thought_goodTake_l50 (l1 := l1) (l2 := k11) I ⟨by omega, by omega⟩ ⟨by omega, by omega⟩ (fun k22 b_17 b_18 => ?_) (fun b_19 => ?_) hQ ((8 - 1 : Int).toNat + 1) ⟨by omega, by omega⟩ (by first | exact zvTi_s (by assumption) (by assumption) (by assumption) | exact zvTi_0) (by omega)⟩
    · exact hQ _ ⟨by omega, by omega⟩ (by first | exact fun _ => zvTk_of (by assumption) (by assumption) | exact fun _ => zvTk_on (by assumption) (by assumption) | (intro hx; exfalso; omega)) (by first | exact fun _ => rfl | (intro hx; exfalso; omega))
    · exact hQ _ ⟨by omega, by omega⟩ (by first | exact fun _ => zvTk_of (by assumption) (by assumption) | exact fun _ => zvTk_on (by assumption) (by assumption) | (intro hx; exfalso; omega)) (by first | exact fun _ => rfl | (intro hx; exfalso; omega))
  · exact hQ _ ⟨by omega, by omega⟩ (by first | exact fun _ => zvTk_of (by assumption) (by assumption) | exact fun _ => zvTk_on (by assumption) (by assumption) | (intro hx; exfalso; omega)) (by first | exact fun _ => rfl | (intro hx; exfalso; omega))
