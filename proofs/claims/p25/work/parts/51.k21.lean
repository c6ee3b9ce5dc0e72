-- by program (wip/gen/mkz.py)
-- SpoutNews$Texts.copyPlan(LSpoutNews$Texts;)V
set_option maxRecDepth 100000 in
set_option maxHeartbeats 4000000 in
theorem k_Texts_copyPlan {r0 : Nat} (hr0 : zs_sh r0 = some (6, 11)) {r1 : Nat} (hr1 : zs_sh r1 = some (6, 11)) {g : zi_M} {Q : Int → zi_M → Prop} (I : zk_I g) (hQ : ∀ g' : zi_M, zk_I g' → zk_fr (fr_Texts_copyPlan r0 r1) g g' → (zyTp r0 r1 g g') → Q 0 g') : w_Texts_copyPlan r0 r1 g Q := by
  unfold w_Texts_copyPlan
  intro g2 e_1
  have I_2 : zk_I g2 := by rw [e_1]; exact zk_cp (L := (-2147483648)) (H := 2147483647) (fun i => zk_la6_13 hr1 (i := i)) (fun i => zk_la6_13 hr0 (i := i)) I (zj_a6_13 hr0)
  have F_3 : zk_fr (fr_Texts_copyPlan r0 r1) g g2 := by rw [e_1]; exact zk_fc (zk_f0 _) (fun i => (Or.inl rfl))
  intro g4 e_4
  have I_5 : zk_I g4 := by rw [e_4]; exact zk_cp (L := (-2147483648)) (H := 2147483647) (fun i => zk_la6_14 hr1 (i := i)) (fun i => zk_la6_14 hr0 (i := i)) I_2 (zj_a6_14 hr0)
  have F_6 : zk_fr (fr_Texts_copyPlan r0 r1) g g4 := by rw [e_4]; exact zk_fc F_3 (fun i => (Or.inr (Or.inl rfl)))
  intro g6 e_7
  have I_8 : zk_I g6 := by rw [e_7]; exact zk_cp (L := (-2147483648)) (H := 2147483647) (fun i => zk_la6_15 hr1 (i := i)) (fun i => zk_la6_15 hr0 (i := i)) I_5 (zj_a6_15 hr0)
  have F_9 : zk_fr (fr_Texts_copyPlan r0 r1) g g6 := by rw [e_7]; exact zk_fc F_6 (fun i => (Or.inr (Or.inr (Or.inl rfl))))
  intro g8 e_10
  have I_11 : zk_I g8 := by rw [e_10]; exact zk_cp (L := (-2147483648)) (H := 2147483647) (fun i => zk_la6_16 hr1 (i := i)) (fun i => zk_la6_16 hr0 (i := i)) I_8 (zj_a6_16 hr0)
  have F_12 : zk_fr (fr_Texts_copyPlan r0 r1) g g8 := by rw [e_10]; exact zk_fc F_9 (fun i => (Or.inr (Or.inr (Or.inr (Or.inl rfl)))))
  have m_16 := zk_c6_10 hr1 I_11
  intro g9 e_13
  have I_14 : zk_I g9 := by rw [e_13]; exact zk_upd (zk_lc6_10 hr0).1 (zk_lc6_10 hr0).2 I_11 ⟨by omega, by omega⟩ (zj_w6 hr0)
  have F_15 : zk_fr (fr_Texts_copyPlan r0 r1) g g9 := by rw [e_13]; exact zk_fu F_12 (Or.inr (Or.inr (Or.inr (Or.inr ⟨rfl, rfl⟩))))
  exact hQ _ I_14 F_15 (by exact zyTp_all hr0 hr1 (by assumption) (by assumption) (by assumption) (by assumption) (by assumption))
-- SpoutNews.takePlan(I)I
theorem k_S_takePlan {l1 : Int} {g : zi_M} {Q : Int → zi_M → Prop} (I : zk_I g) (p1 : 0 ≤ l1 ∧ l1 ≤ 400) (hQ : ∀ (v : Int) (g' : zi_M), zk_I g' → zk_fr fr_S_takePlan g g' → ((-1) ≤ v ∧ v ≤ 16) → (g' 91 1 = 0 ∨ g' 91 1 = g 91 1) → (zySs 1000000004 (g 190) l1 g') → (zySp (g 2 8) (g 2 11) g g' v) → Q v g') : w_S_takePlan l1 g Q := by
  unfold w_S_takePlan
  refine k_Tokens_split (show zs_str 1000000004 from rfl) I p1 (fun g2 I2 F2 s2 c2 => ?_)
  have S2 : zySs 1000000004 (g 190) l1 g2 := ⟨s2, c2.2.2.2⟩
  have sub2 : ∀ a i, fr_Tokens_split 1000000004 a i → fr_S_takePlan a i := (fun a i h => by unfold fr_Tokens_split at h; unfold fr_S_takePlan; rcases h with h | h | h | h | h | h | h <;> simp [h])
  have subR : ∀ a i, fr_Texts_readPlan a i → fr_S_takePlan a i := (fun a i h => by unfold fr_Texts_readPlan at h; unfold fr_S_takePlan; rcases h with h | h | h | h | h | h | h | h <;> simp [h])
  have G2 := zk_ft (zk_f0 _) F2 sub2
  have e8 : g2 2 8 = g 2 8 := F2 2 8 (by unfold fr_Tokens_split; omega)
  have e11 : g2 2 11 = g 2 11 := F2 2 11 (by unfold fr_Tokens_split; omega)
  refine k_Texts_readPlan I2 (zySs_C S2 c2) (fun v4 g5 I5 F5 b5 x5 => ?_)
  have G5 := zk_ft G2 F5 subR
  have k5 : ∀ (a : Nat) (i : Int), a = 192 ∨ a = 193 ∨ a = 194 ∨ (a = 191 ∧ i = 3) → g5 a i = g2 a i := fun a i h => F5 a i (by unfold fr_Texts_readPlan; omega)
  have S5 := zySs_m S2 k5
  have m5 := zyM_m k5
  rw [← m5, e8, e11] at x5
  have k : ∀ (a : Nat) (i : Int), a ≤ 91 → g5 a i = g a i := fun a i ha => by rw [F5 a i (by unfold fr_Texts_readPlan; omega), F2 a i (by unfold fr_Tokens_split; omega)]
  refine ⟨fun ne => ?_, fun e => ?_⟩
  · refine k_Texts_copyPlan rfl rfl I5 (fun g8 I8 F8 t8 => ?_)
    have G8 := zk_ft G5 F8 (fun a i h => by unfold fr_Texts_copyPlan at h; unfold fr_S_takePlan; rcases h with h | h | h | h | h <;> simp [h])
    refine k_Past_forget I8 (fun g11 I11 F11 f11 => ?_)
    have G11 := zk_ft G8 F11 (fun a i h => by unfold fr_Past_forget at h; unfold fr_S_takePlan; simp [h])
    have k9 : ∀ (a : Nat) (i : Int), ¬ (a = 91 ∧ i = 1) → g11 a i = g8 a i := fun a i h1 => F11 a i (by unfold fr_Past_forget; omega)
    have k8 : ∀ (a : Nat) (i : Int), 92 ≤ a → g11 a i = g5 a i := fun a i h1 => by rw [k9 a i (by omega), F8 a i (by unfold fr_Texts_copyPlan; omega)]
    have e195 : g11 195 10 = g5 195 10 := k8 195 10 (by decide)
    have b195 : 0 ≤ g5 195 10 ∧ g5 195 10 ≤ 16 := I5.1 195 10
    have m11 : zyM g11 = zyM g5 := zyM_m (fun a i h => k8 a i (by omega))
    obtain ⟨n, o, s1, s2, s3⟩ := x5
    by_cases z : zyPg (zyM g5) (g 2 8) (g 2 11) n (zyPP (zyM g5) n) o = -1
    · obtain ⟨h1, h2, h3, h4, h5⟩ := s2 z
      refine hQ _ g11 I11 G11 ⟨by omega, by omega⟩ (by omega) (zySs_m S5 (fun a i h => k8 a i (by omega))) ?_
      unfold zySp
      rw [m11]
      have e19 : g11 19 10 = g5 195 10 := by rw [k9 19 10 (by decide)]; exact t8.1
      refine ⟨n, o, s1, fun _ => ⟨by omega, by rw [e195, e19], ?_, by rw [k8 191 5 (by decide)]; exact h4, by rw [k8 191 6 (by decide)]; exact h5, f11⟩, fun q => absurd z q⟩
      intro m m0 m1
      rw [k9 32 m (by omega), k9 33 m (by omega), k9 34 m (by omega), k9 35 m (by omega), t8.2.1 m m0 (by omega), t8.2.2.1 m m0 (by omega), t8.2.2.2.1 m m0 (by omega), t8.2.2.2.2 m m0 (by omega)]
      exact h3 m m0 m1
    · exfalso
      have := (s3 z).1
      omega
  · obtain ⟨n, o, s1, s2, s3⟩ := x5
    have z : ¬ zyPg (zyM g5) (g 2 8) (g 2 11) n (zyPP (zyM g5) n) o = -1 := fun q => by have := (s2 q).1; omega
    have h := s3 z
    exact hQ (-1) g5 I5 G5 ⟨by decide, by decide⟩ (Or.inr (k 91 1 (by decide))) S5 ⟨n, o, s1, fun q => absurd q z, fun _ => ⟨rfl, h.2, k 91 1 (by decide), k 19 10 (by decide), fun i => k 32 i (by decide), fun i => k 33 i (by decide), fun i => k 34 i (by decide), fun i => k 35 i (by decide)⟩⟩

-- SpoutNews.text(I)I
theorem k_S_text {l1 : Int} {g : zi_M} {Q : Int → zi_M → Prop} (I : zk_I g) (p1 : (-2147483648) ≤ l1 ∧ l1 ≤ 2147483647) (hQ : ∀ (v : Int) (g' : zi_M), zk_I g' → zk_fr fr_S_text g g' → ((-1) ≤ v ∧ v ≤ 17) → (g' 0 8 = 0) → (g' 91 1 = 0 ∨ g' 91 1 = g 91 1) → (0 ≤ l1 → l1 ≤ 3 → zySs (1000000001 + l1.toNat) (g 190) (g 0 8) g') → (l1 = 2 → zySw g g' v) → (¬ l1 = 2 → zyUw g g') → (l1 = 1 → zySg (g 2 8) g g' v) → (¬ l1 = 1 → zyUg g g') → (l1 = 3 → zySp (g 2 8) (g 2 11) g g' v) → (¬ l1 = 3 → zyUp g g') → (l1 < 0 ∨ 3 < l1 → v = -1 ∧ g' 191 5 = 0 ∧ g' 191 6 = -1) → (¬ (l1 = 2 ∨ l1 = 3) → g' 91 1 = g 91 1) → (l1 = 0 → zqVc v g') → (zlcX l1 v g g') → Q v g') : w_S_text l1 g Q := by
  unfold w_S_text
  intro g1 e1
  have b8 : 0 ≤ g 0 8 ∧ g 0 8 ≤ 400 := I.1 0 8
  have I1 : zk_I g1 := by rw [e1]; exact zk_upd (L := 0) (H := 400) rfl rfl I ⟨by decide, by decide⟩
  have F1 : zk_fr fr_S_text g g1 := by rw [e1]; exact zk_fu (zk_f0 _) (by unfold fr_S_text; simp)
  have r : ∀ a : Nat, ¬ a = 0 → g1 a = g a := fun a ha => by rw [e1]; exact zi_u_row ha
  have z8 : g1 0 8 = 0 := by rw [e1, zi_u_eq]
  refine ⟨⟨by omega, by omega⟩, fun h => ?_, fun h => ?_, fun h => ?_, fun h => ?_, fun h => ?_⟩
  · refine k_Tokens_clear I1 (fun y Iy Fy c1 c2 c3 c4 => ?_)
    have k : ∀ a i, ¬ a = 0 → ¬ a = 191 → y a i = g a i := fun a i h1 h2 => by rw [Fy a i (by unfold fr_Tokens_clear; omega), r a h1]
    exact hQ (-1) y Iy (zk_ft F1 Fy (fun a i h => by unfold fr_Tokens_clear at h; unfold fr_S_text; rcases h with h | h | h | h <;> simp [h])) ⟨by decide, by decide⟩ (by rw [Fy 0 8 (by unfold fr_Tokens_clear; omega)]; exact z8) (Or.inr (k 91 1 (by decide) (by decide))) (fun a b => by exfalso; omega) (fun q => by exfalso; omega) (fun _ => ⟨k _ _ (by decide) (by decide), fun i => k _ _ (by decide) (by decide), fun i => k _ _ (by decide) (by decide)⟩) (fun q => by exfalso; omega) (fun _ => ⟨k _ _ (by decide) (by decide), fun i => k _ _ (by decide) (by decide)⟩) (fun q => by exfalso; omega) (fun _ => ⟨k _ _ (by decide) (by decide), fun i => k _ _ (by decide) (by decide), fun i => k _ _ (by decide) (by decide), fun i => k _ _ (by decide) (by decide), fun i => k _ _ (by decide) (by decide)⟩) (fun _ => ⟨rfl, c3, c4⟩) (fun _ => k 91 1 (by decide) (by decide)) (fun q => by exfalso; omega) (zlcX_n (by omega) (fun a i a0 a1 => k a i (by omega) (by omega)))
  · refine k_S_takeLaw I1 b8 (fun v y Iy Fy hv hs ho hx => ?_)
    have sub : ∀ a i, fr_S_takeLaw a i → fr_S_text a i := (fun a i h => by unfold fr_S_takeLaw at h; unfold fr_S_text; rcases h with h | h | h | h | h | h | h | h | h | h | h | h | h | h | h | h | h | h | h | h | h | h | h | h | h | h | h <;> simp [h])
    have k : ∀ a i, ¬ a = 0 → ¬ fr_S_takeLaw a i → y a i = g a i := fun a i h1 h2 => by rw [Fy a i h2, r a h1]
    have k27 : ∀ (a : Nat) (i : Int), 27 ≤ a → a ≤ 190 → y a i = g a i := fun a i h1 h2 => k a i (by omega) (fun h => by unfold fr_S_takeLaw at h; rcases h with h | h | h | h | h | h | h | h | h | h | h | h | h | h | h | h | h | h | h | h | h | h | h | h | h | h | h <;> omega)
    have k19 : ∀ i : Int, y 19 i = g 19 i := fun i => k 19 i (by decide) (fun h => by unfold fr_S_takeLaw at h; rcases h with h | h | h | h | h | h | h | h | h | h | h | h | h | h | h | h | h | h | h | h | h | h | h | h | h | h | h <;> omega)
    rw [r 190 (by decide)] at hs
    refine hQ v y Iy (zk_ft F1 Fy sub) ⟨by omega, by omega⟩ (by rw [Fy 0 8 (fun h => by unfold fr_S_takeLaw at h; rcases h with h | h | h | h | h | h | h | h | h | h | h | h | h | h | h | h | h | h | h | h | h | h | h | h | h | h | h <;> omega)]; exact z8) (Or.inr (k27 91 1 (by decide) (by decide))) (fun _ _ => by rw [h]; exact hs) (fun q => by exfalso; omega) (fun _ => ⟨k19 _, fun i => k27 _ _ (by decide) (by decide), fun i => k27 _ _ (by decide) (by decide)⟩) (fun q => by exfalso; omega) (fun _ => ⟨k19 _, fun i => k27 _ _ (by decide) (by decide)⟩) (fun q => by exfalso; omega) (fun _ => ⟨k19 _, fun i => k27 _ _ (by decide) (by decide), fun i => k27 _ _ (by decide) (by decide), fun i => k27 _ _ (by decide) (by decide), fun i => k27 _ _ (by decide) (by decide)⟩) (fun q => by exfalso; omega) (fun _ => k27 91 1 (by decide) (by decide)) (fun _ => ho) (zlcX_0 h hx (fun a i a0 a1 => by rw [r a (by omega)]))
  · refine k_S_takeGutters I1 b8 (fun v y Iy Fy hv hs hw => ?_)
    have k : ∀ a i, ¬ a = 0 → ¬ fr_S_takeGutters a i → y a i = g a i := fun a i h1 h2 => by rw [Fy a i h2, r a h1]
    have k27 : ∀ (a : Nat) (i : Int), 30 ≤ a → a ≤ 190 → y a i = g a i := fun a i h1 h2 => k a i (by omega) (fun h => by unfold fr_S_takeGutters at h; rcases h with h | h | h | h | h | h | h | h | h | h | h <;> omega)
    have k19 : ∀ i : Int, ¬ i = 2 → y 19 i = g 19 i := fun i hi => k 19 i (by decide) (fun h => by unfold fr_S_takeGutters at h; rcases h with h | h | h | h | h | h | h | h | h | h | h <;> omega)
    unfold zySg at hw
    rw [r 190 (by decide)] at hs
    rw [r 2 (by decide), r 91 (by decide), r 19 (by decide), r 29 (by decide)] at hw
    exact hQ v y Iy (zk_ft F1 Fy (fun a i h => by unfold fr_S_takeGutters at h; unfold fr_S_text; rcases h with h | h | h | h | h | h | h | h | h | h | h <;> simp [h])) ⟨by omega, by omega⟩ (by rw [Fy 0 8 (fun h => by unfold fr_S_takeGutters at h; rcases h with h | h | h | h | h | h | h | h | h | h | h <;> omega)]; exact z8) (Or.inr (k27 91 1 (by decide) (by decide))) (fun _ _ => by rw [h]; exact hs) (fun q => by exfalso; omega) (fun _ => ⟨k19 _ (by decide), fun i => k27 _ _ (by decide) (by decide), fun i => k27 _ _ (by decide) (by decide)⟩) (fun _ => hw) (fun q => absurd h q) (fun q => by exfalso; omega) (fun _ => ⟨k19 _ (by decide), fun i => k27 _ _ (by decide) (by decide), fun i => k27 _ _ (by decide) (by decide), fun i => k27 _ _ (by decide) (by decide), fun i => k27 _ _ (by decide) (by decide)⟩) (fun q => by exfalso; omega) (fun _ => k27 91 1 (by decide) (by decide)) (fun q => by exfalso; omega) (zlcX_n (by omega) (fun a i a0 a1 => k a i (by omega) (fun h => by unfold fr_S_takeGutters at h; rcases h with h | h | h | h | h | h | h | h | h | h | h <;> omega)))
  · refine k_S_takeWeather I1 b8 (fun v y Iy Fy hv h91 hs hw => ?_)
    have k : ∀ a i, ¬ a = 0 → ¬ fr_S_takeWeather a i → y a i = g a i := fun a i h1 h2 => by rw [Fy a i h2, r a h1]
    have k27 : ∀ (a : Nat) (i : Int), (a = 29 ∨ 32 ≤ a) → a ≤ 90 → y a i = g a i := fun a i h1 h2 => k a i (by omega) (fun h => by unfold fr_S_takeWeather at h; rcases h with h | h | h | h | h | h | h | h | h | h | h | h | h | h <;> omega)
    have k19 : ∀ i : Int, ¬ i = 5 → y 19 i = g 19 i := fun i hi => k 19 i (by decide) (fun h => by unfold fr_S_takeWeather at h; rcases h with h | h | h | h | h | h | h | h | h | h | h | h | h | h <;> omega)
    unfold zySw at hw
    rw [r 190 (by decide)] at hs
    rw [r 91 (by decide)] at h91
    rw [r 91 (by decide), r 19 (by decide), r 30 (by decide), r 31 (by decide)] at hw
    exact hQ v y Iy (zk_ft F1 Fy (fun a i h => by unfold fr_S_takeWeather at h; unfold fr_S_text; rcases h with h | h | h | h | h | h | h | h | h | h | h | h | h | h <;> simp [h])) ⟨by omega, by omega⟩ (by rw [Fy 0 8 (fun h => by unfold fr_S_takeWeather at h; rcases h with h | h | h | h | h | h | h | h | h | h | h | h | h | h <;> omega)]; exact z8) h91 (fun _ _ => by rw [h]; exact hs) (fun _ => hw) (fun q => absurd h q) (fun q => by exfalso; omega) (fun _ => ⟨k19 _ (by decide), fun i => k27 _ _ (by decide) (by decide)⟩) (fun q => by exfalso; omega) (fun _ => ⟨k19 _ (by decide), fun i => k27 _ _ (by decide) (by decide), fun i => k27 _ _ (by decide) (by decide), fun i => k27 _ _ (by decide) (by decide), fun i => k27 _ _ (by decide) (by decide)⟩) (fun q => by exfalso; omega) (fun q => absurd (Or.inl h) q) (fun q => by exfalso; omega) (zlcX_n (by omega) (fun a i a0 a1 => k a i (by omega) (fun h => by unfold fr_S_takeWeather at h; rcases h with h | h | h | h | h | h | h | h | h | h | h | h | h | h <;> omega)))
  · refine k_S_takePlan I1 b8 (fun v y Iy Fy hv h91 hs hw => ?_)
    have k : ∀ a i, ¬ a = 0 → ¬ fr_S_takePlan a i → y a i = g a i := fun a i h1 h2 => by rw [Fy a i h2, r a h1]
    have k27 : ∀ (a : Nat) (i : Int), 29 ≤ a → a ≤ 31 → y a i = g a i := fun a i h1 h2 => k a i (by omega) (fun h => by unfold fr_S_takePlan at h; rcases h with h | h | h | h | h | h | h | h | h | h | h | h | h | h | h | h | h | h <;> omega)
    have k19 : ∀ i : Int, ¬ i = 10 → y 19 i = g 19 i := fun i hi => k 19 i (by decide) (fun h => by unfold fr_S_takePlan at h; rcases h with h | h | h | h | h | h | h | h | h | h | h | h | h | h | h | h | h | h <;> omega)
    unfold zySp at hw
    rw [r 190 (by decide)] at hs
    rw [r 91 (by decide)] at h91
    rw [r 2 (by decide), r 91 (by decide), r 19 (by decide), r 32 (by decide), r 33 (by decide), r 34 (by decide), r 35 (by decide)] at hw
    exact hQ v y Iy (zk_ft F1 Fy (fun a i h => by unfold fr_S_takePlan at h; unfold fr_S_text; rcases h with h | h | h | h | h | h | h | h | h | h | h | h | h | h | h | h | h | h <;> simp [h])) ⟨by omega, by omega⟩ (by rw [Fy 0 8 (fun h => by unfold fr_S_takePlan at h; rcases h with h | h | h | h | h | h | h | h | h | h | h | h | h | h | h | h | h | h <;> omega)]; exact z8) h91 (fun _ _ => by rw [h]; exact hs) (fun q => by exfalso; omega) (fun _ => ⟨k19 _ (by decide), fun i => k27 _ _ (by decide) (by decide), fun i => k27 _ _ (by decide) (by decide)⟩) (fun q => by exfalso; omega) (fun _ => ⟨k19 _ (by decide), fun i => k27 _ _ (by decide) (by decide)⟩) (fun _ => hw) (fun q => absurd h q) (fun q => by exfalso; omega) (fun q => absurd (Or.inr h) q) (fun q => by exfalso; omega) (zlcX_n (by omega) (fun a i a0 a1 => k a i (by omega) (fun h => by unfold fr_S_takePlan at h; rcases h with h | h | h | h | h | h | h | h | h | h | h | h | h | h | h | h | h | h <;> omega)))

-- SpoutNewsModel.takesOther(II)V
theorem k_M_takesOther_l85 {g0 : zi_M} {l2 : Int} {K : zi_M → Prop} {Q : Int → zi_M → Prop} (q2 : 0 ≤ l2 ∧ l2 ≤ 16) (hK : ∀ g, zk_b g → (∀ a, a ≠ 234 → g a = g0 a) → zR 234 64 (4 * l2) g0 g → K g) :
    ∀ (n : Nat) (l3 : Int) (g : zi_M), 0 ≤ l3 → l3 ≤ 4 * l2 → zk_b g → (∀ a, a ≠ 234 → g a = g0 a) → zR 234 64 l3 g0 g → 64 - l3 < (n : Int) → w_M_takesOther_l85 l2 K Q n l3 g
  | 0, l3, g, h0, h1, B, F, R, hm => by exfalso; omega
  | n + 1, l3, g, h0, h1, B, F, R, hm => by
    unfold w_M_takesOther_l85
    refine ⟨⟨by omega, by omega⟩, ⟨by omega, by omega⟩, fun h => ?_, fun h => ⟨⟨by omega, by omega⟩, ⟨by omega, by omega⟩, ?_⟩⟩
    · have e : l3 = 4 * l2 := by omega
      rw [e] at R
      exact hK g B F R
    · intro g6 e6
      refine k_M_takesOther_l85 q2 hK n (l3 + 1) g6 (by omega) (by omega) (by rw [e6]; exact zk_updb (L := -2147483648) (H := 2147483647) rfl rfl B (B 234 (64 + l3))) (fun a ha => ?_) (zR_s R h0 (by omega) e6) (by omega)
      rw [e6, zi_u_row ha]
      exact F a ha
theorem k_M_takesOther_l47 {g0 : zi_M} {l2 : Int} {K : zi_M → Prop} {Q : Int → zi_M → Prop} (q2 : 0 ≤ l2 ∧ l2 ≤ 16) (hK : ∀ g, zk_I g → zk_fr fr_M_takesOther g0 g → (∀ a, a ≠ 233 → g a = g0 a) → zR 233 32 (2 * l2) g0 g → K g) :
    ∀ (n : Nat) (l3 : Int) (g : zi_M), 0 ≤ l3 → l3 ≤ 2 * l2 → zk_I g → zk_fr fr_M_takesOther g0 g → (∀ a, a ≠ 233 → g a = g0 a) → zR 233 32 l3 g0 g → 32 - l3 < (n : Int) → w_M_takesOther_l47 l2 K Q n l3 g
  | 0, l3, g, h0, h1, I, F, G, R, hm => by exfalso; omega
  | n + 1, l3, g, h0, h1, I, F, G, R, hm => by
    unfold w_M_takesOther_l47
    refine ⟨⟨by omega, by omega⟩, ⟨by omega, by omega⟩, fun h => ?_, fun h => ⟨⟨by omega, by omega⟩, ⟨by omega, by omega⟩, ?_⟩⟩
    · have e : l3 = 2 * l2 := by omega
      rw [e] at R
      exact hK g I F G R
    · intro g6 e6
      refine k_M_takesOther_l47 q2 hK n (l3 + 1) g6 (by omega) (by omega) (by rw [e6]; exact zk_upd (L := -2147483648) (H := 2147483647) rfl rfl I (I.1 233 (32 + l3))) (by rw [e6]; exact zk_fu F (Or.inr (Or.inl rfl))) (fun a ha => ?_) (zR_s R h0 (by omega) e6) (by omega)
      rw [e6, zi_u_row ha]
      exact G a ha
theorem k_M_takesOther_l7 {g0 : zi_M} {K : zi_M → Prop} {Q : Int → zi_M → Prop} (hK : ∀ g, zk_I g → zk_fr fr_M_takesOther g0 g → (∀ a, a ≠ 232 → g a = g0 a) → zR 232 10 10 g0 g → K g) :
    ∀ (n : Nat) (l3 : Int) (g : zi_M), 0 ≤ l3 → l3 ≤ 10 → zk_I g → zk_fr fr_M_takesOther g0 g → (∀ a, a ≠ 232 → g a = g0 a) → zR 232 10 l3 g0 g → 10 - l3 < (n : Int) → w_M_takesOther_l7 K Q n l3 g
  | 0, l3, g, h0, h1, I, F, G, R, hm => by exfalso; omega
  | n + 1, l3, g, h0, h1, I, F, G, R, hm => by
    unfold w_M_takesOther_l7
    refine ⟨⟨by omega, by omega⟩, fun h => ?_, fun h => ⟨⟨by omega, by omega⟩, ⟨by omega, by omega⟩, ?_⟩⟩
    · have e : l3 = 10 := by omega
      rw [e] at R
      exact hK g I F G R
    · intro g6 e6
      refine k_M_takesOther_l7 hK n (l3 + 1) g6 (by omega) (by omega) (by rw [e6]; exact zk_upd (L := 0) (H := 10) rfl rfl I (I.1 232 (10 + l3))) (by rw [e6]; exact zk_fu F (Or.inl rfl)) (fun a ha => ?_) (zR_s R h0 (by omega) e6) (by omega)
      rw [e6, zi_u_row ha]
      exact G a ha
theorem k_M_takesOther {l1 : Int} {l2 : Int} {g : zi_M} {Q : Int → zi_M → Prop} (I : zk_I g) (p1 : (-2147483648) ≤ l1 ∧ l1 ≤ 2147483647) (p2 : 0 ≤ l2 ∧ l2 ≤ 16) (px0 : 1 ≤ l1 ∧ l1 ≤ 3) (px1 : l1 = 3 → zd g l2) (hQ : ∀ g' : zi_M, zk_I g' → zk_fr fr_M_takesOther g g' → (l1 = 2 → (∀ i : Int, 0 ≤ i → i < 2 * l2 → g' 233 i = g 233 (32 + i)) ∧ g' 214 37 = l2 ∧ g' 214 3 = 0) → (l1 = 1 → (∀ i : Int, 0 ≤ i → i < 10 → g' 232 i = g 232 (10 + i)) ∧ g' 214 35 = l2 ∧ g' 214 3 = g 214 3) → (l1 = 3 → (∀ i : Int, 0 ≤ i → i < 4 * l2 → g' 234 i = g 234 (64 + i)) ∧ g' 214 39 = l2 ∧ g' 214 3 = 0) → (¬ l1 = 2 → (∀ i : Int, g' 233 i = g 233 i) ∧ g' 214 37 = g 214 37) → (¬ l1 = 1 → (∀ i : Int, g' 232 i = g 232 i) ∧ g' 214 35 = g 214 35) → (¬ l1 = 3 → (∀ i : Int, g' 234 i = g 234 i) ∧ g' 214 39 = g 214 39) → Q 0 g') : w_M_takesOther l1 l2 g Q := by
  unfold w_M_takesOther
  refine ⟨⟨by omega, by omega⟩, fun n1 => ⟨fun n2 => ⟨65, ?_⟩, fun e2 => ⟨33, ?_⟩⟩, fun e1 => ⟨11, ?_⟩⟩
  · refine k_M_takesOther_l85 p2 (fun g8 B8 F8 R8 => ?_) 65 0 g (by omega) (by omega) I.1 (fun _ _ => rfl) (zR_0 _ _ _) (by omega)
    have hd := px1 (by omega)
    have J8 : zj g8 := by
      obtain ⟨h1, h2, h3, h4, h5, h6⟩ := I.2
      refine ⟨?_, ?_, ?_, ?_, ?_, ?_⟩
      · rw [F8 224 (by decide), F8 226 (by decide), F8 227 (by decide), F8 228 (by decide), F8 229 (by decide), F8 230 (by decide)]; exact h1
      · intro k k0 k1
        by_cases hk : k < l2
        · rw [zR_p R8 (by omega) (by omega), zR_p R8 (by omega) (by omega), zR_p R8 (by omega) (by omega)]
          have := hd k k0 hk
          rw [show (64 : Int) + 4 * k + 1 = 64 + (4 * k + 1) by omega, show (64 : Int) + 4 * k + 2 = 64 + (4 * k + 2) by omega, show (64 : Int) + 4 * k + 3 = 64 + (4 * k + 3) by omega] at this
          exact this
        · rw [zR_o R8 (by omega), zR_o R8 (by omega), zR_o R8 (by omega)]
          exact h2 k k0 k1
      · rw [F8 244 (by decide)]; exact h3
      · rw [F8 250 (by decide)]; exact h4
      · rw [F8 250 (by decide)]; exact h5
      · rw [F8 250 (by decide)]; exact h6
    have I8 : zk_I g8 := ⟨B8, J8⟩
    have G8 : zk_fr fr_M_takesOther g g8 := fun a i ha => by rw [F8 a (fun e => ha (Or.inr (Or.inr (Or.inl e))))]
    intro g9 e9 g10 e10
    have q : ∀ a : Nat, ¬ a = 214 → g10 a = g8 a := fun a ha => by rw [e10, zi_u_row ha, e9, zi_u_row ha]
    refine hQ g10 ?_ ?_ (fun h => absurd h n2) (fun h => absurd h n1) (fun _ => ⟨fun i i0 i1 => by rw [q 234 (by decide)]; exact zR_p R8 i0 i1, by rw [e10, zi_u_ni (by decide), e9, zi_u_eq], by rw [e10, zi_u_eq]⟩) (fun _ => ⟨fun i => by rw [q 233 (by decide), F8 233 (by decide)], by rw [e10, zi_u_ni (by decide), e9, zi_u_ni (by decide), F8 214 (by decide)]⟩) (fun _ => ⟨fun i => by rw [q 232 (by decide), F8 232 (by decide)], by rw [e10, zi_u_ni (by decide), e9, zi_u_ni (by decide), F8 214 (by decide)]⟩) (fun h => absurd (by omega) h)
    · rw [e10]; refine zk_upd (L := 0) (H := 6) rfl rfl ?_ ⟨by decide, by decide⟩
      rw [e9]; exact zk_upd (L := 0) (H := 16) rfl rfl I8 ⟨by omega, by omega⟩
    · rw [e10, e9]; exact zk_fu (zk_fu G8 (Or.inr (Or.inr (Or.inr (Or.inr (Or.inr (Or.inr ⟨rfl, rfl⟩))))))) (Or.inr (Or.inr (Or.inr (Or.inl ⟨rfl, rfl⟩))))
  · refine k_M_takesOther_l47 p2 (fun g8 I8 G8 F8 R8 => ?_) 33 0 g (by omega) (by omega) I (zk_f0 _) (fun _ _ => rfl) (zR_0 _ _ _) (by omega)
    intro g9 e9 g10 e10
    have q : ∀ a : Nat, ¬ a = 214 → g10 a = g8 a := fun a ha => by rw [e10, zi_u_row ha, e9, zi_u_row ha]
    refine hQ g10 ?_ ?_ (fun _ => ⟨fun i i0 i1 => by rw [q 233 (by decide)]; exact zR_p R8 i0 i1, by rw [e10, zi_u_ni (by decide), e9, zi_u_eq], by rw [e10, zi_u_eq]⟩) (fun h => absurd h n1) (fun h => by exfalso; omega) (fun h => absurd e2 h) (fun _ => ⟨fun i => by rw [q 232 (by decide), F8 232 (by decide)], by rw [e10, zi_u_ni (by decide), e9, zi_u_ni (by decide), F8 214 (by decide)]⟩) (fun _ => ⟨fun i => by rw [q 234 (by decide), F8 234 (by decide)], by rw [e10, zi_u_ni (by decide), e9, zi_u_ni (by decide), F8 214 (by decide)]⟩)
    · rw [e10]; refine zk_upd (L := 0) (H := 6) rfl rfl ?_ ⟨by decide, by decide⟩
      rw [e9]; exact zk_upd (L := 0) (H := 16) rfl rfl I8 ⟨by omega, by omega⟩
    · rw [e10, e9]; exact zk_fu (zk_fu G8 (Or.inr (Or.inr (Or.inr (Or.inr (Or.inr (Or.inl ⟨rfl, rfl⟩))))))) (Or.inr (Or.inr (Or.inr (Or.inl ⟨rfl, rfl⟩))))
  · refine k_M_takesOther_l7 (fun g8 I8 G8 F8 R8 => ?_) 11 0 g (by omega) (by omega) I (zk_f0 _) (fun _ _ => rfl) (zR_0 _ _ _) (by omega)
    intro g9 e9
    have q : ∀ a : Nat, ¬ a = 214 → g9 a = g8 a := fun a ha => by rw [e9, zi_u_row ha]
    refine hQ g9 ?_ ?_ (fun h => by exfalso; omega) (fun _ => ⟨fun i i0 i1 => by rw [q 232 (by decide)]; exact zR_p R8 i0 i1, by rw [e9, zi_u_eq], by rw [e9, zi_u_ni (by decide), F8 214 (by decide)]⟩) (fun h => by exfalso; omega) (fun _ => ⟨fun i => by rw [q 233 (by decide), F8 233 (by decide)], by rw [e9, zi_u_ni (by decide), F8 214 (by decide)]⟩) (fun h => absurd e1 h) (fun _ => ⟨fun i => by rw [q 234 (by decide), F8 234 (by decide)], by rw [e9, zi_u_ni (by decide), F8 214 (by decide)]⟩)
    · rw [e9]; exact zk_upd (L := 0) (H := 16) rfl rfl I8 ⟨by omega, by omega⟩
    · rw [e9]; exact zk_fu G8 (Or.inr (Or.inr (Or.inr (Or.inr (Or.inl ⟨rfl, rfl⟩)))))

-- SpoutNewsModel.takesLaw(I)V
theorem k_M_takesLaw_l2 {g0 : zi_M} {l1 : Int} {K : zi_M → Prop} {Q : Int → zi_M → Prop} (q1 : 0 ≤ l1 ∧ l1 ≤ 16) (hK : ∀ g, zk_b g → (∀ a, a ≠ 225 → a ≠ 226 → a ≠ 227 → a ≠ 228 → g a = g0 a) → zR 225 32 l1 g0 g → zR 226 32 l1 g0 g → zR 227 32 l1 g0 g → zR 228 32 l1 g0 g → K g) :
    ∀ (n : Nat) (l2 : Int) (g : zi_M), 0 ≤ l2 → l2 ≤ l1 → zk_b g → (∀ a, a ≠ 225 → a ≠ 226 → a ≠ 227 → a ≠ 228 → g a = g0 a) → zR 225 32 l2 g0 g → zR 226 32 l2 g0 g → zR 227 32 l2 g0 g → zR 228 32 l2 g0 g → 16 - l2 < (n : Int) → w_M_takesLaw_l2 l1 K Q n l2 g
  | 0, l2, g, h0, h1, B, F, R0, R1, R2, R3, hm => by exfalso; omega
  | n + 1, l2, g, h0, h1, B, F, R0, R1, R2, R3, hm => by
    have wb := B 214 26
    have wz : g 214 26 = 0 := by
      have a1 : (0 : Int) ≤ g 214 26 := wb.1
      have a2 : g 214 26 ≤ 0 := wb.2
      omega
    unfold w_M_takesLaw_l2
    refine ⟨⟨by omega, by omega⟩, ⟨by omega, by omega⟩, fun h => ?_, fun h => ⟨⟨by omega, by omega⟩, ⟨by omega, by omega⟩, ?_⟩⟩
    · have e : l2 = l1 := by omega
      rw [e] at R0 R1 R2 R3
      exact hK g B F R0 R1 R2 R3
    · intro g5 e5
      have w5 : g5 214 26 = 0 := by rw [e5, zi_u_ne (by decide)]; exact wz
      refine ⟨⟨by omega, by omega⟩, ?_⟩
      intro g7 e7
      have w7 : g7 214 26 = 0 := by rw [e7, zi_u_ne (by decide)]; exact w5
      refine ⟨⟨by omega, by omega⟩, ?_⟩
      intro g9 e9
      have w9 : g9 214 26 = 0 := by rw [e9, zi_u_ne (by decide)]; exact w7
      refine ⟨⟨by omega, by omega⟩, ?_⟩
      intro g11 e11
      rw [wz, Int.mul_zero, Int.zero_add] at e5
      rw [w5, Int.mul_zero, Int.zero_add] at e7
      rw [w7, Int.mul_zero, Int.zero_add] at e9
      rw [w9, Int.mul_zero, Int.zero_add] at e11
      have B5 : zk_b g5 := by rw [e5]; exact zk_updb (L := -2147483648) (H := 2147483647) rfl rfl B (B 225 (32 + l2))
      have B7 : zk_b g7 := by rw [e7]; exact zk_updb (L := 0) (H := 400) rfl rfl B5 (B5 226 (32 + l2))
      have B9 : zk_b g9 := by rw [e9]; exact zk_updb (L := 0) (H := 400) rfl rfl B7 (B7 227 (32 + l2))
      have B11 : zk_b g11 := by rw [e11]; exact zk_updb (L := 0) (H := 400) rfl rfl B9 (B9 228 (32 + l2))
      refine k_M_takesLaw_l2 q1 hK n (l2 + 1) g11 (by omega) (by omega) B11 (fun a h1 h2 h3 h4 => ?_) ?_ ?_ ?_ ?_ (by omega)
      · rw [e11, zi_u_row h4, e9, zi_u_row h3, e7, zi_u_row h2, e5, zi_u_row h1]
        exact F a h1 h2 h3 h4
      · exact zR_n (zR_n (zR_n (zR_s R0 h0 (by omega) e5) (by decide) e7) (by decide) e9) (by decide) e11
      · exact zR_n (zR_n (zR_s (zR_n R1 (by decide) e5) h0 (by omega) e7) (by decide) e9) (by decide) e11
      · exact zR_n (zR_s (zR_n (zR_n R2 (by decide) e5) (by decide) e7) h0 (by omega) e9) (by decide) e11
      · exact zR_s (zR_n (zR_n (zR_n R3 (by decide) e5) (by decide) e7) (by decide) e9) h0 (by omega) e11
theorem k_M_takesLaw_l107 {g0 : zi_M} {K : zi_M → Prop} {Q : Int → zi_M → Prop} (hK : ∀ g, zk_b g → (∀ a, a ≠ 229 → a ≠ 230 → g a = g0 a) → zR 229 800 (g0 214 27) g0 g → zR 230 800 (g0 214 27) g0 g → K g) :
    ∀ (n : Nat) (l2 : Int) (g : zi_M), 0 ≤ l2 → l2 ≤ g0 214 27 → zk_b g → (∀ a, a ≠ 229 → a ≠ 230 → g a = g0 a) → zR 229 800 l2 g0 g → zR 230 800 l2 g0 g → 400 - l2 < (n : Int) → w_M_takesLaw_l107 K Q n l2 g
  | 0, l2, g, h0, h1, B, F, R1, R2, hm => by
    have a2 : g 214 27 ≤ 400 := (B 214 27).2
    have : g 214 27 = g0 214 27 := by rw [F 214 (by decide) (by decide)]
    exfalso; omega
  | n + 1, l2, g, h0, h1, B, F, R1, R2, hm => by
    have wb := B 214 26
    have wz : g 214 26 = 0 := by
      have a1 : (0 : Int) ≤ g 214 26 := wb.1
      have a2 : g 214 26 ≤ 0 := wb.2
      omega
    have c2 : g 214 27 ≤ 400 := (B 214 27).2
    have ce : g 214 27 = g0 214 27 := by rw [F 214 (by decide) (by decide)]
    unfold w_M_takesLaw_l107
    refine ⟨⟨by omega, by omega⟩, ⟨by omega, by omega⟩, fun h => ?_, fun h => ⟨⟨by omega, by omega⟩, ⟨by omega, by omega⟩, ?_⟩⟩
    · have e : l2 = g0 214 27 := by omega
      rw [e] at R1 R2
      exact hK g B F R1 R2
    · intro g18 e18
      have w5 : g18 214 26 = 0 := by rw [e18, zi_u_ne (by decide)]; exact wz
      refine ⟨⟨by omega, by omega⟩, ?_⟩
      intro g20 e20
      rw [wz, Int.mul_zero, Int.zero_add] at e18
      rw [w5, Int.mul_zero, Int.zero_add] at e20
      have B18 : zk_b g18 := by rw [e18]; exact zk_updb (L := -2147483648) (H := 2147483647) rfl rfl B (B 229 (800 + l2))
      have B20 : zk_b g20 := by rw [e20]; exact zk_updb (L := -2147483648) (H := 2147483647) rfl rfl B18 (B18 230 (800 + l2))
      refine k_M_takesLaw_l107 hK n (l2 + 1) g20 (by omega) (by omega) B20 (fun a h1 h2 => ?_) ?_ ?_ (by omega)
      · rw [e20, zi_u_row h2, e18, zi_u_row h1]
        exact F a h1 h2
      · exact zR_n (zR_s R1 h0 (by omega) e18) (by decide) e20
      · exact zR_s (zR_n R2 (by decide) e18) h0 (by omega) e20
theorem k_M_takesLaw {l1 : Int} {g : zi_M} {Q : Int → zi_M → Prop} (I : zk_I g) (p1 : 0 ≤ l1 ∧ l1 ≤ 16) (px0 : zLd g l1) (hQ : ∀ g' : zi_M, zk_I g' → zk_fr fr_M_takesLaw g g' → (zlrT l1 g g') → Q 0 g') : w_M_takesLaw l1 g Q := by
  unfold w_M_takesLaw
  refine ⟨17, k_M_takesLaw_l2 p1 (fun g13 B13 F13 R0 R1 R2 R3 => ?_) 17 0 g (by omega) (by omega) I.1 (fun _ _ _ _ _ => rfl) (zR_0 _ _ _) (zR_0 _ _ _) (zR_0 _ _ _) (zR_0 _ _ _) (by omega)⟩
  have c0 : 0 ≤ g13 214 27 := (B13 214 27).1
  have c2 : g13 214 27 ≤ 400 := (B13 214 27).2
  have ce : g13 214 27 = g 214 27 := by rw [F13 214 (by decide) (by decide) (by decide) (by decide)]
  refine ⟨401, k_M_takesLaw_l107 (fun g22 B22 F22 R4 R5 => ?_) 401 0 g13 (by omega) c0 B13 (fun _ _ _ => rfl) (zR_0 _ _ _) (zR_0 _ _ _) (by omega)⟩
  have wb := B22 214 26
  have wz : g22 214 26 = 0 := by
    have a1 : (0 : Int) ≤ g22 214 26 := wb.1
    have a2 : g22 214 26 ≤ 0 := wb.2
    omega
  refine ⟨⟨by omega, by omega⟩, ?_⟩
  intro g24 e24
  rw [wz] at e24
  have FF : ∀ a, a ≠ 224 → a ≠ 225 → a ≠ 226 → a ≠ 227 → a ≠ 228 → a ≠ 229 → a ≠ 230 → g24 a = g a := by
    intro a h0 h1 h2 h3 h4 h5 h6
    rw [e24, zi_u_row h0, F22 a h5 h6, F13 a h1 h2 h3 h4]
  have m24 : g24 224 0 = l1 := by rw [e24, zi_u_eq]
  have a1 : ∀ l : Int, 0 ≤ l → l < l1 → g24 226 l = g 226 (32 + l) := fun l l0 ll => by rw [e24, zi_u_ne (by decide), F22 226 (by decide) (by decide)]; exact zR_p R1 l0 ll
  have a2 : ∀ l : Int, 0 ≤ l → l < l1 → g24 227 l = g 227 (32 + l) := fun l l0 ll => by rw [e24, zi_u_ne (by decide), F22 227 (by decide) (by decide)]; exact zR_p R2 l0 ll
  have a3 : ∀ l : Int, 0 ≤ l → l < l1 → g24 228 l = g 228 (32 + l) := fun l l0 ll => by rw [e24, zi_u_ne (by decide), F22 228 (by decide) (by decide)]; exact zR_p R3 l0 ll
  have a0 : ∀ l : Int, 0 ≤ l → l < l1 → g24 225 l = g 225 (32 + l) := fun l l0 ll => by rw [e24, zi_u_ne (by decide), F22 225 (by decide) (by decide)]; exact zR_p R0 l0 ll
  have ao : ∀ i, 0 ≤ i → i < g 214 27 → g24 229 i = g 229 (800 + i) := fun i i0 i1 => by
    rw [e24, zi_u_ne (by decide), zR_p R4 i0 (by omega), F13 229 (by decide) (by decide) (by decide) (by decide)]
  have aa : ∀ i, 0 ≤ i → i < g 214 27 → g24 230 i = g 230 (800 + i) := fun i i0 i1 => by
    rw [e24, zi_u_ne (by decide), zR_p R5 i0 (by omega), F13 230 (by decide) (by decide) (by decide) (by decide)]
  refine hQ g24 ⟨by rw [e24]; exact zk_updb (L := 0) (H := 16) rfl rfl B22 ⟨p1.1, p1.2⟩, ?_⟩ (fun a i ha => by rw [FF a (fun e => ha (Or.inl e)) (fun e => ha (Or.inr (Or.inl e))) (fun e => ha (Or.inr (Or.inr (Or.inl e)))) (fun e => ha (Or.inr (Or.inr (Or.inr (Or.inl e))))) (fun e => ha (Or.inr (Or.inr (Or.inr (Or.inr (Or.inl e)))))) (fun e => ha (Or.inr (Or.inr (Or.inr (Or.inr (Or.inr (Or.inl e))))))) (fun e => ha (Or.inr (Or.inr (Or.inr (Or.inr (Or.inr (Or.inr e)))))))]) ⟨m24, fun i i0 i1 => ⟨a0 i i0 i1, a1 i i0 i1, a2 i i0 i1, a3 i i0 i1⟩, fun i i0 i1 => ⟨ao i i0 i1, aa i i0 i1⟩⟩
  obtain ⟨h1, h2, h3, h4, h5, h6⟩ := I.2
  refine ⟨?_, by rw [FF 234 (by decide) (by decide) (by decide) (by decide) (by decide) (by decide) (by decide)]; exact h2, by rw [FF 244 (by decide) (by decide) (by decide) (by decide) (by decide) (by decide) (by decide)]; exact h3, by rw [FF 250 (by decide) (by decide) (by decide) (by decide) (by decide) (by decide) (by decide)]; exact h4, by rw [FF 250 (by decide) (by decide) (by decide) (by decide) (by decide) (by decide) (by decide)]; exact h5, by rw [FF 250 (by decide) (by decide) (by decide) (by decide) (by decide) (by decide) (by decide)]; exact h6⟩
  rw [m24]
  intro l l0 ll
  obtain ⟨⟨b1, b2, b3, b4⟩, s1, s2⟩ := px0 l l0 ll
  rw [a1 l l0 ll, a2 l l0 ll, a3 l l0 ll]
  refine ⟨⟨b1, b2, b3, by omega⟩, ?_, ?_⟩
  · exact zj_segc s1 (fun k k1 k2 => ao k (by omega) (by omega)) (fun k k1 k2 => aa k (by omega) (by omega))
  · exact zj_segc s2 (fun k k1 k2 => ao k (by omega) (by omega)) (fun k k1 k2 => aa k (by omega) (by omega))

