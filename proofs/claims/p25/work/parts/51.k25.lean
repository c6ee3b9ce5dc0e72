-- by program (wip/gen/mkz.py)
-- SpoutNewsModel.readNumber(II)I
theorem k_M_readNumber {l1 : Int} {l2 : Int} {g : zi_M} {Q : Int → zi_M → Prop} (I : zk_I g) (p1 : 0 ≤ l1 ∧ l1 ≤ 0) (p2 : (-1) ≤ l2 ∧ l2 ≤ 999) (px0 : g 214 14 ≤ g 214 13) (px1 : g 214 15 ≤ g 214 14) (px2 : zt3 g) (hQ : ∀ (v : Int) (g' : zi_M), zk_I g' → zk_fr fr_M_readNumber g g' → ((-1) ≤ v ∧ v ≤ 100000) → (¬ v = -1 → l1 ≤ v ∧ v ≤ l2) → (g' 214 14 ≤ g' 214 13) → (g' 214 15 ≤ g' 214 14) → (zt3 g') → (g 214 15 ≤ g' 214 15) → (∀ (r : Nat) (T : zyT) (t : Int), zs_str r → zyR r T g t → zyE T → zyQ r T g' t (zyN T (l2 + 1) t) ∧ (zyN T (l2 + 1) t = 0 → v = T.2.1 t) ∧ (¬ zyN T (l2 + 1) t = 0 → v = -1)) → Q v g') : w_M_readNumber l1 l2 g Q := by
  unfold w_M_readNumber
  have b16 : 0 ≤ g 214 16 ∧ g 214 16 ≤ 4 := I.1 214 16
  have b17 : -1 ≤ g 214 17 ∧ g 214 17 ≤ 100000 := I.1 214 17
  have er : ∀ e : Int, 1 ≤ e → e ≤ 2 → (∀ (r : Nat) (T : zyT) (t : Int), zs_str r → zyR r T g t → zyE T → zyN T (l2 + 1) t = e) → w_M_errs e g (fun v g' => Q v g') := by
    intro e h1 h2 hz
    refine k_M_errs I ⟨h1, by omega⟩ (fun v g' I' F' c d x => ?_)
    have k13 : g' 214 13 = g 214 13 := F' 214 13 (by unfold fr_M_errs; omega)
    have k14 : g' 214 14 = g 214 14 := F' 214 14 (by unfold fr_M_errs; omega)
    have k15 : g' 214 15 = g 214 15 := F' 214 15 (by unfold fr_M_errs; omega)
    refine hQ v g' I' (zk_ft (zk_f0 _) F' (fun a i h => by unfold fr_M_errs at h; unfold fr_M_readNumber; omega)) ⟨by omega, by omega⟩ (fun n => by omega) (by omega) (by omega) (d px2) (by omega) (fun r T t hr h hE => ?_)
    rw [hz r T t hr h hE]
    exact ⟨⟨fun q => by omega, fun _ => x r T t h⟩, fun q => by omega, fun _ => by omega⟩
  refine ⟨⟨by omega, by omega⟩, fun e3 => ?_, fun n3 => er 1 (by decide) (by decide) (fun r T t hr h hE => zyN_1 (fun q => n3 ((zyR_k hr h).2.1.2 q)))⟩
  refine k_M_isIn I ⟨by omega, by omega⟩ ⟨by omega, by omega⟩ ⟨by omega, by omega⟩ (fun v2 a1 a2 a3 => ⟨fun ne => ?_, fun e => er 2 (by decide) (by decide) (fun r T t hr h hE => ?_)⟩)
  · refine k_M_reads I (by omega) (fun g6 I6 F6 c1 c2 c3 c4 c5 => ?_)
    have k13 : g6 214 13 = g 214 13 := F6 214 13 (by unfold fr_M_reads; omega)
    refine hQ _ g6 I6 (zk_ft (zk_f0 _) F6 (fun a i h => by unfold fr_M_reads at h; unfold fr_M_readNumber; omega)) ⟨by omega, by omega⟩ (by omega) (by omega) (by omega) c4 (by omega) (fun r T t hr h hE => ?_)
    have kk := zyR_k hr h
    have k1 := kk.2.1.1 e3
    have kv := kk.2.2.2.1 (Or.inl e3)
    have z : zyN T (l2 + 1) t = 0 := zyN_0.2 ⟨k1, by omega⟩
    rw [z]
    exact ⟨⟨fun _ => zyR_n h F6 c5 (zyE_lt hE h.2.1.2 (by omega)), fun q => absurd rfl q⟩, fun _ => kv, fun q => absurd rfl q⟩
  · have kk := zyR_k hr h
    have k1 := kk.2.1.1 e3
    have kv := kk.2.2.2.1 (Or.inl e3)
    have := hE.2.2.2 t h.2.1.1 h.2.1.2 k1
    exact zyN_2 k1 (by omega)

-- SpoutNewsModel.readTold(III)I
theorem k_M_readTold {l1 : Int} {l2 : Int} {l3 : Int} {g : zi_M} {Q : Int → zi_M → Prop} (I : zk_I g) (p1 : 11 ≤ l1 ∧ l1 ≤ 20) (p2 : 0 ≤ l2 ∧ l2 ≤ 0) (p3 : (-1) ≤ l3 ∧ l3 ≤ 999) (px0 : g 214 14 ≤ g 214 13) (px1 : g 214 15 ≤ g 214 14) (px2 : zt3 g) (hQ : ∀ (v : Int) (g' : zi_M), zk_I g' → zk_fr fr_M_readTold g g' → ((-1) ≤ v ∧ v ≤ 100000) → (¬ v = -1 → l2 ≤ v ∧ v ≤ l3) → (g' 214 14 ≤ g' 214 13) → (g' 214 15 ≤ g' 214 14) → (zt3 g') → (g 214 15 ≤ g' 214 15) → (∀ (r : Nat) (T : zyT) (t j : Int), zs_str r → 0 ≤ j → j < zkN r → l1 = zmp r j → zyR r T g t → zyE T → (¬ zyK T 2 j t = 0 → v = -1 ∧ zyG T g' (zyK T 2 j t) t) ∧ (zyK T 2 j t = 0 → zyQ r T g' (t + 1) (zyN T (l3 + 1) (t + 1)) ∧ (zyN T (l3 + 1) (t + 1) = 0 → v = T.2.1 (t + 1)) ∧ (¬ zyN T (l3 + 1) (t + 1) = 0 → v = -1))) → Q v g') : w_M_readTold l1 l2 l3 g Q := by
  unfold w_M_readTold
  have b16 : 0 ≤ g 214 16 ∧ g 214 16 ≤ 4 := I.1 214 16
  have b17 : -1 ≤ g 214 17 ∧ g 214 17 ≤ 100000 := I.1 214 17
  refine k_M_isWord I ⟨by omega, by omega⟩ (fun v1 a1 a2 a3 => ⟨fun ne => ?_, fun e => ?_⟩)
  · have w2 : g 214 16 = 2 ∧ g 214 17 = l1 := by omega
    refine k_M_reads I (by omega) (fun g5 I5 F5 c1 c2 c3 c4 c5 => ?_)
    have k13 : g5 214 13 = g 214 13 := F5 214 13 (by unfold fr_M_reads; omega)
    refine k_M_readNumber I5 ⟨by omega, by omega⟩ ⟨by omega, by omega⟩ (by omega) (by omega) c4 (fun v7 g8 I8 F8 d1 d2 d3 d4 d5 d6 x => ?_)
    refine hQ v7 g8 I8 (zk_ft (zk_ft (zk_f0 _) F5 (fun a i h => by unfold fr_M_reads at h; unfold fr_M_readTold; omega)) F8 (fun a i h => h)) ⟨by omega, by omega⟩ (by omega) (by omega) (by omega) d5 (by omega) (fun r T t j hr j0 j1 ej h hE => ?_)
    have k := (zyR_w hr h ⟨j0, j1⟩ ej).1 w2
    have R5 := zyR_n h F5 c5 (zyE_lt hE h.2.1.2 (by omega))
    exact ⟨fun q => absurd (zyK_0.2 k) q, fun _ => x r T (t + 1) hr R5 hE⟩
  · refine k_M_errs I ⟨by decide, by decide⟩ (fun v g' I' F' c d x => ?_)
    have k13 : g' 214 13 = g 214 13 := F' 214 13 (by unfold fr_M_errs; omega)
    have k14 : g' 214 14 = g 214 14 := F' 214 14 (by unfold fr_M_errs; omega)
    have k15 : g' 214 15 = g 214 15 := F' 214 15 (by unfold fr_M_errs; omega)
    refine hQ v g' I' (zk_ft (zk_f0 _) F' (fun a i h => by unfold fr_M_errs at h; unfold fr_M_readTold; omega)) ⟨by omega, by omega⟩ (fun n => by omega) (by omega) (by omega) (d px2) (by omega) (fun r T t j hr j0 j1 ej h hE => ?_)
    have z : zyK T 2 j t = 1 := zyK_1 (fun q => by
      have k := (zyR_w hr h ⟨j0, j1⟩ ej).2 q
      omega)
    rw [z]
    exact ⟨fun _ => ⟨by omega, x r T t h⟩, fun q => absurd q (by decide)⟩

-- SpoutNewsModel.kindOfDeed()I
set_option maxRecDepth 100000 in
set_option maxHeartbeats 4000000 in
theorem k_M_kindOfDeed {g : zi_M} {Q : Int → zi_M → Prop} (I : zk_I g) (px0 : zt3 g) (hQ : ∀ v : Int, ((-1) ≤ v ∧ v ≤ 6) → (g 214 16 = 2 → g 214 17 = 19 → v = 0) → (g 214 16 = 2 → 21 ≤ g 214 17 → g 214 17 ≤ 26 → v = g 214 17 - 20) → (¬ g 214 16 = 2 ∨ (¬ g 214 17 = 19 ∧ (g 214 17 < 21 ∨ 26 < g 214 17)) → v = -1) → Q v g) : w_M_kindOfDeed g Q := by
  unfold w_M_kindOfDeed
  have m_4 : 0 ≤ (g 214 16) ∧ (g 214 16) ≤ 4 := I.1 214 16
  have m_5 : (-1) ≤ (g 214 17) ∧ (g 214 17) ≤ 100000 := I.1 214 17
  refine k_M_isWord I ⟨by omega, by omega⟩ (fun v1 b_1 b_2 b_3 => ?_)
  refine ⟨fun c10 => ?_, fun c10 => ?_⟩
  · refine ⟨⟨by omega, by omega⟩, ?_⟩
    refine ⟨fun c9 => ?_, fun c9 => ?_⟩
    · exact hQ _ ⟨by omega, by omega⟩ (by omega) (by omega) (by omega)
    · refine k_M_isIn I ⟨by omega, by omega⟩ ⟨by omega, by omega⟩ ⟨by omega, by omega⟩ (fun v5 b_6 b_7 b_8 => ?_)
      refine ⟨fun c8 => ?_, fun c8 => ?_⟩
      · exact hQ _ ⟨by omega, by omega⟩ (by omega) (by omega) (by omega)
      · exact hQ _ ⟨by omega, by omega⟩ (by omega) (by omega) (by omega)
  · exact hQ _ ⟨by omega, by omega⟩ (by omega) (by omega) (by omega)
-- SpoutNewsModel.mostFor(I)I
set_option maxRecDepth 100000 in
set_option maxHeartbeats 4000000 in
theorem k_M_mostFor {l1 : Int} {g : zi_M} {Q : Int → zi_M → Prop} (I : zk_I g) (p1 : 0 ≤ l1 ∧ l1 ≤ 6) (hQ : ∀ v : Int, (¬ l1 = 2 → l1 < 3 → v = (g 214 7) - 1) → (¬ l1 = 2 → 3 ≤ l1 → 5 < l1 → v = (g 214 7) - 1) → (¬ l1 = 2 → 3 ≤ l1 → l1 ≤ 5 → v = (g 214 6) - 1) → (l1 = 2 → v = 5) → Q v g) : w_M_mostFor l1 g Q := by
  unfold w_M_mostFor
  refine ⟨⟨by omega, by omega⟩, ?_⟩
  refine ⟨fun c4 => ?_, fun c4 => ?_⟩
  · refine ⟨fun c3 => ?_, fun c3 => ?_⟩
    · have m_1 : 0 ≤ (g 214 7) ∧ (g 214 7) ≤ 8 := I.1 214 7
      have m_2 : 0 ≤ (g 214 6) ∧ (g 214 6) ≤ 10 := I.1 214 6
      exact hQ _ (by intros; omega) (by intros; omega) (by intros; omega) (by intros; omega)
    · refine ⟨fun c2 => ?_, fun c2 => ?_⟩
      · have m_3 : 0 ≤ (g 214 7) ∧ (g 214 7) ≤ 8 := I.1 214 7
        have m_4 : 0 ≤ (g 214 6) ∧ (g 214 6) ≤ 10 := I.1 214 6
        exact hQ _ (by intros; omega) (by intros; omega) (by intros; omega) (by intros; omega)
      · have m_5 : 0 ≤ (g 214 6) ∧ (g 214 6) ≤ 10 := I.1 214 6
        have m_6 : 0 ≤ (g 214 7) ∧ (g 214 7) ≤ 8 := I.1 214 7
        exact hQ _ (by intros; omega) (by intros; omega) (by intros; omega) (by intros; omega)
  · have m_7 : 0 ≤ (g 214 7) ∧ (g 214 7) ≤ 8 := I.1 214 7
    have m_8 : 0 ≤ (g 214 6) ∧ (g 214 6) ≤ 10 := I.1 214 6
    exact hQ _ (by intros; omega) (by intros; omega) (by intros; omega) (by intros; omega)
-- SpoutNewsModel.readMark(I)I
theorem k_M_readMark {l1 : Int} {g : zi_M} {Q : Int → zi_M → Prop} (I : zk_I g) (p1 : 59 ≤ l1 ∧ l1 ≤ 59) (px0 : g 214 14 ≤ g 214 13) (px1 : g 214 15 ≤ g 214 14) (px2 : zt3 g) (hQ : ∀ (v : Int) (g' : zi_M), zk_I g' → zk_fr fr_M_readMark g g' → ((-1) ≤ v ∧ v ≤ 0) → (g' 214 14 ≤ g' 214 13) → (g' 214 15 ≤ g' 214 14) → (zt3 g') → (g 214 15 ≤ g' 214 15) → (∀ (r : Nat) (T : zyT) (t : Int), zs_str r → zyR r T g t → zyE T → zyQ r T g' t (zyK T 3 l1 t) ∧ (zyK T 3 l1 t = 0 → v = 0) ∧ (¬ zyK T 3 l1 t = 0 → v = -1)) → Q v g') : w_M_readMark l1 g Q := by
  unfold w_M_readMark
  have b16 : 0 ≤ g 214 16 ∧ g 214 16 ≤ 4 := I.1 214 16
  have b17 : -1 ≤ g 214 17 ∧ g 214 17 ≤ 100000 := I.1 214 17
  refine k_M_isSign I ⟨by omega, by omega⟩ (fun v1 a1 a2 a3 => ⟨fun ne => ?_, fun e => ?_⟩)
  · refine k_M_reads I (by omega) (fun g6 I6 F6 c1 c2 c3 c4 c5 => ?_)
    have k13 : g6 214 13 = g 214 13 := F6 214 13 (by unfold fr_M_reads; omega)
    refine hQ 0 g6 I6 (zk_ft (zk_f0 _) F6 (fun a i h => by unfold fr_M_reads at h; unfold fr_M_readMark; omega)) ⟨by omega, by omega⟩ (by omega) (by omega) c4 (by omega) (fun r T t hr h hE => ?_)
    have kk := zyR_k hr h
    have e4 : g 214 16 = 4 := by omega
    have k1 := kk.2.2.1.1 e4
    have kv := kk.2.2.2.1 (Or.inr e4)
    have z : zyK T 3 l1 t = 0 := zyK_0.2 ⟨k1, by omega⟩
    rw [z]
    exact ⟨⟨fun _ => zyR_n h F6 c5 (zyE_lt hE h.2.1.2 (by omega)), fun q => absurd rfl q⟩, fun _ => rfl, fun q => absurd rfl q⟩
  · refine k_M_errs I ⟨by decide, by decide⟩ (fun v g' I' F' c d x => ?_)
    have k13 : g' 214 13 = g 214 13 := F' 214 13 (by unfold fr_M_errs; omega)
    have k14 : g' 214 14 = g 214 14 := F' 214 14 (by unfold fr_M_errs; omega)
    have k15 : g' 214 15 = g 214 15 := F' 214 15 (by unfold fr_M_errs; omega)
    refine hQ v g' I' (zk_ft (zk_f0 _) F' (fun a i h => by unfold fr_M_errs at h; unfold fr_M_readMark; omega)) ⟨by omega, by omega⟩ (by omega) (by omega) (d px2) (by omega) (fun r T t hr h hE => ?_)
    have z : zyK T 3 l1 t = 1 := zyK_1 (fun q => by
      have kk := zyR_k hr h
      have e4 := kk.2.2.1.2 q.1
      have kv := kk.2.2.2.1 (Or.inr e4)
      omega)
    rw [z]
    exact ⟨⟨fun q => absurd q (by decide), fun _ => x r T t h⟩, fun q => absurd q (by decide), fun _ => by omega⟩

-- SpoutNewsModel.readDeed(I)I
theorem k_M_readDeed {l1 : Int} {g : zi_M} {Q : Int → zi_M → Prop} (I : zk_I g) (p1 : 64 ≤ l1 ∧ l1 ≤ 124) (px0 : g 214 14 ≤ g 214 13) (px1 : g 214 15 ≤ g 214 14) (px2 : zt3 g) (hQ : ∀ (v : Int) (g' : zi_M), zk_I g' → zk_fr fr_M_readDeed g g' → ((-1) ≤ v ∧ v ≤ 0) → (g' 214 14 ≤ g' 214 13) → (g' 214 15 ≤ g' 214 14) → (zt3 g') → (g 214 15 ≤ g' 214 15) → (¬ v = -1 → zj_deed (g' 234 (l1 + 1)) (g' 234 (l1 + 2)) (g' 234 (l1 + 3))) → (∀ i : Int, i < l1 → g' 234 i = g 234 i) → (∀ (T : zyT) (n : Int), zyDp T g n → zyDm T (g 214 6) (g 214 7) g' l1 n v) → Q v g') : w_M_readDeed l1 g Q := by
  have hr : zs_str 1000000004 := rfl
  have z4 := zyk4
  have b6 : 0 ≤ g 214 6 ∧ g 214 6 ≤ 10 := I.1 214 6
  have b7 : 0 ≤ g 214 7 ∧ g 214 7 ≤ 8 := I.1 214 7
  have sT : ∀ a i, fr_M_readTold a i → fr_M_readDeed a i := fun a i h => by unfold fr_M_readTold at h; unfold fr_M_readDeed; omega
  have sN : ∀ a i, fr_M_readNumber a i → fr_M_readDeed a i := fun a i h => by unfold fr_M_readNumber at h; unfold fr_M_readDeed; omega
  have sM : ∀ a i, fr_M_readMark a i → fr_M_readDeed a i := fun a i h => by unfold fr_M_readMark at h; unfold fr_M_readDeed; omega
  have sR : ∀ a i, fr_M_reads a i → fr_M_readDeed a i := fun a i h => by unfold fr_M_reads at h; unfold fr_M_readDeed; omega
  have sE : ∀ a i, fr_M_errs a i → fr_M_readDeed a i := fun a i h => by unfold fr_M_errs at h; unfold fr_M_readDeed; omega
  have bad : ∀ (v : Int) (x : zi_M), v = -1 → zk_I x → zk_fr fr_M_readDeed g x → (x 214 14 ≤ x 214 13 ∧ x 214 15 ≤ x 214 14 ∧ zt3 x ∧ g 214 15 ≤ x 214 15) → (∀ i : Int, i < l1 → x 234 i = g 234 i) → (∀ (T : zyT) (n : Int), zyDp T g n → zyDf T (g 214 6) (g 214 7) n 1 (zyG T x)) → Q v x := fun v x e Ix Fx tx rx hp => hQ v x Ix Fx ⟨by omega, by omega⟩ tx.1 tx.2.1 tx.2.2.1 tx.2.2.2 (fun q => absurd e q) rx (fun T n h => Or.inl ⟨e, hp T n h⟩)
  have st : ∀ {x y : zi_M} {i v : Int}, y = zi_u x 234 i v → (x 214 14 ≤ x 214 13 ∧ x 214 15 ≤ x 214 14 ∧ zt3 x ∧ g 214 15 ≤ x 214 15) → (y 214 14 ≤ y 214 13 ∧ y 214 15 ≤ y 214 14 ∧ zt3 y ∧ g 214 15 ≤ y 214 15) := fun {x y i v} e tx => by
    have e' : ∀ k : Int, y 214 k = x 214 k := fun k => by rw [e]; exact zi_u_ne (by decide)
    rw [e', e', e']
    exact ⟨tx.1, tx.2.1, zt3_e tx.2.2.1 (e' _) (e' _) (e' _) (e' _), tx.2.2.2⟩
  have zG : ∀ {x y : zi_M} {i v : Int} {T : zyT} {n : Int}, y = zi_u x 234 i v → zyDf T (g 214 6) (g 214 7) n 1 (zyG T x) → zyDf T (g 214 6) (g 214 7) n 1 (zyG T y) := fun {x y i v T n} e h => by
    have e' : ∀ k : Int, y 214 k = x 214 k := fun k => by rw [e]; exact zi_u_ne (by decide)
    obtain ⟨o, o1, o2, o3, o4⟩ := h
    exact ⟨o, o1, o2, o3, by rw [e']; exact o4.1, by rw [e']; exact o4.2⟩
  -- what a line is worth from its mark on
  have mark : ∀ (x : zi_M) (d w b : Int), zk_I x → zk_fr fr_M_readDeed g x → (x 214 14 ≤ x 214 13 ∧ x 214 15 ≤ x 214 14 ∧ zt3 x ∧ g 214 15 ≤ x 214 15) → (∀ i : Int, i < l1 → x 234 i = g 234 i) → (x 234 (l1 + 1) = d ∧ x 234 (l1 + 2) = w ∧ x 234 (l1 + 3) = b) → zj_deed d w b → (∀ (T : zyT) (n : Int), zyDp T g n → (∀ k : Int, 1 ≤ k → k < zyPl (T.2.1 (zyPP T n + 2)) - 1 → zyPg T (g 214 6) (g 214 7) n (zyPP T n) k = 0) ∧ zyR 1000000004 T x (zyPP T n + (zyPl (T.2.1 (zyPP T n + 2)) - 1)) ∧ x 234 l1 = T.2.1 (zyPP T n + 1) ∧ d = T.2.1 (zyPP T n + 2) ∧ w = T.2.1 (zyPP T n + 3) ∧ b = zyPx T (zyPP T n)) → w_M_readMark 59 x (fun v g' => Q v g') := by
    intro x d w b Ix Fx tx rx hx hj hp
    refine k_M_readMark Ix ⟨by decide, by decide⟩ tx.1 tx.2.1 tx.2.2.1 (fun v g' I' F' c1 c2 c3 c4 c5 y => ?_)
    have r' : ∀ i : Int, g' 234 i = x 234 i := fun i => F' 234 i (by unfold fr_M_readMark; omega)
    refine hQ v g' I' (zk_ft Fx F' sM) c1 c2 c3 c4 (by omega) (fun _ => by rw [r', r', r', hx.1, hx.2.1, hx.2.2]; exact hj) (fun i hi => by rw [r']; exact rx i hi) (fun T n h => ?_)
    obtain ⟨h1, h2, h3, h4, h5, h6⟩ := hp T n h
    have u := y 1000000004 T _ hr h2 h.2.1
    rw [← zyPg_l (sp := g 214 6) (si := g 214 7) (n := n)] at u
    have b := zyPl_b (T.2.1 (zyPP T n + 2))
    by_cases z : zyPg T (g 214 6) (g 214 7) n (zyPP T n) (zyPl (T.2.1 (zyPP T n + 2)) - 1) = 0
    · have R := u.1.1 z
      rw [show zyPP T n + (zyPl (T.2.1 (zyPP T n + 2)) - 1) + 1 = zyPP T n + zyPl (T.2.1 (zyPP T n + 2)) by omega] at R
      refine Or.inr ⟨u.2.1 z, zyZ_2 h1 (by omega) z, R, ?_, ?_, ?_, ?_⟩
      · rw [r']; exact h3
      · rw [r', hx.1]; exact h4
      · rw [r', hx.2.1]; exact h5
      · rw [r', hx.2.2]; exact h6
    · exact Or.inl ⟨u.2.2 z, zyDf_o (o := zyPl (T.2.1 (zyPP T n + 2)) - 1) ⟨by omega, by omega⟩ h1 z (u.1.2 z)⟩
  unfold w_M_readDeed
  refine k_M_readTold I ⟨by decide, by decide⟩ ⟨by decide, by decide⟩ ⟨by decide, by decide⟩ px0 px1 px2 (fun v1 g2 I2 F2 c1 c2 c3 c4 c5 c6 y2 => ⟨⟨by omega, by omega⟩, ?_⟩)
  intro g5 e5
  have G2 : zk_fr fr_M_readDeed g g2 := zk_ft (zk_f0 _) F2 sT
  have I5 : zk_I g5 := by rw [e5]; exact zk_u234 I2 (by omega) ⟨by omega, by omega⟩
  have G5 : zk_fr fr_M_readDeed g g5 := by rw [e5]; exact zk_fu G2 (Or.inl rfl)
  have t5 := st e5 ⟨c3, c4, c5, c6⟩
  have r5 : ∀ i : Int, i < l1 → g5 234 i = g 234 i := fun i hi => by rw [e5, zi_u_ni (by omega), F2 234 i (by unfold fr_M_readTold; omega)]
  have v5 : g5 234 l1 = v1 := by rw [e5, zi_u_eq]
  have L2 : ∀ (T : zyT) (n : Int), zyDp T g n → zyQ 1000000004 T g2 (zyPP T n + 1) (zyPg T (g 214 6) (g 214 7) n (zyPP T n) 1) ∧ (zyPg T (g 214 6) (g 214 7) n (zyPP T n) 1 = 0 → v1 = T.2.1 (zyPP T n + 1)) ∧ (¬ zyPg T (g 214 6) (g 214 7) n (zyPP T n) 1 = 0 → v1 = -1) := fun T n h => by
    have u := (y2 1000000004 T _ 7 hr (by decide) (by omega) z4.2.2.1.symm h.1 h.2.1).2 (zyK_0.2 h.2.2.2)
    rw [show (999 : Int) + 1 = 1000 from rfl, ← zyPg_1 (sp := g 214 6) (si := g 214 7) (n := n)] at u
    exact u
  have N2 : ∀ (T : zyT) (n : Int), zyDp T g n → (v1 = -1 → ¬ zyPg T (g 214 6) (g 214 7) n (zyPP T n) 1 = 0) := fun T n h e q => by
    have u := L2 T n h
    have v := u.2.1 q
    have k := zyN_0.1 (zyPg_1.symm.trans q)
    have := h.2.1.2.2.2 (zyPP T n + 1) (by have := zyPP_b (T := T) (n := n); omega) (by have := (u.1.1 q).2.1.2; omega) k.1
    omega
  rw [v5]
  refine ⟨⟨by omega, by omega⟩, fun ne1 => ?_, fun e1 => ?_⟩
  · have L5 : ∀ (T : zyT) (n : Int), zyDp T g n → zyPg T (g 214 6) (g 214 7) n (zyPP T n) 1 = 0 ∧ v1 = T.2.1 (zyPP T n + 1) ∧ zyR 1000000004 T g5 (zyPP T n + 2) := fun T n h => by
      have u := L2 T n h
      have z : zyPg T (g 214 6) (g 214 7) n (zyPP T n) 1 = 0 := Classical.byContradiction (fun q => ne1 (u.2.2 q))
      have R := zyR_u (u.1.1 z) e5 ⟨by decide, by decide⟩
      rw [show zyPP T n + 1 + 1 = zyPP T n + 2 by omega] at R
      exact ⟨z, u.2.1 z, R⟩
    have b16 : 0 ≤ g5 214 16 ∧ g5 214 16 ≤ 4 := I5.1 214 16
    refine k_M_kindOfDeed I5 t5.2.2.1 (fun v7 d1 d2 d3 d4 => ⟨⟨by omega, by omega⟩, fun ne7 => ?_, fun e7 => ?_⟩)
    · refine k_M_reads I5 t5.1 (fun g12 I12 F12 f1 f2 f3 f4 f5 => ⟨⟨by omega, by omega⟩, ?_⟩)
      have G12 := zk_ft G5 F12 sR
      have L12 : ∀ (T : zyT) (n : Int), zyDp T g n → v7 = T.2.1 (zyPP T n + 2) ∧ (0 ≤ v7 ∧ v7 ≤ 6) ∧ (∀ k : Int, 1 ≤ k → k < 3 → zyPg T (g 214 6) (g 214 7) n (zyPP T n) k = 0) ∧ v1 = T.2.1 (zyPP T n + 1) ∧ zyR 1000000004 T g12 (zyPP T n + 3) := fun T n h => by
        obtain ⟨h1, h2, h3⟩ := L5 T n h
        have k := (zyR_d h3 b16 d2 d3 d4).1 ne7
        have R := zyR_n h3 F12 f5 (zyE_lt h.2.1 h3.2.1.2 (by omega))
        rw [show zyPP T n + 2 + 1 = zyPP T n + 3 by omega] at R
        exact ⟨k.2.1.symm, ⟨by omega, by omega⟩, zyZ_2 (zyZ_2 zyZ_0 (by decide) h1) (by decide) (zyPg_2 ⟨k.1, by omega, by omega⟩), h2, R⟩
      have c7 : 0 ≤ v7 ∧ v7 ≤ 6 := by omega
      intro g15 e15
      have k13 : g12 214 13 = g5 214 13 := F12 214 13 (by unfold fr_M_reads; omega)
      have I15 : zk_I g15 := by rw [e15]; exact zk_u234 I12 (by omega) ⟨by omega, by omega⟩
      have G15 : zk_fr fr_M_readDeed g g15 := by rw [e15]; exact zk_fu G12 (Or.inl rfl)
      have t15 := st e15 ⟨by omega, f3, f4, by have := t5.2.1; have := t5.2.2.2; omega⟩
      have m6 : g15 214 6 = g 214 6 := by rw [e15, zi_u_ne (by decide), F12 214 6 (by unfold fr_M_reads; omega), e5, zi_u_ne (by decide), F2 214 6 (by unfold fr_M_readTold; omega)]
      have m7 : g15 214 7 = g 214 7 := by rw [e15, zi_u_ne (by decide), F12 214 7 (by unfold fr_M_reads; omega), e5, zi_u_ne (by decide), F2 214 7 (by unfold fr_M_readTold; omega)]
      have r15 : ∀ i : Int, ¬ i = l1 + 1 → g15 234 i = g5 234 i := fun i hi => by rw [e15, zi_u_ni hi, F12 234 i (by unfold fr_M_reads; omega)]
      refine k_M_mostFor I15 c7 (fun v16 h1 h2 h3 h4 => ?_)
      have cw : v16 + 1 = zCw (g 214 6) (g 214 7) v7 := by
        have f := zCw_f (g 214 6) (g 214 7) v7
        omega
      have b16' : -1 ≤ v16 ∧ v16 ≤ 9 := by omega
      refine k_M_readNumber I15 ⟨by decide, by decide⟩ ⟨by omega, by omega⟩ t15.1 t15.2.1 t15.2.2.1 (fun v19 g20 I20 F20 j1 j2 j3 j4 j5 j6 y20 => ⟨⟨by omega, by omega⟩, ?_⟩)
      have G20 := zk_ft G15 F20 sN
      intro g23 e23
      have I23 : zk_I g23 := by rw [e23]; exact zk_u234 I20 (by omega) ⟨by omega, by omega⟩
      have G23 : zk_fr fr_M_readDeed g g23 := by rw [e23]; exact zk_fu G20 (Or.inl rfl)
      have t23 := st e23 ⟨j3, j4, j5, by have := t15.2.2.2; omega⟩
      have r23 : ∀ i : Int, ¬ i = l1 + 2 → g23 234 i = g15 234 i := fun i hi => by rw [e23, zi_u_ni hi, F20 234 i (by unfold fr_M_readNumber; omega)]
      have q23 : g23 234 (l1 + 2) = v19 := by rw [e23, zi_u_eq]
      have q15 : g23 234 (l1 + 1) = v7 := by rw [r23 _ (by omega), e15, zi_u_eq]
      have q5 : g23 234 l1 = v1 := by rw [r23 _ (by omega), r15 _ (by omega), v5]
      have rr : ∀ i : Int, i < l1 → g23 234 i = g 234 i := fun i hi => by rw [r23 _ (by omega), r15 _ (by omega)]; exact r5 i hi
      have m23 : g23 214 6 = g 214 6 := by rw [e23, zi_u_ne (by decide), F20 214 6 (by unfold fr_M_readNumber; omega)]; exact m6
      have L20 : ∀ (T : zyT) (n : Int), zyDp T g n → zyPg T (g 214 6) (g 214 7) n (zyPP T n) 3 = zyN T (v16 + 1) (zyPP T n + 3) ∧ zyQ 1000000004 T g20 (zyPP T n + 3) (zyN T (v16 + 1) (zyPP T n + 3)) ∧ (zyN T (v16 + 1) (zyPP T n + 3) = 0 → v19 = T.2.1 (zyPP T n + 3)) ∧ (¬ zyN T (v16 + 1) (zyPP T n + 3) = 0 → v19 = -1) := fun T n h => by
        obtain ⟨h1, -, -, -, h5⟩ := L12 T n h
        exact ⟨by rw [zyPg_3, ← h1, cw], y20 1000000004 T _ hr (zyR_u h5 e15 ⟨by decide, by decide⟩) h.2.1⟩
      rw [q23]
      refine ⟨⟨by omega, by omega⟩, fun ne19 => ?_, fun e19 => ?_⟩
      · have L23 : ∀ (T : zyT) (n : Int), zyDp T g n → v7 = T.2.1 (zyPP T n + 2) ∧ (∀ k : Int, 1 ≤ k → k < 4 → zyPg T (g 214 6) (g 214 7) n (zyPP T n) k = 0) ∧ v1 = T.2.1 (zyPP T n + 1) ∧ v19 = T.2.1 (zyPP T n + 3) ∧ zyR 1000000004 T g23 (zyPP T n + 4) := fun T n h => by
          obtain ⟨h1, -, h3, h4, -⟩ := L12 T n h
          obtain ⟨u0, u1, u2, u3⟩ := L20 T n h
          have z : zyN T (v16 + 1) (zyPP T n + 3) = 0 := Classical.byContradiction (fun q => ne19 (u3 q))
          have R := zyR_u (u1.1 z) e23 ⟨by decide, by decide⟩
          rw [show zyPP T n + 3 + 1 = zyPP T n + 4 by omega] at R
          exact ⟨h1, zyZ_2 h3 (by decide) (u0.trans z), h4, u2 z, R⟩
        have hw : zCw (g 214 6) (g 214 7) v7 = v16 + 1 := cw.symm
        have fC := zCw_f (g 214 6) (g 214 7) v7
        -- behind what is named besides
        have tail : ∀ (v : Int) (x : zi_M), zk_I x → zk_fr fr_M_readDeed g x → (x 214 14 ≤ x 214 13 ∧ x 214 15 ≤ x 214 14 ∧ zt3 x ∧ g 214 15 ≤ x 214 15) → (∀ i : Int, x 234 i = g23 234 i) → (-1 ≤ v ∧ v ≤ 100000) → (¬ v = -1 → zj_deed v7 v19 v) → (∀ (T : zyT) (n : Int), zyDp T g n → (v = -1 → zyDf T (g 214 6) (g 214 7) n 1 (zyG T x)) ∧ (¬ v = -1 → (∀ k : Int, 1 ≤ k → k < zyPl (T.2.1 (zyPP T n + 2)) - 1 → zyPg T (g 214 6) (g 214 7) n (zyPP T n) k = 0) ∧ zyR 1000000004 T x (zyPP T n + (zyPl (T.2.1 (zyPP T n + 2)) - 1)) ∧ v = zyPx T (zyPP T n))) → ((0 ≤ (l1 + 3) ∧ (l1 + 3) < 128) ∧ (∀ g29, g29 = zi_u x 234 (l1 + 3) v → (zi_r (g29 234 (l1 + 3)) ∧ ((¬ (g29 234 (l1 + 3)) = (-1) → w_M_readMark 59 g29 (fun v31 g32 => Q v31 g32)) ∧ ((g29 234 (l1 + 3)) = (-1) → Q (-1) g29))))) := by
          intro v x Ix Fx tx rx bv hj hp
          refine ⟨⟨by omega, by omega⟩, ?_⟩
          intro g29 e29
          have I29 : zk_I g29 := by rw [e29]; exact zk_u234 Ix (by omega) ⟨by omega, by omega⟩
          have G29 : zk_fr fr_M_readDeed g g29 := by rw [e29]; exact zk_fu Fx (Or.inl rfl)
          have t29 := st e29 tx
          have r29 : ∀ i : Int, ¬ i = l1 + 3 → g29 234 i = g23 234 i := fun i hi => by rw [e29, zi_u_ni hi]; exact rx i
          have q29 : g29 234 (l1 + 3) = v := by rw [e29, zi_u_eq]
          have rs : ∀ i : Int, i < l1 → g29 234 i = g 234 i := fun i hi => by rw [r29 _ (by omega)]; exact rr i hi
          rw [q29]
          refine ⟨⟨by omega, by omega⟩, fun ne => ?_, fun e => ?_⟩
          · refine mark g29 v7 v19 v I29 G29 t29 rs ⟨by rw [r29 _ (by omega)]; exact q15, by rw [r29 _ (by omega)]; exact q23, q29⟩ (hj ne) (fun T n h => ?_)
            obtain ⟨h1, -, h3, h4, -⟩ := L23 T n h
            obtain ⟨w1, w2, w3⟩ := (hp T n h).2 ne
            exact ⟨w1, zyR_u w2 e29 ⟨by decide, by decide⟩, by rw [r29 _ (by omega), q5]; exact h3, h1, h4, w3⟩
          · exact bad (-1) g29 rfl I29 G29 t29 rs (fun T n h => zG e29 ((hp T n h).1 e))
        have at_ : (v7 = 0 ∨ v7 = 2) → w_M_readTold 20 0 ((g23 214 6) - 1) g23 (fun v25 g26 => ((0 ≤ (l1 + 3) ∧ (l1 + 3) < 128) ∧ (∀ g29, g29 = zi_u g26 234 (l1 + 3) v25 → (zi_r (g29 234 (l1 + 3)) ∧ ((¬ (g29 234 (l1 + 3)) = (-1) → w_M_readMark 59 g29 (fun v31 g32 => Q v31 g32)) ∧ ((g29 234 (l1 + 3)) = (-1) → Q (-1) g29)))))) := by
          intro hv
          rw [m23]
          refine k_M_readTold I23 ⟨by decide, by decide⟩ ⟨by decide, by decide⟩ ⟨by omega, by omega⟩ t23.1 t23.2.1 t23.2.2.1 (fun v25 g26 I26 F26 i1 i2 i3 i4 i5 i6 y26 => ?_)
          refine tail v25 g26 I26 (zk_ft G23 F26 sT) ⟨i3, i4, i5, by have := t23.2.2.2; omega⟩ (fun i => F26 234 i (by unfold fr_M_readTold; omega)) i1 (fun ne => ?_) (fun T n h => ?_)
          · unfold zj_deed
            omega
          · obtain ⟨h1, h2, -, -, h5⟩ := L23 T n h
            have w : T.2.1 (zyPP T n + 2) = 0 ∨ T.2.1 (zyPP T n + 2) = 2 := by rw [← h1]; exact hv
            have u := y26 1000000004 T _ 8 hr (by decide) (by omega) z4.2.2.2.1.symm h5 h.2.1
            rw [show g 214 6 - 1 + 1 = g 214 6 by omega, show zyPP T n + 4 + 1 = zyPP T n + 5 by omega, ← zyPg_4a (sp := g 214 6) (si := g 214 7) (n := n) w, ← zyPg_5a (sp := g 214 6) (si := g 214 7) (n := n) w] at u
            rw [zyPl_2 w, show (7 : Int) - 1 = 6 from rfl, zyPx_a w]
            refine ⟨fun q => ?_, fun ne => ?_⟩
            · by_cases z : zyPg T (g 214 6) (g 214 7) n (zyPP T n) 4 = 0
              · have u2 := u.2 z
                have z5 : ¬ zyPg T (g 214 6) (g 214 7) n (zyPP T n) 5 = 0 := fun y => by
                  have v := u2.2.1 y
                  have kk := (zyN_0.1 ((zyPg_5a w).symm.trans y)).1
                  have := h.2.1.2.2.2 (zyPP T n + 5) (by have := zyPP_b (T := T) (n := n); omega) (by have := (u2.1.1 y).2.1.2; omega) kk
                  omega
                exact zyDf_o (o := 5) ⟨by decide, by rw [zyPl_2 w]; decide⟩ (zyZ_2 h2 (by decide) z) z5 (u2.1.2 z5)
              · exact zyDf_o (o := 4) ⟨by decide, by rw [zyPl_2 w]; decide⟩ h2 z (u.1 z).2
            · have z : zyPg T (g 214 6) (g 214 7) n (zyPP T n) 4 = 0 := Classical.byContradiction (fun q => ne (u.1 q).1)
              have u2 := u.2 z
              have z5 : zyPg T (g 214 6) (g 214 7) n (zyPP T n) 5 = 0 := Classical.byContradiction (fun q => ne (u2.2.2 q))
              have R := u2.1.1 z5
              rw [show zyPP T n + 5 + 1 = zyPP T n + 6 by omega] at R
              exact ⟨zyZ_2 (zyZ_2 h2 (by decide) z) (by decide) z5, R, u2.2.1 z5⟩
        refine ⟨fun e0 => at_ (Or.inl e0), fun n0 => ⟨fun n2 => ⟨fun n6 => ?_, fun e6 => ?_⟩, fun e2 => at_ (Or.inr e2)⟩⟩
        · refine tail 0 g23 I23 G23 t23 (fun _ => rfl) ⟨by decide, by decide⟩ (fun _ => ?_) (fun T n h => ⟨fun q => absurd q (by decide), fun _ => ?_⟩)
          · unfold zj_deed
            omega
          · obtain ⟨h1, h2, -, -, h5⟩ := L23 T n h
            have w1 : ¬ (T.2.1 (zyPP T n + 2) = 0 ∨ T.2.1 (zyPP T n + 2) = 2) := by omega
            have w2 : ¬ T.2.1 (zyPP T n + 2) = 6 := by omega
            rw [zyPl_n w1 w2, show (5 : Int) - 1 = 4 from rfl, zyPx_e w1 w2]
            exact ⟨h2, h5, rfl⟩
        · refine k_M_readNumber I23 ⟨by decide, by decide⟩ ⟨by decide, by decide⟩ t23.1 t23.2.1 t23.2.2.1 (fun v42 g43 I43 F43 i1 i2 i3 i4 i5 i6 y43 => ?_)
          refine tail v42 g43 I43 (zk_ft G23 F43 sN) ⟨i3, i4, i5, by have := t23.2.2.2; omega⟩ (fun i => F43 234 i (by unfold fr_M_readNumber; omega)) i1 (fun ne => ?_) (fun T n h => ?_)
          · unfold zj_deed
            omega
          · obtain ⟨h1, h2, -, -, h5⟩ := L23 T n h
            have w : T.2.1 (zyPP T n + 2) = 6 := by omega
            have u := y43 1000000004 T _ hr h5 h.2.1
            rw [show (15 : Int) + 1 = 16 from rfl, ← zyPg_4t (sp := g 214 6) (si := g 214 7) (n := n) w] at u
            rw [zyPl_6 w, show (6 : Int) - 1 = 5 from rfl, zyPx_t w]
            refine ⟨fun q => ?_, fun ne => ?_⟩
            · have z : ¬ zyPg T (g 214 6) (g 214 7) n (zyPP T n) 4 = 0 := fun y => by
                have v := u.2.1 y
                have kk := (zyN_0.1 ((zyPg_4t w).symm.trans y)).1
                have := h.2.1.2.2.2 _ h5.2.1.1 h5.2.1.2 kk
                omega
              exact zyDf_o (o := 4) ⟨by decide, by rw [zyPl_6 w]; decide⟩ h2 z (u.1.2 z)
            · have z : zyPg T (g 214 6) (g 214 7) n (zyPP T n) 4 = 0 := Classical.byContradiction (fun q => ne (u.2.2 q))
              have R := u.1.1 z
              rw [show zyPP T n + 4 + 1 = zyPP T n + 5 by omega] at R
              exact ⟨zyZ_2 h2 (by decide) z, R, u.2.1 z⟩
      · refine bad (-1) g23 rfl I23 G23 t23 rr (fun T n h => ?_)
        obtain ⟨-, -, h3, -, h5⟩ := L12 T n h
        obtain ⟨u0, u1, u2, u3⟩ := L20 T n h
        have z : ¬ zyN T (v16 + 1) (zyPP T n + 3) = 0 := fun q => by
          have v := u2 q
          have kk := (zyN_0.1 q).1
          have := h.2.1.2.2.2 _ h5.2.1.1 h5.2.1.2 kk
          omega
        have b := zyPl_b (T.2.1 (zyPP T n + 2))
        exact zG e23 (zyDf_o (o := 3) ⟨by decide, by omega⟩ h3 (by rw [u0]; exact z) (by rw [u0]; exact u1.2 z))
    · refine k_M_errs I5 ⟨by decide, by decide⟩ (fun v g' I' F' c d x => ?_)
      have k13 : g' 214 13 = g5 214 13 := F' 214 13 (by unfold fr_M_errs; omega)
      have k14 : g' 214 14 = g5 214 14 := F' 214 14 (by unfold fr_M_errs; omega)
      have k15 : g' 214 15 = g5 214 15 := F' 214 15 (by unfold fr_M_errs; omega)
      refine bad v g' (by omega) I' (zk_ft G5 F' sE) ⟨by have := t5.1; omega, by have := t5.2.1; omega, d t5.2.2.1, by have := t5.2.2.2; omega⟩ (fun i hi => by rw [F' 234 i (by unfold fr_M_errs; omega)]; exact r5 i hi) (fun T n h => ?_)
      obtain ⟨h1, h2, h3⟩ := L5 T n h
      have k := (zyR_d h3 b16 d2 d3 d4).2 e7
      have z : zyPg T (g 214 6) (g 214 7) n (zyPP T n) 2 = 1 := zyPg_2n k
      have b := zyPl_b (T.2.1 (zyPP T n + 2))
      exact zyDf_o (o := 2) ⟨by decide, by omega⟩ (zyZ_2 zyZ_0 (by decide) h1) (by rw [z]; decide) (by rw [z]; exact x _ _ _ h3)
  · refine bad (-1) g5 rfl I5 G5 t5 r5 (fun T n h => ?_)
    have z1 := N2 T n h e1
    have b := zyPl_b (T.2.1 (zyPP T n + 2))
    exact zG e5 (zyDf_o (o := 1) ⟨by decide, by omega⟩ zyZ_0 z1 ((L2 T n h).1.2 z1))

