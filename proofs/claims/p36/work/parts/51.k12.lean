-- by program (wip/gen/mkz.py)
-- SpoutNewsModel.kindOfDeed()I
set_option maxRecDepth 100000 in
set_option maxHeartbeats 4000000 in
theorem k_M_kindOfDeed {g : zi_M} {Q : Int → zi_M → Prop} (I : zk_I g) (px0 : zt3 g) (hQ : ∀ v : Int, ((-1) ≤ v ∧ v ≤ 6) → (g 214 16 = 2 → g 214 17 = 19 → v = 0) → (g 214 16 = 2 → 21 ≤ g 214 17 → g 214 17 ≤ 26 → v = g 214 17 - 20) → (¬ g 214 16 = 2 ∨ (¬ g 214 17 = 19 ∧ (g 214 17 < 21 ∨ 26 < g 214 17)) → v = -1) → Q v g) : w_M_kindOfDeed g Q := by
  unfold w_M_kindOfDeed
  have m_4 : 0 ≤ (g 214 16) ∧ (g 214 16) ≤ 4 := I.1 214 16
  have m_5 : (-1) ≤ (g 214 17) ∧ (g 214 17) ≤ 100000 := I.1 214 17
  refine k_M_isWord I ⟨by omega, by omega⟩ (fun v1 b_1 b_2 b_3 => ?_)
  refine ⟨fun c10 => ?_, fun c10 => ?_⟩
  · refine ⟨⟨by omega, by omega⟩, ?_⟩
    refine ⟨fun c9 => ?_, fun c9 => ?_⟩
    · exact hQ _ ⟨by omega, by omega⟩ (by omega) (by omega) (by omega)
    · refine k_M_isIn I ⟨by omega, by omega⟩ ⟨by omega, by omega⟩ ⟨by omega, by omega⟩ (fun v5 b_6 b_7 b_8 => ?_)
      refine ⟨fun c8 => ?_, fun c8 => ?_⟩
      · exact hQ _ ⟨by omega, by omega⟩ (by omega) (by omega) (by omega)
      · exact hQ _ ⟨by omega, by omega⟩ (by omega) (by omega) (by omega)
  · exact hQ _ ⟨by omega, by omega⟩ (by omega) (by omega) (by omega)
-- SpoutNewsModel.mostFor(I)I
set_option maxRecDepth 100000 in
set_option maxHeartbeats 4000000 in
theorem k_M_mostFor {l1 : Int} {g : zi_M} {Q : Int → zi_M → Prop} (I : zk_I g) (p1 : 0 ≤ l1 ∧ l1 ≤ 6) (hQ : ∀ v : Int, (¬ l1 = 2 → l1 < 3 → v = (g 214 7) - 1) → (¬ l1 = 2 → 3 ≤ l1 → 5 < l1 → v = (g 214 7) - 1) → (¬ l1 = 2 → 3 ≤ l1 → l1 ≤ 5 → v = (g 214 6) - 1) → (l1 = 2 → v = 5) → Q v g) : w_M_mostFor l1 g Q := by
  unfold w_M_mostFor
  refine ⟨⟨by omega, by omega⟩, ?_⟩
  refine ⟨fun c4 => ?_, fun c4 => ?_⟩
  · refine ⟨fun c3 => ?_, fun c3 => ?_⟩
    · have m_1 : 0 ≤ (g 214 7) ∧ (g 214 7) ≤ 8 := I.1 214 7
      have m_2 : 0 ≤ (g 214 6) ∧ (g 214 6) ≤ 10 := I.1 214 6
      exact hQ _ (by intros; omega) (by intros; omega) (by intros; omega) (by intros; omega)
    · refine ⟨fun c2 => ?_, fun c2 => ?_⟩
      · have m_3 : 0 ≤ (g 214 7) ∧ (g 214 7) ≤ 8 := I.1 214 7
        have m_4 : 0 ≤ (g 214 6) ∧ (g 214 6) ≤ 10 := I.1 214 6
        exact hQ _ (by intros; omega) (by intros; omega) (by intros; omega) (by intros; omega)
      · have m_5 : 0 ≤ (g 214 6) ∧ (g 214 6) ≤ 10 := I.1 214 6
        have m_6 : 0 ≤ (g 214 7) ∧ (g 214 7) ≤ 8 := I.1 214 7
        exact hQ _ (by intros; omega) (by intros; omega) (by intros; omega) (by intros; omega)
  · have m_7 : 0 ≤ (g 214 7) ∧ (g 214 7) ≤ 8 := I.1 214 7
    have m_8 : 0 ≤ (g 214 6) ∧ (g 214 6) ≤ 10 := I.1 214 6
    exact hQ _ (by intros; omega) (by intros; omega) (by intros; omega) (by intros; omega)
-- SpoutNewsModel.readMark(I)I
theorem k_M_readMark {l1 : Int} {g : zi_M} {Q : Int → zi_M → Prop} (I : zk_I g) (p1 : 59 ≤ l1 ∧ l1 ≤ 59) (px0 : g 214 14 ≤ g 214 13) (px1 : g 214 15 ≤ g 214 14) (px2 : zt3 g) (hQ : ∀ (v : Int) (g' : zi_M), zk_I g' → zk_fr fr_M_readMark g g' → ((-1) ≤ v ∧ v ≤ 0) → (g' 214 14 ≤ g' 214 13) → (g' 214 15 ≤ g' 214 14) → (zt3 g') → (g 214 15 ≤ g' 214 15) → (∀ (r : Nat) (T : zyT) (t : Int), zs_str r → zyR r T g t → zyE T → zyQ r T g' t (zyK T 3 l1 t) ∧ (zyK T 3 l1 t = 0 → v = 0) ∧ (¬ zyK T 3 l1 t = 0 → v = -1)) → Q v g') : w_M_readMark l1 g Q := by
  unfold w_M_readMark
  have b16 : 0 ≤ g 214 16 ∧ g 214 16 ≤ 4 := I.1 214 16
  have b17 : -1 ≤ g 214 17 ∧ g 214 17 ≤ 100000 := I.1 214 17
  refine k_M_isSign I ⟨by omega, by omega⟩ (fun v1 a1 a2 a3 => ⟨fun ne => ?_, fun e => ?_⟩)
  · refine k_M_reads I (by omega) (fun g6 I6 F6 c1 c2 c3 c4 c5 => ?_)
    have k13 : g6 214 13 = g 214 13 := F6 214 13 (by unfold fr_M_reads; omega)
    refine hQ 0 g6 I6 (zk_ft (zk_f0 _) F6 (fun a i h => by unfold fr_M_reads at h; unfold fr_M_readMark; omega)) ⟨by omega, by omega⟩ (by omega) (by omega) c4 (by omega) (fun r T t hr h hE => ?_)
    have kk := zyR_k hr h
    have e4 : g 214 16 = 4 := by omega
    have k1 := kk.2.2.1.1 e4
    have kv := kk.2.2.2.1 (Or.inr e4)
    have z : zyK T 3 l1 t = 0 := zyK_0.2 ⟨k1, by omega⟩
    rw [z]
    exact ⟨⟨fun _ => zyR_n h F6 c5 (zyE_lt hE h.2.1.2 (by omega)), fun q => absurd rfl q⟩, fun _ => rfl, fun q => absurd rfl q⟩
  · refine k_M_errs I ⟨by decide, by decide⟩ (fun v g' I' F' c d x => ?_)
    have k13 : g' 214 13 = g 214 13 := F' 214 13 (by unfold fr_M_errs; omega)
    have k14 : g' 214 14 = g 214 14 := F' 214 14 (by unfold fr_M_errs; omega)
    have k15 : g' 214 15 = g 214 15 := F' 214 15 (by unfold fr_M_errs; omega)
    refine hQ v g' I' (zk_ft (zk_f0 _) F' (fun a i h => by unfold fr_M_errs at h; unfold fr_M_readMark; omega)) ⟨by omega, by omega⟩ (by omega) (by omega) (d px2) (by omega) (fun r T t hr h hE => ?_)
    have z : zyK T 3 l1 t = 1 := zyK_1 (fun q => by
      have kk := zyR_k hr h
      have e4 := kk.2.2.1.2 q.1
      have kv := kk.2.2.2.1 (Or.inr e4)
      omega)
    rw [z]
    exact ⟨⟨fun q => absurd q (by decide), fun _ => x r T t h⟩, fun q => absurd q (by decide), fun _ => by omega⟩

-- SpoutNewsModel.readDeed(I)I
theorem k_M_readDeed {l1 : Int} {g : zi_M} {Q : Int → zi_M → Prop} (I : zk_I g) (p1 : 64 ≤ l1 ∧ l1 ≤ 124) (px0 : g 214 14 ≤ g 214 13) (px1 : g 214 15 ≤ g 214 14) (px2 : zt3 g) (hQ : ∀ (v : Int) (g' : zi_M), zk_I g' → zk_fr fr_M_readDeed g g' → ((-1) ≤ v ∧ v ≤ 0) → (g' 214 14 ≤ g' 214 13) → (g' 214 15 ≤ g' 214 14) → (zt3 g') → (g 214 15 ≤ g' 214 15) → (¬ v = -1 → zj_deed (g' 234 (l1 + 1)) (g' 234 (l1 + 2)) (g' 234 (l1 + 3))) → (∀ i : Int, i < l1 → g' 234 i = g 234 i) → (∀ (T : zyT) (n : Int), zyDp T g n → zyDm T (g 214 6) (g 214 7) g' l1 n v) → Q v g') : w_M_readDeed l1 g Q := by
  have hr : zs_str 1000000004 := rfl
  have z4 := zyk4
  have b6 : 0 ≤ g 214 6 ∧ g 214 6 ≤ 10 := I.1 214 6
  have b7 : 0 ≤ g 214 7 ∧ g 214 7 ≤ 8 := I.1 214 7
  have sT : ∀ a i, fr_M_readTold a i → fr_M_readDeed a i := fun a i h => by unfold fr_M_readTold at h; unfold fr_M_readDeed; omega
  have sN : ∀ a i, fr_M_readNumber a i → fr_M_readDeed a i := fun a i h => by unfold fr_M_readNumber at h; unfold fr_M_readDeed; omega
  have sM : ∀ a i, fr_M_readMark a i → fr_M_readDeed a i := fun a i h => by unfold fr_M_readMark at h; unfold fr_M_readDeed; omega
  have sR : ∀ a i, fr_M_reads a i → fr_M_readDeed a i := fun a i h => by unfold fr_M_reads at h; unfold fr_M_readDeed; omega
  have sE : ∀ a i, fr_M_errs a i → fr_M_readDeed a i := fun a i h => by unfold fr_M_errs at h; unfold fr_M_readDeed; omega
  have bad : ∀ (v : Int) (x : zi_M), v = -1 → zk_I x → zk_fr fr_M_readDeed g x → (x 214 14 ≤ x 214 13 ∧ x 214 15 ≤ x 214 14 ∧ zt3 x ∧ g 214 15 ≤ x 214 15) → (∀ i : Int, i < l1 → x 234 i = g 234 i) → (∀ (T : zyT) (n : Int), zyDp T g n → zyDf T (g 214 6) (g 214 7) n 1 (zyG T x)) → Q v x := fun v x e Ix Fx tx rx hp => hQ v x Ix Fx ⟨by omega, by omega⟩ tx.1 tx.2.1 tx.2.2.1 tx.2.2.2 (fun q => absurd e q) rx (fun T n h => Or.inl ⟨e, hp T n h⟩)
  have st : ∀ {x y : zi_M} {i v : Int}, y = zi_u x 234 i v → (x 214 14 ≤ x 214 13 ∧ x 214 15 ≤ x 214 14 ∧ zt3 x ∧ g 214 15 ≤ x 214 15) → (y 214 14 ≤ y 214 13 ∧ y 214 15 ≤ y 214 14 ∧ zt3 y ∧ g 214 15 ≤ y 214 15) := fun {x y i v} e tx => by
    have e' : ∀ k : Int, y 214 k = x 214 k := fun k => by rw [e]; exact zi_u_ne (by decide)
    rw [e', e', e']
    exact ⟨tx.1, tx.2.1, zt3_e tx.2.2.1 (e' _) (e' _) (e' _) (e' _), tx.2.2.2⟩
  have zG : ∀ {x y : zi_M} {i v : Int} {T : zyT} {n : Int}, y = zi_u x 234 i v → zyDf T (g 214 6) (g 214 7) n 1 (zyG T x) → zyDf T (g 214 6) (g 214 7) n 1 (zyG T y) := fun {x y i v T n} e h => by
    have e' : ∀ k : Int, y 214 k = x 214 k := fun k => by rw [e]; exact zi_u_ne (by decide)
    obtain ⟨o, o1, o2, o3, o4⟩ := h
    exact ⟨o, o1, o2, o3, by rw [e']; exact o4.1, by rw [e']; exact o4.2⟩
  -- what a line is worth from its mark on
  have mark : ∀ (x : zi_M) (d w b : Int), zk_I x → zk_fr fr_M_readDeed g x → (x 214 14 ≤ x 214 13 ∧ x 214 15 ≤ x 214 14 ∧ zt3 x ∧ g 214 15 ≤ x 214 15) → (∀ i : Int, i < l1 → x 234 i = g 234 i) → (x 234 (l1 + 1) = d ∧ x 234 (l1 + 2) = w ∧ x 234 (l1 + 3) = b) → zj_deed d w b → (∀ (T : zyT) (n : Int), zyDp T g n → (∀ k : Int, 1 ≤ k → k < zyPl (T.2.1 (zyPP T n + 2)) - 1 → zyPg T (g 214 6) (g 214 7) n (zyPP T n) k = 0) ∧ zyR 1000000004 T x (zyPP T n + (zyPl (T.2.1 (zyPP T n + 2)) - 1)) ∧ x 234 l1 = T.2.1 (zyPP T n + 1) ∧ d = T.2.1 (zyPP T n + 2) ∧ w = T.2.1 (zyPP T n + 3) ∧ b = zyPx T (zyPP T n)) → w_M_readMark 59 x (fun v g' => Q v g') := by
    intro x d w b Ix Fx tx rx hx hj hp
    refine k_M_readMark Ix ⟨by decide, by decide⟩ tx.1 tx.2.1 tx.2.2.1 (fun v g' I' F' c1 c2 c3 c4 c5 y => ?_)
    have r' : ∀ i : Int, g' 234 i = x 234 i := fun i => F' 234 i (by unfold fr_M_readMark; omega)
    refine hQ v g' I' (zk_ft Fx F' sM) c1 c2 c3 c4 (by omega) (fun _ => by rw [r', r', r', hx.1, hx.2.1, hx.2.2]; exact hj) (fun i hi => by rw [r']; exact rx i hi) (fun T n h => ?_)
    obtain ⟨h1, h2, h3, h4, h5, h6⟩ := hp T n h
    have u := y 1000000004 T _ hr h2 h.2.1
    rw [← zyPg_l (sp := g 214 6) (si := g 214 7) (n := n)] at u
    have b := zyPl_b (T.2.1 (zyPP T n + 2))
    by_cases z : zyPg T (g 214 6) (g 214 7) n (zyPP T n) (zyPl (T.2.1 (zyPP T n + 2)) - 1) = 0
    · have R := u.1.1 z
      rw [show zyPP T n + (zyPl (T.2.1 (zyPP T n + 2)) - 1) + 1 = zyPP T n + zyPl (T.2.1 (zyPP T n + 2)) by omega] at R
      refine Or.inr ⟨u.2.1 z, zyZ_2 h1 (by omega) z, R, ?_, ?_, ?_, ?_⟩
      · rw [r']; exact h3
      · rw [r', hx.1]; exact h4
      · rw [r', hx.2.1]; exact h5
      · rw [r', hx.2.2]; exact h6
    · exact Or.inl ⟨u.2.2 z, zyDf_o (o := zyPl (T.2.1 (zyPP T n + 2)) - 1) ⟨by omega, by omega⟩ h1 z (u.1.2 z)⟩
  unfold w_M_readDeed
  refine k_M_readTold I ⟨by decide, by decide⟩ ⟨by decide, by decide⟩ ⟨by decide, by decide⟩ px0 px1 px2 (fun v1 g2 I2 F2 c1 c2 c3 c4 c5 c6 y2 => ⟨⟨by omega, by omega⟩, ?_⟩)
  intro g5 e5
  have G2 : zk_fr fr_M_readDeed g g2 := zk_ft (zk_f0 _) F2 sT
  have I5 : zk_I g5 := by rw [e5]; exact zk_u234 I2 (by omega) ⟨by omega, by omega⟩
  have G5 : zk_fr fr_M_readDeed g g5 := by rw [e5]; exact zk_fu G2 (Or.inl rfl)
  have t5 := st e5 ⟨c3, c4, c5, c6⟩
  have r5 : ∀ i : Int, i < l1 → g5 234 i = g 234 i := fun i hi => by rw [e5, zi_u_ni (by omega), F2 234 i (by unfold fr_M_readTold; omega)]
  have v5 : g5 234 l1 = v1 := by rw [e5, zi_u_eq]
  have L2 : ∀ (T : zyT) (n : Int), zyDp T g n → zyQ 1000000004 T g2 (zyPP T n + 1) (zyPg T (g 214 6) (g 214 7) n (zyPP T n) 1) ∧ (zyPg T (g 214 6) (g 214 7) n (zyPP T n) 1 = 0 → v1 = T.2.1 (zyPP T n + 1)) ∧ (¬ zyPg T (g 214 6) (g 214 7) n (zyPP T n) 1 = 0 → v1 = -1) := fun T n h => by
    have u := (y2 1000000004 T _ 7 hr (by decide) (by omega) z4.2.2.1.symm h.1 h.2.1).2 (zyK_0.2 h.2.2.2)
    rw [show (999 : Int) + 1 = 1000 from rfl, ← zyPg_1 (sp := g 214 6) (si := g 214 7) (n := n)] at u
    exact u
  have N2 : ∀ (T : zyT) (n : Int), zyDp T g n → (v1 = -1 → ¬ zyPg T (g 214 6) (g 214 7) n (zyPP T n) 1 = 0) := fun T n h e q => by
    have u := L2 T n h
    have v := u.2.1 q
    have k := zyN_0.1 (zyPg_1.symm.trans q)
    have := h.2.1.2.2.2 (zyPP T n + 1) (by have := zyPP_b (T := T) (n := n); omega) (by have := (u.1.1 q).2.1.2; omega) k.1
    omega
  rw [v5]
  refine ⟨⟨by omega, by omega⟩, fun ne1 => ?_, fun e1 => ?_⟩
  · have L5 : ∀ (T : zyT) (n : Int), zyDp T g n → zyPg T (g 214 6) (g 214 7) n (zyPP T n) 1 = 0 ∧ v1 = T.2.1 (zyPP T n + 1) ∧ zyR 1000000004 T g5 (zyPP T n + 2) := fun T n h => by
      have u := L2 T n h
      have z : zyPg T (g 214 6) (g 214 7) n (zyPP T n) 1 = 0 := Classical.byContradiction (fun q => ne1 (u.2.2 q))
      have R := zyR_u (u.1.1 z) e5 ⟨by decide, by decide⟩
      rw [show zyPP T n + 1 + 1 = zyPP T n + 2 by omega] at R
      exact ⟨z, u.2.1 z, R⟩
    have b16 : 0 ≤ g5 214 16 ∧ g5 214 16 ≤ 4 := I5.1 214 16
    refine k_M_kindOfDeed I5 t5.2.2.1 (fun v7 d1 d2 d3 d4 => ⟨⟨by omega, by omega⟩, fun ne7 => ?_, fun e7 => ?_⟩)
    · refine k_M_reads I5 t5.1 (fun g12 I12 F12 f1 f2 f3 f4 f5 => ⟨⟨by omega, by omega⟩, ?_⟩)
      have G12 := zk_ft G5 F12 sR
      have L12 : ∀ (T : zyT) (n : Int), zyDp T g n → v7 = T.2.1 (zyPP T n + 2) ∧ (0 ≤ v7 ∧ v7 ≤ 6) ∧ (∀ k : Int, 1 ≤ k → k < 3 → zyPg T (g 214 6) (g 214 7) n (zyPP T n) k = 0) ∧ v1 = T.2.1 (zyPP T n + 1) ∧ zyR 1000000004 T g12 (zyPP T n + 3) := fun T n h => by
        obtain ⟨h1, h2, h3⟩ := L5 T n h
        have k := (zyR_d h3 b16 d2 d3 d4).1 ne7
        have R := zyR_n h3 F12 f5 (zyE_lt h.2.1 h3.2.1.2 (by omega))
        rw [show zyPP T n + 2 + 1 = zyPP T n + 3 by omega] at R
        exact ⟨k.2.1.symm, ⟨by omega, by omega⟩, zyZ_2 (zyZ_2 zyZ_0 (by decide) h1) (by decide) (zyPg_2 ⟨k.1, by omega, by omega⟩), h2, R⟩
      have c7 : 0 ≤ v7 ∧ v7 ≤ 6 := by omega
      intro g15 e15
      have k13 : g12 214 13 = g5 214 13 := F12 214 13 (by unfold fr_M_reads; omega)
      have I15 : zk_I g15 := by rw [e15]; exact zk_u234 I12 (by omega) ⟨by omega, by omega⟩
      have G15 : zk_fr fr_M_readDeed g g15 := by rw [e15]; exact zk_fu G12 (Or.inl rfl)
      have t15 := st e15 ⟨by omega, f3, f4, by have := t5.2.1; have := t5.2.2.2; omega⟩
      have m6 : g15 214 6 = g 214 6 := by rw [e15, zi_u_ne (by decide), F12 214 6 (by unfold fr_M_reads; omega), e5, zi_u_ne (by decide), F2 214 6 (by unfold fr_M_readTold; omega)]
      have m7 : g15 214 7 = g 214 7 := by rw [e15, zi_u_ne (by decide), F12 214 7 (by unfold fr_M_reads; omega), e5, zi_u_ne (by decide), F2 214 7 (by unfold fr_M_readTold; omega)]
      have r15 : ∀ i : Int, ¬ i = l1 + 1 → g15 234 i = g5 234 i := fun i hi => by rw [e15, zi_u_ni hi, F12 234 i (by unfold fr_M_reads; omega)]
      refine k_M_mostFor I15 c7 (fun v16 h1 h2 h3 h4 => ?_)
      have cw : v16 + 1 = zCw (g 214 6) (g 214 7) v7 := by
        have f := zCw_f (g 214 6) (g 214 7) v7
        omega
      have b16' : -1 ≤ v16 ∧ v16 ≤ 9 := by omega
      refine k_M_readNumber I15 ⟨by decide, by decide⟩ ⟨by omega, by omega⟩ t15.1 t15.2.1 t15.2.2.1 (fun v19 g20 I20 F20 j1 j2 j3 j4 j5 j6 y20 => ⟨⟨by omega, by omega⟩, ?_⟩)
      have G20 := zk_ft G15 F20 sN
      intro g23 e23
      have I23 : zk_I g23 := by rw [e23]; exact zk_u234 I20 (by omega) ⟨by omega, by omega⟩
      have G23 : zk_fr fr_M_readDeed g g23 := by rw [e23]; exact zk_fu G20 (Or.inl rfl)
      have t23 := st e23 ⟨j3, j4, j5, by have := t15.2.2.2; omega⟩
      have r23 : ∀ i : Int, ¬ i = l1 + 2 → g23 234 i = g15 234 i := fun i hi => by rw [e23, zi_u_ni hi, F20 234 i (by unfold fr_M_readNumber; omega)]
      have q23 : g23 234 (l1 + 2) = v19 := by rw [e23, zi_u_eq]
      have q15 : g23 234 (l1 + 1) = v7 := by rw [r23 _ (by omega), e15, zi_u_eq]
      have q5 : g23 234 l1 = v1 := by rw [r23 _ (by omega), r15 _ (by omega), v5]
      have rr : ∀ i : Int, i < l1 → g23 234 i = g 234 i := fun i hi => by rw [r23 _ (by omega), r15 _ (by omega)]; exact r5 i hi
      have m23 : g23 214 6 = g 214 6 := by rw [e23, zi_u_ne (by decide), F20 214 6 (by unfold fr_M_readNumber; omega)]; exact m6
      have L20 : ∀ (T : zyT) (n : Int), zyDp T g n → zyPg T (g 214 6) (g 214 7) n (zyPP T n) 3 = zyN T (v16 + 1) (zyPP T n + 3) ∧ zyQ 1000000004 T g20 (zyPP T n + 3) (zyN T (v16 + 1) (zyPP T n + 3)) ∧ (zyN T (v16 + 1) (zyPP T n + 3) = 0 → v19 = T.2.1 (zyPP T n + 3)) ∧ (¬ zyN T (v16 + 1) (zyPP T n + 3) = 0 → v19 = -1) := fun T n h => by
        obtain ⟨h1, -, -, -, h5⟩ := L12 T n h
        exact ⟨by rw [zyPg_3, ← h1, cw], y20 1000000004 T _ hr (zyR_u h5 e15 ⟨by decide, by decide⟩) h.2.1⟩
      rw [q23]
      refine ⟨⟨by omega, by omega⟩, fun ne19 => ?_, fun e19 => ?_⟩
      · have L23 : ∀ (T : zyT) (n : Int), zyDp T g n → v7 = T.2.1 (zyPP T n + 2) ∧ (∀ k : Int, 1 ≤ k → k < 4 → zyPg T (g 214 6) (g 214 7) n (zyPP T n) k = 0) ∧ v1 = T.2.1 (zyPP T n + 1) ∧ v19 = T.2.1 (zyPP T n + 3) ∧ zyR 1000000004 T g23 (zyPP T n + 4) := fun T n h => by
          obtain ⟨h1, -, h3, h4, -⟩ := L12 T n h
          obtain ⟨u0, u1, u2, u3⟩ := L20 T n h
          have z : zyN T (v16 + 1) (zyPP T n + 3) = 0 := Classical.byContradiction (fun q => ne19 (u3 q))
          have R := zyR_u (u1.1 z) e23 ⟨by decide, by decide⟩
          rw [show zyPP T n + 3 + 1 = zyPP T n + 4 by omega] at R
          exact ⟨h1, zyZ_2 h3 (by decide) (u0.trans z), h4, u2 z, R⟩
        have hw : zCw (g 214 6) (g 214 7) v7 = v16 + 1 := cw.symm
        have fC := zCw_f (g 214 6) (g 214 7) v7
        -- behind what is named besides
        have tail : ∀ (v : Int) (x : zi_M), zk_I x → zk_fr fr_M_readDeed g x → (x 214 14 ≤ x 214 13 ∧ x 214 15 ≤ x 214 14 ∧ zt3 x ∧ g 214 15 ≤ x 214 15) → (∀ i : Int, x 234 i = g23 234 i) → (-1 ≤ v ∧ v ≤ 100000) → (¬ v = -1 → zj_deed v7 v19 v) → (∀ (T : zyT) (n : Int), zyDp T g n → (v = -1 → zyDf T (g 214 6) (g 214 7) n 1 (zyG T x)) ∧ (¬ v = -1 → (∀ k : Int, 1 ≤ k → k < zyPl (T.2.1 (zyPP T n + 2)) - 1 → zyPg T (g 214 6) (g 214 7) n (zyPP T n) k = 0) ∧ zyR 1000000004 T x (zyPP T n + (zyPl (T.2.1 (zyPP T n + 2)) - 1)) ∧ v = zyPx T (zyPP T n))) → ((0 ≤ (l1 + 3) ∧ (l1 + 3) < 128) ∧ (∀ g29, g29 = zi_u x 234 (l1 + 3) v → (zi_r (g29 234 (l1 + 3)) ∧ ((¬ (g29 234 (l1 + 3)) = (-1) → w_M_readMark 59 g29 (fun v31 g32 => Q v31 g32)) ∧ ((g29 234 (l1 + 3)) = (-1) → Q (-1) g29))))) := by
          intro v x Ix Fx tx rx bv hj hp
          refine ⟨⟨by omega, by omega⟩, ?_⟩
          intro g29 e29
          have I29 : zk_I g29 := by rw [e29]; exact zk_u234 Ix (by omega) ⟨by omega, by omega⟩
          have G29 : zk_fr fr_M_readDeed g g29 := by rw [e29]; exact zk_fu Fx (Or.inl rfl)
          have t29 := st e29 tx
          have r29 : ∀ i : Int, ¬ i = l1 + 3 → g29 234 i = g23 234 i := fun i hi => by rw [e29, zi_u_ni hi]; exact rx i
          have q29 : g29 234 (l1 + 3) = v := by rw [e29, zi_u_eq]
          have rs : ∀ i : Int, i < l1 → g29 234 i = g 234 i := fun i hi => by rw [r29 _ (by omega)]; exact rr i hi
          rw [q29]
          refine ⟨⟨by omega, by omega⟩, fun ne => ?_, fun e => ?_⟩
          · refine mark g29 v7 v19 v I29 G29 t29 rs ⟨by rw [r29 _ (by omega)]; exact q15, by rw [r29 _ (by omega)]; exact q23, q29⟩ (hj ne) (fun T n h => ?_)
            obtain ⟨h1, -, h3, h4, -⟩ := L23 T n h
            obtain ⟨w1, w2, w3⟩ := (hp T n h).2 ne
            exact ⟨w1, zyR_u w2 e29 ⟨by decide, by decide⟩, by rw [r29 _ (by omega), q5]; exact h3, h1, h4, w3⟩
          · exact bad (-1) g29 rfl I29 G29 t29 rs (fun T n h => zG e29 ((hp T n h).1 e))
        have at_ : (v7 = 0 ∨ v7 = 2) → w_M_readTold 20 0 ((g23 214 6) - 1) g23 (fun v25 g26 => ((0 ≤ (l1 + 3) ∧ (l1 + 3) < 128) ∧ (∀ g29, g29 = zi_u g26 234 (l1 + 3) v25 → (zi_r (g29 234 (l1 + 3)) ∧ ((¬ (g29 234 (l1 + 3)) = (-1) → w_M_readMark 59 g29 (fun v31 g32 => Q v31 g32)) ∧ ((g29 234 (l1 + 3)) = (-1) → Q (-1) g29)))))) := by
          intro hv
          rw [m23]
          refine k_M_readTold I23 ⟨by decide, by decide⟩ ⟨by decide, by decide⟩ ⟨by omega, by omega⟩ t23.1 t23.2.1 t23.2.2.1 (fun v25 g26 I26 F26 i1 i2 i3 i4 i5 i6 y26 => ?_)
          refine tail v25 g26 I26 (zk_ft G23 F26 sT) ⟨i3, i4, i5, by have := t23.2.2.2; omega⟩ (fun i => F26 234 i (by unfold fr_M_readTold; omega)) i1 (fun ne => ?_) (fun T n h => ?_)
          · unfold zj_deed
            omega
          · obtain ⟨h1, h2, -, -, h5⟩ := L23 T n h
            have w : T.2.1 (zyPP T n + 2) = 0 ∨ T.2.1 (zyPP T n + 2) = 2 := by rw [← h1]; exact hv
            have u := y26 1000000004 T _ 8 hr (by decide) (by omega) z4.2.2.2.1.symm h5 h.2.1
            rw [show g 214 6 - 1 + 1 = g 214 6 by omega, show zyPP T n + 4 + 1 = zyPP T n + 5 by omega, ← zyPg_4a (sp := g 214 6) (si := g 214 7) (n := n) w, ← zyPg_5a (sp := g 214 6) (si := g 214 7) (n := n) w] at u
            rw [zyPl_2 w, show (7 : Int) - 1 = 6 from rfl, zyPx_a w]
            refine ⟨fun q => ?_, fun ne => ?_⟩
            · by_cases z : zyPg T (g 214 6) (g 214 7) n (zyPP T n) 4 = 0
              · have u2 := u.2 z
                have z5 : ¬ zyPg T (g 214 6) (g 214 7) n (zyPP T n) 5 = 0 := fun y => by
                  have v := u2.2.1 y
                  have kk := (zyN_0.1 ((zyPg_5a w).symm.trans y)).1
                  have := h.2.1.2.2.2 (zyPP T n + 5) (by have := zyPP_b (T := T) (n := n); omega) (by have := (u2.1.1 y).2.1.2; omega) kk
                  omega
                exact zyDf_o (o := 5) ⟨by decide, by rw [zyPl_2 w]; decide⟩ (zyZ_2 h2 (by decide) z) z5 (u2.1.2 z5)
              · exact zyDf_o (o := 4) ⟨by decide, by rw [zyPl_2 w]; decide⟩ h2 z (u.1 z).2
            · have z : zyPg T (g 214 6) (g 214 7) n (zyPP T n) 4 = 0 := Classical.byContradiction (fun q => ne (u.1 q).1)
              have u2 := u.2 z
              have z5 : zyPg T (g 214 6) (g 214 7) n (zyPP T n) 5 = 0 := Classical.byContradiction (fun q => ne (u2.2.2 q))
              have R := u2.1.1 z5
              rw [show zyPP T n + 5 + 1 = zyPP T n + 6 by omega] at R
              exact ⟨zyZ_2 (zyZ_2 h2 (by decide) z) (by decide) z5, R, u2.2.1 z5⟩
        refine ⟨fun e0 => at_ (Or.inl e0), fun n0 => ⟨fun n2 => ⟨fun n6 => ?_, fun e6 => ?_⟩, fun e2 => at_ (Or.inr e2)⟩⟩
        · refine tail 0 g23 I23 G23 t23 (fun _ => rfl) ⟨by decide, by decide⟩ (fun _ => ?_) (fun T n h => ⟨fun q => absurd q (by decide), fun _ => ?_⟩)
          · unfold zj_deed
            omega
          · obtain ⟨h1, h2, -, -, h5⟩ := L23 T n h
            have w1 : ¬ (T.2.1 (zyPP T n + 2) = 0 ∨ T.2.1 (zyPP T n + 2) = 2) := by omega
            have w2 : ¬ T.2.1 (zyPP T n + 2) = 6 := by omega
            rw [zyPl_n w1 w2, show (5 : Int) - 1 = 4 from rfl, zyPx_e w1 w2]
            exact ⟨h2, h5, rfl⟩
        · refine k_M_readNumber I23 ⟨by decide, by decide⟩ ⟨by decide, by decide⟩ t23.1 t23.2.1 t23.2.2.1 (fun v42 g43 I43 F43 i1 i2 i3 i4 i5 i6 y43 => ?_)
          refine tail v42 g43 I43 (zk_ft G23 F43 sN) ⟨i3, i4, i5, by have := t23.2.2.2; omega⟩ (fun i => F43 234 i (by unfold fr_M_readNumber; omega)) i1 (fun ne => ?_) (fun T n h => ?_)
          · unfold zj_deed
            omega
          · obtain ⟨h1, h2, -, -, h5⟩ := L23 T n h
            have w : T.2.1 (zyPP T n + 2) = 6 := by omega
            have u := y43 1000000004 T _ hr h5 h.2.1
            rw [show (15 : Int) + 1 = 16 from rfl, ← zyPg_4t (sp := g 214 6) (si := g 214 7) (n := n) w] at u
            rw [zyPl_6 w, show (6 : Int) - 1 = 5 from rfl, zyPx_t w]
            refine ⟨fun q => ?_, fun ne => ?_⟩
            · have z : ¬ zyPg T (g 214 6) (g 214 7) n (zyPP T n) 4 = 0 := fun y => by
                have v := u.2.1 y
                have kk := (zyN_0.1 ((zyPg_4t w).symm.trans y)).1
                have := h.2.1.2.2.2 _ h5.2.1.1 h5.2.1.2 kk
                omega
              exact zyDf_o (o := 4) ⟨by decide, by rw [zyPl_6 w]; decide⟩ h2 z (u.1.2 z)
            · have z : zyPg T (g 214 6) (g 214 7) n (zyPP T n) 4 = 0 := Classical.byContradiction (fun q => ne (u.2.2 q))
              have R := u.1.1 z
              rw [show zyPP T n + 4 + 1 = zyPP T n + 5 by omega] at R
              exact ⟨zyZ_2 h2 (by decide) z, R, u.2.1 z⟩
      · refine bad (-1) g23 rfl I23 G23 t23 rr (fun T n h => ?_)
        obtain ⟨-, -, h3, -, h5⟩ := L12 T n h
        obtain ⟨u0, u1, u2, u3⟩ := L20 T n h
        have z : ¬ zyN T (v16 + 1) (zyPP T n + 3) = 0 := fun q => by
          have v := u2 q
          have kk := (zyN_0.1 q).1
          have := h.2.1.2.2.2 _ h5.2.1.1 h5.2.1.2 kk
          omega
        have b := zyPl_b (T.2.1 (zyPP T n + 2))
        exact zG e23 (zyDf_o (o := 3) ⟨by decide, by omega⟩ h3 (by rw [u0]; exact z) (by rw [u0]; exact u1.2 z))
    · refine k_M_errs I5 ⟨by decide, by decide⟩ (fun v g' I' F' c d x => ?_)
      have k13 : g' 214 13 = g5 214 13 := F' 214 13 (by unfold fr_M_errs; omega)
      have k14 : g' 214 14 = g5 214 14 := F' 214 14 (by unfold fr_M_errs; omega)
      have k15 : g' 214 15 = g5 214 15 := F' 214 15 (by unfold fr_M_errs; omega)
      refine bad v g' (by omega) I' (zk_ft G5 F' sE) ⟨by have := t5.1; omega, by have := t5.2.1; omega, d t5.2.2.1, by have := t5.2.2.2; omega⟩ (fun i hi => by rw [F' 234 i (by unfold fr_M_errs; omega)]; exact r5 i hi) (fun T n h => ?_)
      obtain ⟨h1, h2, h3⟩ := L5 T n h
      have k := (zyR_d h3 b16 d2 d3 d4).2 e7
      have z : zyPg T (g 214 6) (g 214 7) n (zyPP T n) 2 = 1 := zyPg_2n k
      have b := zyPl_b (T.2.1 (zyPP T n + 2))
      exact zyDf_o (o := 2) ⟨by decide, by omega⟩ (zyZ_2 zyZ_0 (by decide) h1) (by rw [z]; decide) (by rw [z]; exact x _ _ _ h3)
  · refine bad (-1) g5 rfl I5 G5 t5 r5 (fun T n h => ?_)
    have z1 := N2 T n h e1
    have b := zyPl_b (T.2.1 (zyPP T n + 2))
    exact zG e5 (zyDf_o (o := 1) ⟨by decide, by omega⟩ zyZ_0 z1 ((L2 T n h).1.2 z1))

-- SpoutNewsModel.readPlan()I
theorem k_M_readPlan_l2 {T : zyT} (hE : zyE T) {g0 : zi_M} {K17 K37 : zi_M → Prop} {K46 : Int → zi_M → Prop} {Q : Int → zi_M → Prop}
    (h17 : ∀ g : zi_M, zk_I g → zk_fr fr_M_readPlan g0 g → (∀ i : Int, i < 64 → g 234 i = g0 234 i) → zyR 1000000004 T g (zyPP T 16) → zyPi T (g0 214 6) (g0 214 7) 16 0 → zyPg T (g0 214 6) (g0 214 7) 16 (zyPP T 16) 0 = 3 → K17 g)
    (hF : ∀ (g : zi_M) (n o : Int), zk_I g → zk_fr fr_M_readPlan g0 g → (∀ i : Int, i < 64 → g 234 i = g0 234 i) → zyPi T (g0 214 6) (g0 214 7) n o → ¬ zyPg T (g0 214 6) (g0 214 7) n (zyPP T n) o = -1 → zyG T g (zyPg T (g0 214 6) (g0 214 7) n (zyPP T n) o) (zyPP T n + o) → K37 g)
    (hN : ∀ (n : Int) (g : zi_M), zk_I g → zk_fr fr_M_readPlan g0 g → (∀ i : Int, i < 64 → g 234 i = g0 234 i) → 0 ≤ n → n ≤ 16 → zd g n → zyR 1000000004 T g (zyPP T n) → zyPr T g n → (∀ m : Int, 0 ≤ m → m < n → ∀ k : Int, 0 ≤ k → k < zyPl (T.2.1 (zyPP T m + 2)) → zyPg T (g0 214 6) (g0 214 7) m (zyPP T m) k = 0) → ¬ (T.1 (zyPP T n) = 2 ∧ T.2.1 (zyPP T n) = 7) → K46 n g) :
    ∀ (m : Nat) (l1 : Int) (g : zi_M), zk_I g → zk_fr fr_M_readPlan g0 g → (∀ i : Int, i < 64 → g 234 i = g0 234 i) → (g 214 14 ≤ g 214 13 ∧ g 214 15 ≤ g 214 14 ∧ zt3 g) → (0 ≤ l1 ∧ l1 ≤ 16) → zd g l1 → zyR 1000000004 T g (zyPP T l1) → zyPr T g l1 → (∀ m : Int, 0 ≤ m → m < l1 → ∀ k : Int, 0 ≤ k → k < zyPl (T.2.1 (zyPP T m + 2)) → zyPg T (g0 214 6) (g0 214 7) m (zyPP T m) k = 0) → 16 - l1 < (m : Int) → w_M_readPlan_l2 K17 K37 K46 Q m l1 g
  | 0, l1, g, I, F, hk, hq, hl, hd, hc, hw, hz, hm => by exfalso; omega
  | m + 1, l1, g, I, F, hk, hq, hl, hd, hc, hw, hz, hm => by
    have hr : zs_str 1000000004 := rfl
    have z4 := zyk4
    have e6 : g 214 6 = g0 214 6 := F 214 6 (by unfold fr_M_readPlan; omega)
    have e7 : g 214 7 = g0 214 7 := F 214 7 (by unfold fr_M_readPlan; omega)
    unfold w_M_readPlan_l2
    refine k_M_isWord I ⟨by decide, by decide⟩ (fun v1 a1 a2 a3 => ⟨fun e => ?_, fun ne => ⟨⟨by omega, by omega⟩, fun n16 => ?_, fun e16 => ?_⟩⟩)
    · exact hN l1 g I F hk hl.1 hl.2 hd hc hw hz (fun q => by
        have k := (zyR_w (w := 18) (j := 7) hr hc ⟨by decide, by omega⟩ z4.2.2.1.symm).2 q
        omega)
    · have k := (zyR_w (w := 18) (j := 7) hr hc ⟨by decide, by omega⟩ z4.2.2.1.symm).1 (by omega)
      have y0 : zyPg T (g0 214 6) (g0 214 7) l1 (zyPP T l1) 0 = 0 := (zyPg_0 (by omega)).trans (zyL_0.2 ⟨k, by omega⟩)
      refine k_M_readDeed I ⟨by omega, by omega⟩ hq.1 hq.2.1 hq.2.2 (fun v5 g6 I6 F6 c1 c2 c3 c4 c5 c6 c7 x => ⟨⟨by omega, by omega⟩, fun ne => ?_, fun e => ?_⟩)
      · have G6 := zk_ft F F6 (fun a i h => h)
        have u := x T l1 ⟨hc, hE, hl.1, k⟩
        rw [e6, e7] at u
        rcases u with u | ⟨-, u1, u2, u3, u4, u5, u6⟩
        · exact absurd u.1 ne
        · refine k_M_readPlan_l2 hE h17 hF hN m (l1 + 1) g6 I6 G6 (fun i hi => by rw [c7 i (by omega)]; exact hk i hi) ⟨c2, c3, c4⟩ ⟨by omega, by omega⟩ (zd_step hd (fun i hi => c7 i hi) (c6 ne)) (by rw [zyPP_s hl.1]; exact u2) (fun k k0 k1 => ?_) (zyPm_s hz y0 u1) (by omega)
          by_cases q : k = l1
          · rw [q]; exact ⟨u3, u4, u5, u6⟩
          · rw [c7 _ (by omega), c7 _ (by omega), c7 _ (by omega), c7 _ (by omega)]
            exact hw k k0 (by omega)
      · have G6 := zk_ft F F6 (fun a i h => h)
        have u := x T l1 ⟨hc, hE, hl.1, k⟩
        rw [e6, e7] at u
        rcases u with u | u
        · obtain ⟨o, w1, w2, w3⟩ := zyPi_f hl.1 hz y0 u.2
          exact hF g6 l1 o I6 G6 (fun i hi => by rw [c7 i (by omega)]; exact hk i hi) w1 w2 w3
        · exfalso; have := u.1; omega
    · have k := (zyR_w (w := 18) (j := 7) hr hc ⟨by decide, by omega⟩ z4.2.2.1.symm).1 (by omega)
      have y0 : zyPg T (g0 214 6) (g0 214 7) l1 (zyPP T l1) 0 = 3 := (zyPg_0 (by omega)).trans (zyL_3 k (by omega))
      rw [e16] at hc hz y0
      exact h17 g I F hk hc (zyPi_0 (by decide) hz (by rw [y0]; decide)) y0
theorem k_M_readPlan {g : zi_M} {Q : Int → zi_M → Prop} (I : zk_I g) (px0 : g 214 14 ≤ g 214 13) (px1 : g 214 15 ≤ g 214 14) (px2 : zt3 g) (px3 : zyR 1000000004 (zyM g) g 0 ∧ zyE (zyM g)) (hQ : ∀ (v : Int) (g' : zi_M), zk_I g' → zk_fr fr_M_readPlan g g' → ((-1) ≤ v ∧ v ≤ 16) → (¬ v = -1 → zd g' v) → (∀ i : Int, i < 64 → g' 234 i = g 234 i) → (zyPM (zyM g) (g 214 6) (g 214 7) g' v) → Q v g') : w_M_readPlan g Q := by
  unfold w_M_readPlan
  have hr : zs_str 1000000004 := rfl
  refine ⟨17, k_M_readPlan_l2 px3.2 (g0 := g) (fun g26 I26 F26 hk hc hi hy => ?_) (fun g' n o I' F' hk hi hn hf => ?_) (fun n g33 I33 F33 hk n0 n16 hd hc hw hz hno => ?_) 17 0 g I (zk_f0 _) (fun _ _ => rfl) ⟨px0, px1, px2⟩ ⟨by decide, by decide⟩ (zd_0 _) px3.1 (fun k k0 k1 => by exfalso; omega) (fun k k0 k1 => by exfalso; omega) (by omega)⟩
  · refine k_M_errs I26 ⟨by decide, by decide⟩ (fun v g' I' F' c d x => ?_)
    have y := x _ _ _ hc
    exact hQ v g' I' (zk_ft F26 F' (fun a i h => by unfold fr_M_errs at h; unfold fr_M_readPlan; omega)) ⟨by omega, by omega⟩ (fun q => by exfalso; omega) (fun i hi => by rw [F' 234 i (by unfold fr_M_errs; omega)]; exact hk i hi) ⟨16, 0, hi, fun q => by omega, fun _ => ⟨by omega, by rw [hy, Int.add_zero]; exact y⟩⟩
  · exact hQ (-1) g' I' F' ⟨by decide, by decide⟩ (fun q => absurd rfl q) hk ⟨n, o, hi, fun q => absurd q hn, fun _ => ⟨rfl, hf⟩⟩
  · have b16 : 0 ≤ g33 214 16 ∧ g33 214 16 ≤ 4 := I33.1 214 16
    refine ⟨⟨by omega, by omega⟩, fun ne => ?_, fun e => ?_⟩
    · have k4 : ¬ (zyM g).1 (zyPP (zyM g) n) = 4 := fun q => ne ((zyR_k hr hc).1.2 q)
      have y0 : zyPg (zyM g) (g 214 6) (g 214 7) n (zyPP (zyM g) n) 0 = 1 := (zyPg_0 k4).trans (zyL_1 hno)
      refine k_M_errs I33 ⟨by decide, by decide⟩ (fun v g' I' F' c d x => ?_)
      have y := x _ _ _ hc
      exact hQ v g' I' (zk_ft F33 F' (fun a i h => by unfold fr_M_errs at h; unfold fr_M_readPlan; omega)) ⟨by omega, by omega⟩ (fun q => by exfalso; omega) (fun i hi => by rw [F' 234 i (by unfold fr_M_errs; omega)]; exact hk i hi) ⟨n, 0, zyPi_0 n0 hz (by rw [y0]; decide), fun q => by omega, fun _ => ⟨by omega, by rw [y0, Int.add_zero]; exact y⟩⟩
    · have k4 : (zyM g).1 (zyPP (zyM g) n) = 4 := (zyR_k hr hc).1.1 e
      have y0 : zyPg (zyM g) (g 214 6) (g 214 7) n (zyPP (zyM g) n) 0 = -1 := zyPg_e k4
      exact hQ n g33 I33 F33 ⟨by omega, by omega⟩ (fun _ => hd) hk ⟨n, 0, zyPi_0 n0 hz (by rw [y0]; decide), fun _ => ⟨rfl, hw⟩, fun q => absurd y0 q⟩

-- SpoutNewsModel.readWeather()I
theorem k_M_readWeather_l2 {T : zyT} (hE : zyE T) {g0 : zi_M} {K17 K56 K97 : zi_M → Prop} {K106 : Int → zi_M → Prop} {Q : Int → zi_M → Prop}
    (h17 : ∀ g : zi_M, zk_I g → zk_fr fr_M_readWeather g0 g → (∀ i : Int, i < 32 → g 233 i = g0 233 i) → zyR 1000000003 T g (5 * 16) → zyI (zyW T) (5 * 16) → zyW T (5 * 16) = 3 → K17 g)
    (hF : ∀ (g : zi_M) (s : Int), zk_I g → zk_fr fr_M_readWeather g0 g → (∀ i : Int, i < 32 → g 233 i = g0 233 i) → zyI (zyW T) s → ¬ zyW T s = -1 → zyG T g (zyW T s) s → K56 g ∧ K97 g)
    (hN : ∀ (n : Int) (g : zi_M), zk_I g → zk_fr fr_M_readWeather g0 g → (∀ i : Int, i < 32 → g 233 i = g0 233 i) → 0 ≤ n → n ≤ 16 → zyR 1000000003 T g (5 * n) → zyWx T g n → (∀ i : Int, 0 ≤ i → i < 5 * n → zyW T i = 0) → ¬ (T.1 (5 * n) = 2 ∧ T.2.1 (5 * n) = 0) → K106 n g) :
    ∀ (m : Nat) (l1 : Int) (g : zi_M), zk_I g → zk_fr fr_M_readWeather g0 g → (∀ i : Int, i < 32 → g 233 i = g0 233 i) → (g 214 14 ≤ g 214 13 ∧ g 214 15 ≤ g 214 14 ∧ zt3 g) → (0 ≤ l1 ∧ l1 ≤ 16) → zyR 1000000003 T g (5 * l1) → zyWx T g l1 → (∀ i : Int, 0 ≤ i → i < 5 * l1 → zyW T i = 0) → 16 - l1 < (m : Int) → w_M_readWeather_l2 K17 K56 K97 K106 Q m l1 g
  | 0, l1, g, I, F, hk, hq, hl, hc, hw, hz, hm => by exfalso; omega
  | m + 1, l1, g, I, F, hk, hq, hl, hc, hw, hz, hm => by
    have hr : zs_str 1000000003 := rfl
    have z3 := zyk3
    have sub : ∀ a i, fr_M_readTold a i → fr_M_readWeather a i := fun a i h => by unfold fr_M_readTold at h; unfold fr_M_readWeather; omega
    have sub2 : ∀ a i, fr_M_readMark a i → fr_M_readWeather a i := fun a i h => by unfold fr_M_readMark at h; unfold fr_M_readWeather; omega
    have rt : ∀ {x y : zi_M}, zk_fr fr_M_readTold x y → y 233 = x 233 := fun {x y} G => funext (fun i => G 233 i (by unfold fr_M_readTold; omega))
    unfold w_M_readWeather_l2
    refine k_M_isWord I ⟨by decide, by decide⟩ (fun v1 a1 a2 a3 => ⟨fun e => ?_, fun ne => ⟨⟨by omega, by omega⟩, fun n16 => ?_, fun e16 => ?_⟩⟩)
    · exact hN l1 g I F hk hl.1 hl.2 hc hw hz (fun q => by
        have k := (zyR_w (w := 15) (j := 0) hr hc ⟨by decide, by omega⟩ z3.2.1.symm).2 q
        omega)
    · have k := (zyR_w (w := 15) (j := 0) hr hc ⟨by decide, by omega⟩ z3.2.1.symm).1 (by omega)
      have k4 : ¬ T.1 (5 * l1) = 4 := by omega
      have y0 : zyW T (5 * l1) = 0 := (zyW_0 k4).trans (zyL_0.2 ⟨k, by omega⟩)
      have hz1 := zyI_s hz y0
      refine k_M_readTold I ⟨by decide, by decide⟩ ⟨by decide, by decide⟩ ⟨by decide, by decide⟩ hq.1 hq.2.1 hq.2.2 (fun v5 g6 I6 F6 c1 c2 c3 c4 c5 c6 x => ⟨⟨by omega, by omega⟩, ?_⟩)
      have u := (x 1000000003 T _ 0 hr (by decide) (by omega) z3.2.1.symm hc hE).2 (zyK_0.2 k)
      rw [show (999 : Int) + 1 = 1000 from rfl, ← zyW_1] at u
      have G6 := zk_ft F F6 sub
      intro g9 e9
      have I9 : zk_I g9 := by rw [e9]; exact zk_upd (L := -2147483648) (H := 2147483647) rfl rfl I6 ⟨by omega, by omega⟩
      have G9 : zk_fr fr_M_readWeather g0 g9 := by rw [e9]; exact zk_fu G6 (Or.inl rfl)
      have v9 : g9 233 (32 + 2 * l1) = v5 := by rw [e9, zi_u_eq]
      have hk9 : ∀ i : Int, i < 32 → g9 233 i = g0 233 i := fun i hi => by rw [e9, zi_u_ni (by omega), rt F6]; exact hk i hi
      rw [v9]
      refine ⟨⟨by omega, by omega⟩, fun n5 => ?_, fun e5 => ?_⟩
      · have z1 : zyW T (5 * l1 + 1) = 0 := Classical.byContradiction (fun q => n5 (u.2.2 q))
        have R6 := u.1.1 z1
        have w5 := u.2.1 z1
        have hz2 := zyI_s hz1 z1
        have R9 := zyR_u R6 e9 ⟨by decide, by decide⟩
        have e9' : ∀ i : Int, g9 214 i = g6 214 i := fun i => by rw [e9]; exact zi_u_ne (by decide)
        refine k_M_readTold I9 ⟨by decide, by decide⟩ ⟨by decide, by decide⟩ ⟨by decide, by decide⟩ (by rw [e9', e9']; exact c3) (by rw [e9', e9']; exact c4) (zt3_e c5 (e9' _) (e9' _) (e9' _) (e9' _)) (fun v11 g12 I12 F12 d1 d2 d3 d4 d5 d6 x => ⟨⟨by omega, by omega⟩, ?_⟩)
        have u := x 1000000003 T _ 1 hr (by decide) (by omega) z3.2.2.symm R9 hE
        rw [← zyW_2, show (9 : Int) + 1 = 10 from rfl, ← zyW_3] at u
        have G12 := zk_ft G9 F12 sub
        intro g15 e15
        have I15 : zk_I g15 := by rw [e15]; exact zk_upd (L := -2147483648) (H := 2147483647) rfl rfl I12 ⟨by omega, by omega⟩
        have G15 : zk_fr fr_M_readWeather g0 g15 := by rw [e15]; exact zk_fu G12 (Or.inl rfl)
        have v15 : g15 233 (32 + 2 * l1 + 1) = v11 := by rw [e15, zi_u_eq]
        have hk15 : ∀ i : Int, i < 32 → g15 233 i = g0 233 i := fun i hi => by rw [e15, zi_u_ni (by omega), rt F12]; exact hk9 i hi
        have e15' : ∀ i : Int, g15 214 i = g12 214 i := fun i => by rw [e15]; exact zi_u_ne (by decide)
        rw [v15]
        refine ⟨⟨by omega, by omega⟩, fun e11 => ?_, fun n11 => ?_⟩
        · by_cases z2 : zyW T (5 * l1 + 1 + 1) = 0
          · have w := u.2 z2
            have hz3 := zyI_s hz2 z2
            have z3' : ¬ zyW T (5 * l1 + 1 + 1 + 1) = 0 := fun q => by
              have v := w.2.1 q
              have k := zyN_0.1 (zyW_3.symm.trans q)
              have := hE.2.2.2 (5 * l1 + 1 + 1 + 1) (by omega) (by have := (w.1.1 q).2.1.2; omega) k.1
              omega
            have f := w.1.2 z3'
            exact (hF g15 _ I15 G15 hk15 ⟨by omega, hz3, z3'⟩ (by rw [zyW_3]; exact zyN_ne) ⟨by rw [e15']; exact f.1, by rw [e15']; exact f.2⟩).2
          · have f := (u.1 z2).2
            exact (hF g15 _ I15 G15 hk15 ⟨by omega, hz2, z2⟩ (by rw [zyW_2]; exact zyK_ne) ⟨by rw [e15']; exact f.1, by rw [e15']; exact f.2⟩).2
        · have z2 : zyW T (5 * l1 + 1 + 1) = 0 := Classical.byContradiction (fun q => n11 (u.1 q).1)
          have w := u.2 z2
          have hz3 := zyI_s hz2 z2
          have z3' : zyW T (5 * l1 + 1 + 1 + 1) = 0 := Classical.byContradiction (fun q => n11 (w.2.2 q))
          have R12 := w.1.1 z3'
          have w11 := w.2.1 z3'
          have hz4 := zyI_s hz3 z3'
          have R15 := zyR_u R12 e15 ⟨by decide, by decide⟩
          refine k_M_readMark I15 ⟨by decide, by decide⟩ (by rw [e15', e15']; exact d3) (by rw [e15', e15']; exact d4) (zt3_e d5 (e15' _) (e15' _) (e15' _) (e15' _)) (fun v17 g18 I18 F18 f1 f2 f3 f4 f5 x => ⟨⟨by omega, by omega⟩, fun n17 => ?_, fun e17 => ?_⟩)
          · have u := x 1000000003 T _ hr R15 hE
            rw [← zyW_4] at u
            have z4 : zyW T (5 * l1 + 1 + 1 + 1 + 1) = 0 := Classical.byContradiction (fun q => n17 (u.2.2 q))
            have R18 := u.1.1 z4
            have hz5 := zyI_s hz4 z4
            have r18 : g18 233 = g15 233 := funext (fun i => F18 233 i (by unfold fr_M_readMark; omega))
            refine k_M_readWeather_l2 hE h17 hF hN m (l1 + 1) g18 I18 (zk_ft G15 F18 sub2) (fun i hi => by rw [r18]; exact hk15 i hi) ⟨f2, f3, f4⟩ ⟨by omega, by omega⟩ ?_ (zyWx_s hw (rt F6) e9 (rt F12) e15 r18 w5 w11) ?_ (by omega)
            · rw [show 5 * (l1 + 1) = 5 * l1 + 1 + 1 + 1 + 1 + 1 by omega]; exact R18
            · rw [show 5 * (l1 + 1) = 5 * l1 + 1 + 1 + 1 + 1 + 1 by omega]; exact hz5
          · have u := x 1000000003 T _ hr R15 hE
            rw [← zyW_4] at u
            have z4 : ¬ zyW T (5 * l1 + 1 + 1 + 1 + 1) = 0 := fun q => by have := u.2.1 q; omega
            have r18 : g18 233 = g15 233 := funext (fun i => F18 233 i (by unfold fr_M_readMark; omega))
            exact (hF g18 _ I18 (zk_ft G15 F18 sub2) (fun i hi => by rw [r18]; exact hk15 i hi) ⟨by omega, hz4, z4⟩ (by rw [zyW_4]; exact zyK_ne) (u.1.2 z4)).2
      · have z1 : ¬ zyW T (5 * l1 + 1) = 0 := fun q => by
          have v := u.2.1 q
          have k := zyN_0.1 (zyW_1.symm.trans q)
          have := hE.2.2.2 (5 * l1 + 1) (by omega) (by have := (u.1.1 q).2.1.2; omega) k.1
          omega
        have f := u.1.2 z1
        have e9' : ∀ i : Int, g9 214 i = g6 214 i := fun i => by rw [e9]; exact zi_u_ne (by decide)
        exact (hF g9 _ I9 G9 hk9 ⟨by omega, hz1, z1⟩ (by rw [zyW_1]; exact zyN_ne) ⟨by rw [e9']; exact f.1, by rw [e9']; exact f.2⟩).1
    · have k := (zyR_w (w := 15) (j := 0) hr hc ⟨by decide, by omega⟩ z3.2.1.symm).1 (by omega)
      have k4 : ¬ T.1 (5 * l1) = 4 := by omega
      have y0 : zyW T (5 * l1) = 3 := (zyW_0 k4).trans (zyL_3 k (by omega))
      rw [e16] at hc hz y0
      exact h17 g I F hk hc ⟨by decide, hz, by rw [y0]; decide⟩ y0
theorem k_M_readWeather {g : zi_M} {Q : Int → zi_M → Prop} (I : zk_I g) (px0 : g 214 14 ≤ g 214 13) (px1 : g 214 15 ≤ g 214 14) (px2 : zt3 g) (px3 : zyR 1000000003 (zyM g) g 0 ∧ zyE (zyM g)) (hQ : ∀ (v : Int) (g' : zi_M), zk_I g' → zk_fr fr_M_readWeather g g' → ((-1) ≤ v ∧ v ≤ 16) → (∀ i : Int, i < 32 → g' 233 i = g 233 i) → (zyWm (zyM g) g' v) → Q v g') : w_M_readWeather g Q := by
  unfold w_M_readWeather
  have hr : zs_str 1000000003 := rfl
  refine ⟨17, k_M_readWeather_l2 px3.2 (g0 := g) (fun g26 I26 F26 hk hc hi hy => ?_) (fun g' s I' F' hk hs hn hf => ?_) (fun n g33 I33 F33 hk n0 n16 hc hw hz hno => ?_) 17 0 g I (zk_f0 _) (fun _ _ => rfl) ⟨px0, px1, px2⟩ ⟨by decide, by decide⟩ (by rw [Int.mul_zero]; exact px3.1) (fun k k0 k1 => by exfalso; omega) (fun i i0 i1 => by exfalso; omega) (by omega)⟩
  · refine k_M_errs I26 ⟨by decide, by decide⟩ (fun v g' I' F' c d x => ?_)
    have y := x _ _ _ hc
    exact hQ v g' I' (zk_ft F26 F' (fun a i h => by unfold fr_M_errs at h; unfold fr_M_readWeather; omega)) ⟨by omega, by omega⟩ (fun i hi => by rw [F' 233 i (by unfold fr_M_errs; omega)]; exact hk i hi) ⟨_, hi, fun q => by omega, fun _ => ⟨by omega, by rw [hy]; exact y⟩⟩
  · have r := hQ (-1) g' I' F' ⟨by decide, by decide⟩ hk ⟨s, hs, fun q => absurd q hn, fun _ => ⟨rfl, hf⟩⟩
    exact ⟨r, r⟩
  · have b16 : 0 ≤ g33 214 16 ∧ g33 214 16 ≤ 4 := I33.1 214 16
    refine ⟨⟨by omega, by omega⟩, fun ne => ?_, fun e => ?_⟩
    · have k4 : ¬ (zyM g).1 (5 * n) = 4 := fun q => ne ((zyR_k hr hc).1.2 q)
      have y0 := (zyW_0 k4).trans (zyL_1 hno)
      refine k_M_errs I33 ⟨by decide, by decide⟩ (fun v g' I' F' c d x => ?_)
      have y := x _ _ _ hc
      exact hQ v g' I' (zk_ft F33 F' (fun a i h => by unfold fr_M_errs at h; unfold fr_M_readWeather; omega)) ⟨by omega, by omega⟩ (fun i hi => by rw [F' 233 i (by unfold fr_M_errs; omega)]; exact hk i hi) ⟨_, ⟨by omega, hz, by rw [y0]; decide⟩, fun q => by omega, fun _ => ⟨by omega, by rw [y0]; exact y⟩⟩
    · have k4 : (zyM g).1 (5 * n) = 4 := (zyR_k hr hc).1.1 e
      have y0 := zyW_e k4
      exact hQ n g33 I33 F33 ⟨by omega, by omega⟩ hk ⟨_, ⟨by omega, hz, by rw [y0]; decide⟩, fun _ => ⟨rfl, hw⟩, fun q => absurd y0 q⟩

-- SpoutNewsModel.readGutter()I
theorem k_M_readGutter {g : zi_M} {Q : Int → zi_M → Prop} (I : zk_I g) (px0 : g 214 14 ≤ g 214 13) (px1 : g 214 15 ≤ g 214 14) (px2 : zt3 g) (hQ : ∀ (v : Int) (g' : zi_M), zk_I g' → zk_fr fr_M_readGutter g g' → ((-1) ≤ v ∧ v ≤ 0) → (g' 214 14 ≤ g' 214 13) → (g' 214 15 ≤ g' 214 14) → (zt3 g') → (g 214 15 ≤ g' 214 15) → (∀ i : Int, i < 10 → g' 232 i = g 232 i) → (∀ (T : zyT) (n : Int), zyHp T g n → zyHl T (g 214 6) g g' n v) → Q v g') : w_M_readGutter g Q := by
  have hr : zs_str 1000000002 := rfl
  have z2 := zyk2
  have bsp : 0 ≤ g 214 6 ∧ g 214 6 ≤ 10 := I.1 214 6
  have er : ∀ (x : zi_M) (e : Int), zk_I x → zk_fr fr_M_readGutter g x → x 232 = g 232 → (x 214 14 ≤ x 214 13 ∧ x 214 15 ≤ x 214 14 ∧ zt3 x ∧ g 214 15 ≤ x 214 15) → 1 ≤ e → e ≤ 3 → (∀ (T : zyT) (n : Int), zyHp T g n → ∃ s : Int, zyR 1000000002 T x s ∧ (5 * n + 1 ≤ s ∧ s ≤ 5 * n + 4) ∧ (∀ i : Int, 5 * n + 1 ≤ i → i < s → zyH T (g 214 6) i = 0) ∧ zyH T (g 214 6) s = e) → w_M_errs e x (fun v g' => Q v g') := by
    intro x e Ix Fx rx tx e1 e3 hs
    refine k_M_errs Ix ⟨e1, e3⟩ (fun v g' I' F' c d y => ?_)
    have k13 : g' 214 13 = x 214 13 := F' 214 13 (by unfold fr_M_errs; omega)
    have k14 : g' 214 14 = x 214 14 := F' 214 14 (by unfold fr_M_errs; omega)
    have k15 : g' 214 15 = x 214 15 := F' 214 15 (by unfold fr_M_errs; omega)
    refine hQ v g' I' (zk_ft Fx F' (fun a i h => by unfold fr_M_errs at h; unfold fr_M_readGutter; omega)) ⟨by omega, by omega⟩ (by omega) (by omega) (d tx.2.2.1) (by omega) (fun i _ => by rw [F' 232 i (by unfold fr_M_errs; omega), rx]) (fun T n hp => Or.inl ⟨by omega, ?_⟩)
    obtain ⟨s, s1, s2, s3, s4⟩ := hs T n hp
    exact ⟨s, s2, s3, by rw [s4]; omega, by rw [s4]; exact y _ _ _ s1⟩
  have b62 : ∀ (l1 : Int) (x : zi_M), zk_I x → zk_fr fr_M_readGutter g x → (x 214 14 ≤ x 214 13 ∧ x 214 15 ≤ x 214 14 ∧ zt3 x ∧ g 214 15 ≤ x 214 15) → (0 ≤ l1 ∧ l1 ≤ 9) → x 214 6 = g 214 6 → x 232 = g 232 → (∀ (T : zyT) (n : Int), zyHp T g n → l1 = T.2.1 (5 * n + 1) ∧ zyR 1000000002 T x (5 * n + 1 + 1 + 1) ∧ (∀ i : Int, 5 * n + 1 ≤ i → i < 5 * n + 1 + 1 + 1 → zyH T (g 214 6) i = 0) ∧ zyH T (g 214 6) (5 * n + 1 + 1 + 1) = zyN T (g 214 6) (5 * n + 1 + 1 + 1)) → w_M_readGutter_b62 l1 x Q := by
    intro l1 x Ix Fx tx hl e6 e232 hp
    unfold w_M_readGutter_b62
    refine k_M_readNumber Ix ⟨by omega, by omega⟩ ⟨by omega, by omega⟩ tx.1 tx.2.1 tx.2.2.1 (fun v12 g13 I13 F13 c1 c2 c3 c4 c5 c6 y => ⟨⟨by omega, by omega⟩, fun ne => ⟨⟨by omega, by omega⟩, ?_⟩, fun e => ?_⟩)
    · have G13 := zk_ft Fx F13 (fun a i h => by unfold fr_M_readNumber at h; unfold fr_M_readGutter; omega)
      have r13 : g13 232 = g 232 := by rw [← e232]; exact funext (fun i => F13 232 i (by unfold fr_M_readNumber; omega))
      intro g17 e17
      have I17 : zk_I g17 := by rw [e17]; exact zk_upd (L := 0) (H := 10) rfl rfl I13 ⟨by omega, by omega⟩
      have G17 : zk_fr fr_M_readGutter g g17 := by rw [e17]; exact zk_fu G13 (Or.inl rfl)
      have e17' : ∀ i : Int, g17 214 i = g13 214 i := fun i => by rw [e17]; exact zi_u_ne (by decide)
      have q15 := e17' 15
      refine k_M_readMark I17 ⟨by decide, by decide⟩ (by rw [e17', e17']; exact c3) (by rw [e17', e17']; exact c4) (zt3_e c5 (e17' _) (e17' _) (e17' _) (e17' _)) (fun v18 g19 I19 F19 d1 d2 d3 d4 d5 w => ?_)
      refine hQ v18 g19 I19 (zk_ft G17 F19 (fun a i h => by unfold fr_M_readMark at h; unfold fr_M_readGutter; omega)) d1 d2 d3 d4 (by omega) (fun i hi => by rw [F19 232 i (by unfold fr_M_readMark; omega), e17, zi_u_ni (by omega), r13]) (fun T n h => ?_)
      obtain ⟨h1, h2, h3, h4⟩ := hp T n h
      have hE := h.2.1
      have u := y 1000000002 T _ hr h2 hE
      rw [e6, show g 214 6 - 1 + 1 = g 214 6 by omega, ← h4] at u
      have y3 : zyH T (g 214 6) (5 * n + 1 + 1 + 1) = 0 := Classical.byContradiction (fun q => ne (u.2.2 q))
      have R13 := u.1.1 y3
      have w12 := u.2.1 y3
      have u2 := w 1000000002 T _ hr (zyR_u R13 e17 ⟨by decide, by decide⟩) hE
      rw [← zyH_4 (sp := g 214 6)] at u2
      have hz := zyZ_s h3 y3
      have r19 : g19 232 = g17 232 := funext (fun i => F19 232 i (by unfold fr_M_readMark; omega))
      by_cases z4 : zyH T (g 214 6) (5 * n + 1 + 1 + 1 + 1) = 0
      · refine Or.inr ⟨u2.2.1 z4, ?_, ?_, fun k k0 k1 => ⟨fun q => ?_, fun q => ?_⟩⟩
        · rw [show 5 * n + 5 = 5 * n + 1 + 1 + 1 + 1 + 1 by omega]; exact zyZ_s hz z4
        · rw [show 5 * n + 5 = 5 * n + 1 + 1 + 1 + 1 + 1 by omega]; exact u2.1.1 z4
        · rw [r19, e17, show 10 + k = 10 + l1 by omega, zi_u_eq, w12]
        · rw [r19, e17, zi_u_ni (by omega), r13]
      · exact Or.inl ⟨u2.2.2 z4, _, ⟨by omega, by omega⟩, hz, z4, u2.1.2 z4⟩
    · refine hQ (-1) g13 I13 (zk_ft Fx F13 (fun a i h => by unfold fr_M_readNumber at h; unfold fr_M_readGutter; omega)) ⟨by decide, by decide⟩ c3 c4 c5 (by omega) (fun i _ => by rw [F13 232 i (by unfold fr_M_readNumber; omega), e232]) (fun T n h => ?_)
      obtain ⟨h1, h2, h3, h4⟩ := hp T n h
      have hE := h.2.1
      have u := y 1000000002 T _ hr h2 hE
      rw [e6, show g 214 6 - 1 + 1 = g 214 6 by omega, ← h4] at u
      have y3 : ¬ zyH T (g 214 6) (5 * n + 1 + 1 + 1) = 0 := fun q => by
        have v := u.2.1 q
        have k := zyN_0.1 (h4.symm.trans q)
        have := hE.2.2.2 _ h2.2.1.1 h2.2.1.2 k.1
        omega
      exact Or.inl ⟨rfl, _, ⟨by omega, by omega⟩, h3, y3, u.1.2 y3⟩
  unfold w_M_readGutter
  refine k_M_readTold I ⟨by decide, by decide⟩ ⟨by decide, by decide⟩ ⟨by omega, by omega⟩ px0 px1 px2 (fun v1 g2 I2 F2 c1 c2 c3 c4 c5 c6 y => ⟨⟨by omega, by omega⟩, fun ne => ?_, fun e => ?_⟩)
  · have G2 : zk_fr fr_M_readGutter g g2 := zk_ft (zk_f0 _) F2 (fun a i h => by unfold fr_M_readTold at h; unfold fr_M_readGutter; omega)
    have L2 : ∀ (T : zyT) (n : Int), zyHp T g n → v1 = T.2.1 (5 * n + 1) ∧ zyR 1000000002 T g2 (5 * n + 1 + 1) ∧ (∀ i : Int, 5 * n + 1 ≤ i → i < 5 * n + 1 + 1 → zyH T (g 214 6) i = 0) := by
      intro T n h
      have u := (y 1000000002 T _ 0 hr (by decide) (by omega) z2.2.1.symm h.1 h.2.1).2 h.2.2.1
      rw [show g 214 6 - 1 + 1 = g 214 6 by omega, ← zyH_1] at u
      have z1 : zyH T (g 214 6) (5 * n + 1) = 0 := Classical.byContradiction (fun q => ne (u.2.2 q))
      exact ⟨u.2.1 z1, u.1.1 z1, zyZ_s zyZ_0 z1⟩
    refine k_M_isWord I2 ⟨by decide, by decide⟩ (fun v5 a1 a2 a3 => ⟨fun n5 => ?_, fun e5 => ?_⟩)
    · have b16 : 0 ≤ g2 214 16 ∧ g2 214 16 ≤ 4 := I2.1 214 16
      have w2 : g2 214 16 = 2 ∧ g2 214 17 = 17 := by omega
      refine k_M_reads I2 c3 (fun g9 I9 F9 d1 d2 d3 d4 d5 => ?_)
      have k13 : g9 214 13 = g2 214 13 := F9 214 13 (by unfold fr_M_reads; omega)
      have r16 : 0 ≤ g9 214 16 ∧ g9 214 16 ≤ 4 := I9.1 214 16
      have r17 : -1 ≤ g9 214 17 ∧ g9 214 17 ≤ 100000 := I9.1 214 17
      have G9 := zk_ft G2 F9 (fun a i h => by unfold fr_M_reads at h; unfold fr_M_readGutter; omega)
      have q6 : g9 214 6 = g 214 6 := by rw [F9 214 6 (by unfold fr_M_reads; omega), F2 214 6 (by unfold fr_M_readTold; omega)]
      have q232 : g9 232 = g 232 := funext (fun i => by rw [F9 232 i (by unfold fr_M_reads; omega), F2 232 i (by unfold fr_M_readTold; omega)])
      have tx : g9 214 14 ≤ g9 214 13 ∧ g9 214 15 ≤ g9 214 14 ∧ zt3 g9 ∧ g 214 15 ≤ g9 214 15 := ⟨by omega, by omega, d4, by omega⟩
      have L9 : ∀ (T : zyT) (n : Int), zyHp T g n → v1 = T.2.1 (5 * n + 1) ∧ zyR 1000000002 T g9 (5 * n + 1 + 1 + 1) ∧ (∀ i : Int, 5 * n + 1 ≤ i → i < 5 * n + 1 + 1 + 1 → zyH T (g 214 6) i = 0) := by
        intro T n h
        obtain ⟨h1, h2, h3⟩ := L2 T n h
        have k := (zyR_w (w := 17) (j := 1) hr h2 ⟨by decide, by omega⟩ z2.2.2.symm).1 w2
        have zz : zyH T (g 214 6) (5 * n + 1 + 1) = 0 := zyH_2.trans (zyK_0.2 k)
        exact ⟨h1, zyR_n h2 F9 d5 (zyE_lt h.2.1 h2.2.1.2 (by omega)), zyZ_s h3 zz⟩
      have nb : ¬ (g9 214 16 = 3 ∧ g9 214 17 = v1) → w_M_readGutter_b62 v1 g9 Q := fun no => b62 v1 g9 I9 G9 tx ⟨by omega, by omega⟩ q6 q232 (fun T n h => by
        obtain ⟨h1, h2, h3⟩ := L9 T n h
        refine ⟨h1, h2, h3, zyH_3n (fun q => no ?_)⟩
        have e3 := (zyR_k hr h2).2.1.2 q.1
        have ev := (zyR_k hr h2).2.2.2.1 (Or.inl e3)
        exact ⟨e3, by omega⟩)
      refine ⟨⟨by omega, by omega⟩, fun n3 => nb (fun q => n3 q.1), fun e3 => ⟨⟨by omega, by omega⟩, fun n17 => nb (fun q => n17 q.2), fun e17 => ?_⟩⟩
      refine er g9 2 I9 G9 q232 tx (by decide) (by decide) (fun T n h => ?_)
      obtain ⟨h1, h2, h3⟩ := L9 T n h
      have k1 := (zyR_k hr h2).2.1.1 e3
      have ev := (zyR_k hr h2).2.2.2.1 (Or.inl e3)
      exact ⟨_, h2, ⟨by omega, by omega⟩, h3, zyH_3s ⟨k1, by omega⟩⟩
    · refine er g2 1 I2 G2 (funext (fun i => F2 232 i (by unfold fr_M_readTold; omega))) ⟨c3, c4, c5, c6⟩ (by decide) (by decide) (fun T n h => ?_)
      obtain ⟨h1, h2, h3⟩ := L2 T n h
      refine ⟨_, h2, ⟨by omega, by omega⟩, h3, zyH_2.trans (zyK_1 (fun q => ?_))⟩
      have k := (zyR_w (w := 17) (j := 1) hr h2 ⟨by decide, by omega⟩ z2.2.2.symm).2 q
      omega
  · refine hQ (-1) g2 I2 (zk_ft (zk_f0 _) F2 (fun a i h => by unfold fr_M_readTold at h; unfold fr_M_readGutter; omega)) ⟨by decide, by decide⟩ c3 c4 c5 c6 (fun i _ => F2 232 i (by unfold fr_M_readTold; omega)) (fun T n h => ?_)
    have u := (y 1000000002 T _ 0 hr (by decide) (by omega) z2.2.1.symm h.1 h.2.1).2 h.2.2.1
    rw [show g 214 6 - 1 + 1 = g 214 6 by omega, ← zyH_1] at u
    have z1 : ¬ zyH T (g 214 6) (5 * n + 1) = 0 := fun q => by
      have v := u.2.1 q
      have k := zyN_0.1 (zyH_1.symm.trans q)
      have := h.2.1.2.2.2 (5 * n + 1) (by have := h.2.2.2; omega) (by have := (u.1.1 q).2.1.2; omega) k.1
      omega
    exact Or.inl ⟨rfl, _, ⟨by omega, by omega⟩, zyZ_0, z1, u.1.2 z1⟩

-- SpoutNewsModel.readGutters()I
theorem k_M_readGutters_l2 {g0 : zi_M} {K24 : zi_M → Prop} {Q : Int → zi_M → Prop} (hK : ∀ g : zi_M, zk_I g → (∀ (a : Nat) (i : Int), ¬ a = 232 → g a i = g0 a i) → (∀ i : Int, i < 10 → g 232 i = g0 232 i) → (∀ k : Int, 0 ≤ k → k < 10 → g 232 (10 + k) = 0) → K24 g) :
    ∀ (m : Nat) (l1 : Int) (g : zi_M), zk_I g → (∀ (a : Nat) (i : Int), ¬ a = 232 → g a i = g0 a i) → (∀ i : Int, i < 10 → g 232 i = g0 232 i) → (0 ≤ l1 ∧ l1 ≤ 10) → (∀ k : Int, 0 ≤ k → k < l1 → g 232 (10 + k) = 0) → 10 - l1 < (m : Int) → w_M_readGutters_l2 K24 Q m l1 g
  | 0, l1, g, I, F, h, hl, hz, hm => by exfalso; omega
  | m + 1, l1, g, I, F, h, hl, hz, hm => by
    unfold w_M_readGutters_l2
    refine ⟨⟨by omega, by omega⟩, fun c => hK g I F h (fun k k0 k1 => hz k k0 (by omega)), fun c => ⟨⟨by omega, by omega⟩, ?_⟩⟩
    intro g3 e3
    refine k_M_readGutters_l2 hK m (l1 + 1) g3 (by rw [e3]; exact zk_upd (L := 0) (H := 10) rfl rfl I ⟨by decide, by decide⟩) (fun a i ha => by rw [e3, zi_u_ne ha]; exact F a i ha) (fun i hi => by rw [e3, zi_u_ni (by omega)]; exact h i hi) ⟨by omega, by omega⟩ (fun k k0 k1 => ?_) (by omega)
    rw [e3]
    by_cases q : k = l1
    · rw [q, zi_u_eq]
    · rw [zi_u_ni (by omega)]; exact hz k k0 (by omega)
theorem k_M_readGutters_l26 {T : zyT} (hE : zyE T) {g0 : zi_M} {K41 K55 : zi_M → Prop} {K64 : Int → zi_M → Prop} {Q : Int → zi_M → Prop}
    (h41 : ∀ g : zi_M, zk_I g → zk_fr fr_M_readGutters g0 g → (∀ i : Int, i < 10 → g 232 i = g0 232 i) → zyR 1000000002 T g (5 * 16) → zyI (zyH T (g0 214 6)) (5 * 16) → zyH T (g0 214 6) (5 * 16) = 3 → K41 g)
    (hF : ∀ (g : zi_M) (s : Int), zk_I g → zk_fr fr_M_readGutters g0 g → (∀ i : Int, i < 10 → g 232 i = g0 232 i) → zyI (zyH T (g0 214 6)) s → ¬ zyH T (g0 214 6) s = -1 → zyG T g (zyH T (g0 214 6) s) s → K55 g)
    (hN : ∀ (n : Int) (g : zi_M), zk_I g → zk_fr fr_M_readGutters g0 g → (∀ i : Int, i < 10 → g 232 i = g0 232 i) → 0 ≤ n → n ≤ 16 → zyR 1000000002 T g (5 * n) → zyHx T g n → (∀ i : Int, 0 ≤ i → i < 5 * n → zyH T (g0 214 6) i = 0) → ¬ (T.1 (5 * n) = 2 ∧ T.2.1 (5 * n) = 0) → K64 n g) :
    ∀ (m : Nat) (l1 : Int) (g : zi_M), zk_I g → zk_fr fr_M_readGutters g0 g → (∀ i : Int, i < 10 → g 232 i = g0 232 i) → (g 214 14 ≤ g 214 13 ∧ g 214 15 ≤ g 214 14 ∧ zt3 g) → (0 ≤ l1 ∧ l1 ≤ 16) → zyR 1000000002 T g (5 * l1) → zyHx T g l1 → (∀ i : Int, 0 ≤ i → i < 5 * l1 → zyH T (g0 214 6) i = 0) → 16 - l1 < (m : Int) → w_M_readGutters_l26 K41 K55 K64 Q m l1 g
  | 0, l1, g, I, F, hk, hq, hl, hc, hw, hz, hm => by exfalso; omega
  | m + 1, l1, g, I, F, hk, hq, hl, hc, hw, hz, hm => by
    have hr : zs_str 1000000002 := rfl
    have z2 := zyk2
    have e6 : g 214 6 = g0 214 6 := F 214 6 (by unfold fr_M_readGutters; omega)
    unfold w_M_readGutters_l26
    refine k_M_isWord I ⟨by decide, by decide⟩ (fun v1 a1 a2 a3 => ⟨fun e => ?_, fun ne => ⟨⟨by omega, by omega⟩, fun n16 => ?_, fun e16 => ?_⟩⟩)
    · exact hN l1 g I F hk hl.1 hl.2 hc hw hz (fun q => by
        have k := (zyR_w (w := 16) (j := 0) hr hc ⟨by decide, by omega⟩ z2.2.1.symm).2 q
        omega)
    · have k := (zyR_w (w := 16) (j := 0) hr hc ⟨by decide, by omega⟩ z2.2.1.symm).1 (by omega)
      have k4 : ¬ T.1 (5 * l1) = 4 := by omega
      have y0 : zyH T (g0 214 6) (5 * l1) = 0 := (zyH_0 k4).trans (zyL_0.2 ⟨k, by omega⟩)
      have hz1 := zyI_s hz y0
      refine k_M_readGutter I hq.1 hq.2.1 hq.2.2 (fun v10 g11 I11 F11 c1 c2 c3 c4 c5 c6 x => ⟨⟨by omega, by omega⟩, fun ne => ?_, fun e => ?_⟩)
      · have G11 := zk_ft F F11 (fun a i h => h)
        have u := x T l1 ⟨hc, hE, zyK_0.2 k, hl.1⟩
        rw [e6] at u
        rcases u with u | ⟨-, u1, u2, u3⟩
        · exact absurd u.1 ne
        · refine k_M_readGutters_l26 hE h41 hF hN m (l1 + 1) g11 I11 G11 (fun i hi => by rw [c6 i hi]; exact hk i hi) ⟨c2, c3, c4⟩ ⟨by omega, by omega⟩ ?_ (fun k k0 k1 => ?_) (fun i i0 i1 => ?_) (by omega)
          · rw [show 5 * (l1 + 1) = 5 * l1 + 5 by omega]; exact u2
          · rw [zyHi_s hl.1]
            have w := u3 k k0 k1
            by_cases q : k = T.2.1 (5 * l1 + 1)
            · rw [if_pos q]; exact w.1 q
            · rw [if_neg q, w.2 q]; exact hw k k0 k1
          · by_cases q : i < 5 * l1 + 1
            · exact hz1 i i0 q
            · exact u1 i (by omega) (by omega)
      · have G11 := zk_ft F F11 (fun a i h => h)
        have u := x T l1 ⟨hc, hE, zyK_0.2 k, hl.1⟩
        rw [e6] at u
        rcases u with ⟨-, s, s1, s2, s3, s4⟩ | u
        · refine hF g11 s I11 G11 (fun i hi => by rw [c6 i hi]; exact hk i hi) ⟨by omega, fun i i0 i1 => ?_, s3⟩ ?_ s4
          · by_cases q : i < 5 * l1 + 1
            · exact hz1 i i0 q
            · exact s2 i (by omega) i1
          · exact zyH_ne s1.1 s1.2
        · exfalso; have := u.1; omega
    · have k := (zyR_w (w := 16) (j := 0) hr hc ⟨by decide, by omega⟩ z2.2.1.symm).1 (by omega)
      have k4 : ¬ T.1 (5 * l1) = 4 := by omega
      have y0 : zyH T (g0 214 6) (5 * l1) = 3 := (zyH_0 k4).trans (zyL_3 k (by omega))
      rw [e16] at hc hz y0
      exact h41 g I F hk hc ⟨by decide, hz, by rw [y0]; decide⟩ y0
theorem k_M_readGutters {g : zi_M} {Q : Int → zi_M → Prop} (I : zk_I g) (px0 : g 214 14 ≤ g 214 13) (px1 : g 214 15 ≤ g 214 14) (px2 : zt3 g) (px3 : zyR 1000000002 (zyM g) g 0 ∧ zyE (zyM g)) (hQ : ∀ (v : Int) (g' : zi_M), zk_I g' → zk_fr fr_M_readGutters g g' → ((-1) ≤ v ∧ v ≤ 16) → (∀ i : Int, i < 10 → g' 232 i = g 232 i) → (zyHm (zyM g) (g 214 6) g' v) → Q v g') : w_M_readGutters g Q := by
  unfold w_M_readGutters
  have hr : zs_str 1000000002 := rfl
  refine ⟨11, k_M_readGutters_l2 (g0 := g) (fun g5 I5 F5 H5 Z5 => ⟨17, ?_⟩) 11 0 g I (fun _ _ _ => rfl) (fun _ _ => rfl) ⟨by decide, by decide⟩ (fun k k0 k1 => by exfalso; omega) (by omega)⟩
  have G5 : zk_fr fr_M_readGutters g g5 := fun a i h => F5 a i (fun e => h (Or.inl e))
  have R5 : zyR 1000000002 (zyM g) g5 (5 * 0) := by
    rw [Int.mul_zero]
    exact zyR_m px3.1 (fun i => F5 222 i (by decide)) (fun i _ _ => F5 214 i (by decide))
  refine k_M_readGutters_l26 px3.2 (g0 := g) (fun g17 I17 F17 hk hc hi hy => ?_) (fun g' s I' F' hk hs hn hf => ?_) (fun n g33 I33 F33 hk n0 n16 hc hw hz hno => ?_) 17 0 g5 I5 G5 H5 ⟨by rw [F5 _ _ (by decide), F5 _ _ (by decide)]; exact px0, by rw [F5 _ _ (by decide), F5 _ _ (by decide)]; exact px1, zt3_e px2 (F5 _ _ (by decide)) (F5 _ _ (by decide)) (F5 _ _ (by decide)) (F5 _ _ (by decide))⟩ ⟨by decide, by decide⟩ R5 (fun k k0 k1 => by rw [Z5 k k0 k1]; rfl) (fun i i0 i1 => by exfalso; omega) (by omega)
  · refine k_M_errs I17 ⟨by decide, by decide⟩ (fun v g' I' F' c d x => ?_)
    have y := x _ _ _ hc
    exact hQ v g' I' (zk_ft F17 F' (fun a i h => by unfold fr_M_errs at h; unfold fr_M_readGutters; omega)) ⟨by omega, by omega⟩ (fun i hi => by rw [F' 232 i (by unfold fr_M_errs; omega)]; exact hk i hi) ⟨_, hi, fun q => by omega, fun _ => ⟨by omega, by rw [hy]; exact y⟩⟩
  · exact hQ (-1) g' I' F' ⟨by decide, by decide⟩ hk ⟨s, hs, fun q => absurd q hn, fun _ => ⟨rfl, hf⟩⟩
  · have b16 : 0 ≤ g33 214 16 ∧ g33 214 16 ≤ 4 := I33.1 214 16
    refine ⟨⟨by omega, by omega⟩, fun ne => ?_, fun e => ?_⟩
    · have k4 : ¬ (zyM g).1 (5 * n) = 4 := fun q => ne ((zyR_k hr hc).1.2 q)
      have y0 := (zyH_0 (sp := g 214 6) k4).trans (zyL_1 hno)
      refine k_M_errs I33 ⟨by decide, by decide⟩ (fun v g' I' F' c d x => ?_)
      have y := x _ _ _ hc
      exact hQ v g' I' (zk_ft F33 F' (fun a i h => by unfold fr_M_errs at h; unfold fr_M_readGutters; omega)) ⟨by omega, by omega⟩ (fun i hi => by rw [F' 232 i (by unfold fr_M_errs; omega)]; exact hk i hi) ⟨_, ⟨by omega, hz, by rw [y0]; decide⟩, fun q => by omega, fun _ => ⟨by omega, by rw [y0]; exact y⟩⟩
    · have k4 : (zyM g).1 (5 * n) = 4 := (zyR_k hr hc).1.1 e
      have y0 := zyH_e (sp := g 214 6) k4
      exact hQ n g33 I33 F33 ⟨by omega, by omega⟩ hk ⟨_, ⟨by omega, hz, by rw [y0]; decide⟩, fun _ => ⟨rfl, hw⟩, fun q => absurd y0 q⟩

-- SpoutNewsModel.readsText(I)I
theorem k_M_readsText {l1 : Int} {g : zi_M} {Q : Int → zi_M → Prop} (I : zk_I g) (p1 : (-2147483648) ≤ l1 ∧ l1 ≤ 2147483647) (px0 : g 214 14 ≤ g 214 13) (px1 : g 214 27 = 0) (px2 : g 214 28 = 0) (px3 : g 214 14 = 0) (px4 : 1 ≤ l1 → l1 ≤ 3 → zySs (1000000001 + l1.toNat) (g 222) (g 214 13) g) (px5 : l1 = 0 → zySs 1000000001 (g 222) (g 214 13) g) (hQ : ∀ (v : Int) (g' : zi_M), zk_I g' → zk_fr fr_M_readsText g g' → ((-1) ≤ v ∧ v ≤ 16) → (¬ v = -1 → l1 = 3 → zd g' v) → (¬ v = -1 → l1 = 0 → zLd g' v) → (l1 = 2 → zyWm (zyM g) g' v) → (l1 = 1 → zyHm (zyM g) (g 214 6) g' v) → (l1 = 3 → zyPM (zyM g) (g 214 6) (g 214 7) g' v) → (∀ i : Int, i < 32 → g' 233 i = g 233 i) → (∀ i : Int, i < 10 → g' 232 i = g 232 i) → (∀ i : Int, i < 64 → g' 234 i = g 234 i) → (l1 = 0 → zqVq (zyM g) v g') → (zlrS l1 (zyM g) v g g') → Q v g') : w_M_readsText l1 g Q := by
  unfold w_M_readsText
  intro g1 e1
  have I1 : zk_I g1 := by rw [e1]; exact zk_upd (L := 0) (H := 0) rfl rfl I ⟨by decide, by decide⟩
  have f1 : ∀ i : Int, ¬ i = 26 → g1 214 i = g 214 i := fun i hi => by rw [e1]; exact zi_u_ni hi
  have o1 : ∀ a : Nat, ¬ a = 214 → g1 a = g a := fun a ha => by rw [e1]; exact zi_u_row ha
  have w26 : ∀ a i, (a = 214 ∧ i = 26) → fr_M_readsText a i := fun a i h => by unfold fr_M_readsText; simp [h]
  have F1 : zk_fr fr_M_readsText g g1 := by rw [e1]; exact zk_fu (zk_f0 _) (w26 _ _ ⟨rfl, rfl⟩)
  have LT : ∀ a i, fr_L a i → fr_M_readsText a i := by
    intro a i h
    unfold fr_L at h
    unfold fr_M_readsText
    rcases h with h | h | h | h | h | h | h | h | h | h | h | h | h | h | h | h <;> simp [h]
  have nL : ∀ a i, 232 ≤ a → a ≤ 234 → ¬ fr_L a i := fun a i _ _ h => by unfold fr_L at h; omega
  refine k_M_reads I1 (by rw [f1 14 (by decide), f1 13 (by decide)]; exact px0) (fun g3 I3 F3 p1 p2 p3 p4 p5 => ?_)
  have c3 : g3 214 27 = 0 := by rw [F3 _ _ (by unfold fr_M_reads; omega), f1 27 (by decide)]; exact px1
  have o3 : g3 214 28 = 0 := by rw [F3 _ _ (by unfold fr_M_reads; omega), f1 28 (by decide)]; exact px2
  have b15 : 0 ≤ g3 214 15 := (I3.1 214 15).1
  have G3 : zk_fr fr_M_readsText g g3 := zk_ft F1 F3 (fun a i h => LT a i (fr_RL a i h))
  have m3 : zyM g3 = zyM g := zyM_m (fun a i h => by rw [F3 a i (by unfold fr_M_reads; omega), o1 a (by omega)])
  have q3 : ∀ a i, 232 ≤ a → g3 a i = g a i := fun a i h => by rw [F3 a i (by unfold fr_M_reads; omega), o1 a (by omega)]
  have e6 : g3 214 6 = g 214 6 := by rw [F3 214 6 (by unfold fr_M_reads; omega), f1 6 (by decide)]
  have e7 : g3 214 7 = g 214 7 := by rw [F3 214 7 (by unfold fr_M_reads; omega), f1 7 (by decide)]
  have R3 : 1 ≤ l1 → l1 ≤ 3 → zyR (1000000001 + l1.toNat) (zyM g3) g3 0 ∧ zyE (zyM g3) := fun a b => by
    rw [m3]
    have h := px4 a b
    refine ⟨zyR_0 (g := g1) ?_ F3 ?_, zyE_of (T := zyM g) h.1 h.2⟩
    · rw [o1 222 (by decide), f1 13 (by decide)]
      exact h.1
    · have h5 := p5
      rw [f1 14 (by decide), px3] at h5
      exact h5
  have w3 : zlrw g g3 := zlrw_w (fun a i a0 a1 => by rw [F3 a i (by unfold fr_M_reads; omega), o1 a (by omega)])
  have R0 : l1 = 0 → zyR 1000000001 (zyM g3) g3 0 ∧ zyE (zyM g3) := fun a => by
    rw [m3]
    have h := px5 a
    refine ⟨zyR_0 (g := g1) ?_ F3 ?_, zyE_of (T := zyM g) h.1 h.2⟩
    · rw [o1 222 (by decide), f1 13 (by decide)]
      exact h.1
    · have h5 := p5
      rw [f1 14 (by decide), px3] at h5
      exact h5
  refine ⟨⟨by omega, by omega⟩, fun n1 => ⟨fun n2 => ⟨fun n3 => ?_, fun e3 => ?_⟩, fun e2 => ?_⟩, fun e1 => ?_⟩
  · refine k_M_readLaw I3 ⟨I3, p2, p3, p4, by omega⟩ o3 (fun v g' I' F' hv h lr => ?_)
    refine hQ _ _ I' (zk_ft G3 F' LT) hv (fun _ q => absurd q n3) (fun q _ => h q) (fun q => absurd q n2) (fun q => absurd q n1) (fun q => absurd q n3) (fun i _ => (F' 233 i (nL 233 i (by decide) (by decide))).trans (q3 233 i (by decide))) (fun i _ => (F' 232 i (nL 232 i (by decide) (by decide))).trans (q3 232 i (by decide))) (fun i _ => (F' 234 i (nL 234 i (by decide) (by decide))).trans (q3 234 i (by decide))) (fun e0 => ?_) ?_
    · have r := lr (zyM g3) ⟨(R0 e0).1, (R0 e0).2, c3⟩
      rw [← m3]
      exact ⟨fun z => (r.1 z).1, fun z => ⟨(r.2 z).1, (r.2 z).2.1⟩⟩
    · rw [← m3]
      by_cases e0 : l1 = 0
      · exact zlrS_0 e0 (lr (zyM g3) ⟨(R0 e0).1, (R0 e0).2, c3⟩) w3
      · exact ⟨fun q => absurd q e0, fun a b => by exfalso; omega⟩
  · have R := R3 (by omega) (by omega)
    rw [e3, show 1000000001 + (3 : Int).toNat = 1000000004 from rfl] at R
    refine k_M_readPlan I3 p2 p3 p4 R (fun v g' I' F' hv h h2 x => ?_)
    rw [m3, e6, e7] at x
    exact hQ _ _ I' (zk_ft G3 F' (fun a i h => by unfold fr_M_readPlan at h; unfold fr_M_readsText; rcases h with h | h | h | h | h | h | h <;> simp [h])) hv (fun q _ => h q) (fun _ q => by omega) (fun q => absurd q n2) (fun q => absurd q n1) (fun _ => x) (fun i _ => (F' 233 i (by unfold fr_M_readPlan; omega)).trans (q3 233 i (by decide))) (fun i _ => (F' 232 i (by unfold fr_M_readPlan; omega)).trans (q3 232 i (by decide))) (fun i hi => (h2 i hi).trans (q3 234 i (by decide))) (fun q => by exfalso; omega) (zlrS_n (by omega) (zlrw_t w3 (zlrw_w (fun a i a0 a1 => F' a i (by unfold fr_M_readPlan; omega)))))
  · have R := R3 (by omega) (by omega)
    rw [e2, show 1000000001 + (2 : Int).toNat = 1000000003 from rfl] at R
    refine k_M_readWeather I3 p2 p3 p4 R (fun v g' I' F' hv h2 x => ?_)
    rw [m3] at x
    exact hQ _ _ I' (zk_ft G3 F' (fun a i h => by unfold fr_M_readWeather at h; unfold fr_M_readsText; rcases h with h | h | h | h | h | h | h <;> simp [h])) hv (fun _ q => by omega) (fun _ q => by omega) (fun _ => x) (fun q => absurd q n1) (fun q => by exfalso; omega) (fun i hi => (h2 i hi).trans (q3 233 i (by decide))) (fun i _ => (F' 232 i (by unfold fr_M_readWeather; omega)).trans (q3 232 i (by decide))) (fun i _ => (F' 234 i (by unfold fr_M_readWeather; omega)).trans (q3 234 i (by decide))) (fun q => by exfalso; omega) (zlrS_n (by omega) (zlrw_t w3 (zlrw_w (fun a i a0 a1 => F' a i (by unfold fr_M_readWeather; omega)))))
  · have R := R3 (by omega) (by omega)
    rw [e1, show 1000000001 + (1 : Int).toNat = 1000000002 from rfl] at R
    refine k_M_readGutters I3 p2 p3 p4 R (fun v g' I' F' hv h2 x => ?_)
    rw [m3, e6] at x
    exact hQ _ _ I' (zk_ft G3 F' (fun a i h => by unfold fr_M_readGutters at h; unfold fr_M_readsText; rcases h with h | h | h | h | h | h | h <;> simp [h])) hv (fun _ q => by omega) (fun _ q => by omega) (fun q => by exfalso; omega) (fun _ => x) (fun q => by exfalso; omega) (fun i _ => (F' 233 i (by unfold fr_M_readGutters; omega)).trans (q3 233 i (by decide))) (fun i hi => (h2 i hi).trans (q3 232 i (by decide))) (fun i _ => (F' 234 i (by unfold fr_M_readGutters; omega)).trans (q3 234 i (by decide))) (fun q => by exfalso; omega) (zlrS_n (by omega) (zlrw_t w3 (zlrw_w (fun a i a0 a1 => F' a i (by unfold fr_M_readGutters; omega)))))

