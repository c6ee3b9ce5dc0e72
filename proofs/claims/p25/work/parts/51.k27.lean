-- by program (wip/gen/mkz.py)
-- SpoutNewsModel.readGutters()I
theorem k_M_readGutters_l2 {g0 : zi_M} {K24 : zi_M → Prop} {Q : Int → zi_M → Prop} (hK : ∀ g : zi_M, zk_I g → (∀ (a : Nat) (i : Int), ¬ a = 232 → g a i = g0 a i) → (∀ i : Int, i < 10 → g 232 i = g0 232 i) → (∀ k : Int, 0 ≤ k → k < 10 → g 232 (10 + k) = 0) → K24 g) :
    ∀ (m : Nat) (l1 : Int) (g : zi_M), zk_I g → (∀ (a : Nat) (i : Int), ¬ a = 232 → g a i = g0 a i) → (∀ i : Int, i < 10 → g 232 i = g0 232 i) → (0 ≤ l1 ∧ l1 ≤ 10) → (∀ k : Int, 0 ≤ k → k < l1 → g 232 (10 + k) = 0) → 10 - l1 < (m : Int) → w_M_readGutters_l2 K24 Q m l1 g
  | 0, l1, g, I, F, h, hl, hz, hm => by exfalso; omega
  | m + 1, l1, g, I, F, h, hl, hz, hm => by
    unfold w_M_readGutters_l2
    refine ⟨⟨by omega, by omega⟩, fun c => hK g I F h (fun k k0 k1 => hz k k0 (by omega)), fun c => ⟨⟨by omega, by omega⟩, ?_⟩⟩
    intro g3 e3
    refine k_M_readGutters_l2 hK m (l1 + 1) g3 (by rw [e3]; exact zk_upd (L := 0) (H := 10) rfl rfl I ⟨by decide, by decide⟩) (fun a i ha => by rw [e3, zi_u_ne ha]; exact F a i ha) (fun i hi => by rw [e3, zi_u_ni (by omega)]; exact h i hi) ⟨by omega, by omega⟩ (fun k k0 k1 => ?_) (by omega)
    rw [e3]
    by_cases q : k = l1
    · rw [q, zi_u_eq]
    · rw [zi_u_ni (by omega)]; exact hz k k0 (by omega)
theorem k_M_readGutters_l26 {T : zyT} (hE : zyE T) {g0 : zi_M} {K41 K55 : zi_M → Prop} {K64 : Int → zi_M → Prop} {Q : Int → zi_M → Prop}
    (h41 : ∀ g : zi_M, zk_I g → zk_fr fr_M_readGutters g0 g → (∀ i : Int, i < 10 → g 232 i = g0 232 i) → zyR 1000000002 T g (5 * 16) → zyI (zyH T (g0 214 6)) (5 * 16) → zyH T (g0 214 6) (5 * 16) = 3 → K41 g)
    (hF : ∀ (g : zi_M) (s : Int), zk_I g → zk_fr fr_M_readGutters g0 g → (∀ i : Int, i < 10 → g 232 i = g0 232 i) → zyI (zyH T (g0 214 6)) s → ¬ zyH T (g0 214 6) s = -1 → zyG T g (zyH T (g0 214 6) s) s → K55 g)
    (hN : ∀ (n : Int) (g : zi_M), zk_I g → zk_fr fr_M_readGutters g0 g → (∀ i : Int, i < 10 → g 232 i = g0 232 i) → 0 ≤ n → n ≤ 16 → zyR 1000000002 T g (5 * n) → zyHx T g n → (∀ i : Int, 0 ≤ i → i < 5 * n → zyH T (g0 214 6) i = 0) → ¬ (T.1 (5 * n) = 2 ∧ T.2.1 (5 * n) = 0) → K64 n g) :
    ∀ (m : Nat) (l1 : Int) (g : zi_M), zk_I g → zk_fr fr_M_readGutters g0 g → (∀ i : Int, i < 10 → g 232 i = g0 232 i) → (g 214 14 ≤ g 214 13 ∧ g 214 15 ≤ g 214 14 ∧ zt3 g) → (0 ≤ l1 ∧ l1 ≤ 16) → zyR 1000000002 T g (5 * l1) → zyHx T g l1 → (∀ i : Int, 0 ≤ i → i < 5 * l1 → zyH T (g0 214 6) i = 0) → 16 - l1 < (m : Int) → w_M_readGutters_l26 K41 K55 K64 Q m l1 g
  | 0, l1, g, I, F, hk, hq, hl, hc, hw, hz, hm => by exfalso; omega
  | m + 1, l1, g, I, F, hk, hq, hl, hc, hw, hz, hm => by
    have hr : zs_str 1000000002 := rfl
    have z2 := zyk2
    have e6 : g 214 6 = g0 214 6 := F 214 6 (by unfold fr_M_readGutters; omega)
    unfold w_M_readGutters_l26
    refine k_M_isWord I ⟨by decide, by decide⟩ (fun v1 a1 a2 a3 => ⟨fun e => ?_, fun ne => ⟨⟨by omega, by omega⟩, fun n16 => ?_, fun e16 => ?_⟩⟩)
    · exact hN l1 g I F hk hl.1 hl.2 hc hw hz (fun q => by
        have k := (zyR_w (w := 16) (j := 0) hr hc ⟨by decide, by omega⟩ z2.2.1.symm).2 q
        omega)
    · have k := (zyR_w (w := 16) (j := 0) hr hc ⟨by decide, by omega⟩ z2.2.1.symm).1 (by omega)
      have k4 : ¬ T.1 (5 * l1) = 4 := by omega
      have y0 : zyH T (g0 214 6) (5 * l1) = 0 := (zyH_0 k4).trans (zyL_0.2 ⟨k, by omega⟩)
      have hz1 := zyI_s hz y0
      refine k_M_readGutter I hq.1 hq.2.1 hq.2.2 (fun v10 g11 I11 F11 c1 c2 c3 c4 c5 c6 x => ⟨⟨by omega, by omega⟩, fun ne => ?_, fun e => ?_⟩)
      · have G11 := zk_ft F F11 (fun a i h => h)
        have u := x T l1 ⟨hc, hE, zyK_0.2 k, hl.1⟩
        rw [e6] at u
        rcases u with u | ⟨-, u1, u2, u3⟩
        · exact absurd u.1 ne
        · refine k_M_readGutters_l26 hE h41 hF hN m (l1 + 1) g11 I11 G11 (fun i hi => by rw [c6 i hi]; exact hk i hi) ⟨c2, c3, c4⟩ ⟨by omega, by omega⟩ ?_ (fun k k0 k1 => ?_) (fun i i0 i1 => ?_) (by omega)
          · rw [show 5 * (l1 + 1) = 5 * l1 + 5 by omega]; exact u2
          · rw [zyHi_s hl.1]
            have w := u3 k k0 k1
            by_cases q : k = T.2.1 (5 * l1 + 1)
            · rw [if_pos q]; exact w.1 q
            · rw [if_neg q, w.2 q]; exact hw k k0 k1
          · by_cases q : i < 5 * l1 + 1
            · exact hz1 i i0 q
            · exact u1 i (by omega) (by omega)
      · have G11 := zk_ft F F11 (fun a i h => h)
        have u := x T l1 ⟨hc, hE, zyK_0.2 k, hl.1⟩
        rw [e6] at u
        rcases u with ⟨-, s, s1, s2, s3, s4⟩ | u
        · refine hF g11 s I11 G11 (fun i hi => by rw [c6 i hi]; exact hk i hi) ⟨by omega, fun i i0 i1 => ?_, s3⟩ ?_ s4
          · by_cases q : i < 5 * l1 + 1
            · exact hz1 i i0 q
            · exact s2 i (by omega) i1
          · exact zyH_ne s1.1 s1.2
        · exfalso; have := u.1; omega
    · have k := (zyR_w (w := 16) (j := 0) hr hc ⟨by decide, by omega⟩ z2.2.1.symm).1 (by omega)
      have k4 : ¬ T.1 (5 * l1) = 4 := by omega
      have y0 : zyH T (g0 214 6) (5 * l1) = 3 := (zyH_0 k4).trans (zyL_3 k (by omega))
      rw [e16] at hc hz y0
      exact h41 g I F hk hc ⟨by decide, hz, by rw [y0]; decide⟩ y0
theorem k_M_readGutters {g : zi_M} {Q : Int → zi_M → Prop} (I : zk_I g) (px0 : g 214 14 ≤ g 214 13) (px1 : g 214 15 ≤ g 214 14) (px2 : zt3 g) (px3 : zyR 1000000002 (zyM g) g 0 ∧ zyE (zyM g)) (hQ : ∀ (v : Int) (g' : zi_M), zk_I g' → zk_fr fr_M_readGutters g g' → ((-1) ≤ v ∧ v ≤ 16) → (∀ i : Int, i < 10 → g' 232 i = g 232 i) → (zyHm (zyM g) (g 214 6) g' v) → Q v g') : w_M_readGutters g Q := by
  unfold w_M_readGutters
  have hr : zs_str 1000000002 := rfl
  refine ⟨11, k_M_readGutters_l2 (g0 := g) (fun g5 I5 F5 H5 Z5 => ⟨17, ?_⟩) 11 0 g I (fun _ _ _ => rfl) (fun _ _ => rfl) ⟨by decide, by decide⟩ (fun k k0 k1 => by exfalso; omega) (by omega)⟩
  have G5 : zk_fr fr_M_readGutters g g5 := fun a i h => F5 a i (fun e => h (Or.inl e))
  have R5 : zyR 1000000002 (zyM g) g5 (5 * 0) := by
    rw [Int.mul_zero]
    exact zyR_m px3.1 (fun i => F5 222 i (by decide)) (fun i _ _ => F5 214 i (by decide))
  refine k_M_readGutters_l26 px3.2 (g0 := g) (fun g17 I17 F17 hk hc hi hy => ?_) (fun g' s I' F' hk hs hn hf => ?_) (fun n g33 I33 F33 hk n0 n16 hc hw hz hno => ?_) 17 0 g5 I5 G5 H5 ⟨by rw [F5 _ _ (by decide), F5 _ _ (by decide)]; exact px0, by rw [F5 _ _ (by decide), F5 _ _ (by decide)]; exact px1, zt3_e px2 (F5 _ _ (by decide)) (F5 _ _ (by decide)) (F5 _ _ (by decide)) (F5 _ _ (by decide))⟩ ⟨by decide, by decide⟩ R5 (fun k k0 k1 => by rw [Z5 k k0 k1]; rfl) (fun i i0 i1 => by exfalso; omega) (by omega)
  · refine k_M_errs I17 ⟨by decide, by decide⟩ (fun v g' I' F' c d x => ?_)
    have y := x _ _ _ hc
    exact hQ v g' I' (zk_ft F17 F' (fun a i h => by unfold fr_M_errs at h; unfold fr_M_readGutters; omega)) ⟨by omega, by omega⟩ (fun i hi => by rw [F' 232 i (by unfold fr_M_errs; omega)]; exact hk i hi) ⟨_, hi, fun q => by omega, fun _ => ⟨by omega, by rw [hy]; exact y⟩⟩
  · exact hQ (-1) g' I' F' ⟨by decide, by decide⟩ hk ⟨s, hs, fun q => absurd q hn, fun _ => ⟨rfl, hf⟩⟩
  · have b16 : 0 ≤ g33 214 16 ∧ g33 214 16 ≤ 4 := I33.1 214 16
    refine ⟨⟨by omega, by omega⟩, fun ne => ?_, fun e => ?_⟩
    · have k4 : ¬ (zyM g).1 (5 * n) = 4 := fun q => ne ((zyR_k hr hc).1.2 q)
      have y0 := (zyH_0 (sp := g 214 6) k4).trans (zyL_1 hno)
      refine k_M_errs I33 ⟨by decide, by decide⟩ (fun v g' I' F' c d x => ?_)
      have y := x _ _ _ hc
      exact hQ v g' I' (zk_ft F33 F' (fun a i h => by unfold fr_M_errs at h; unfold fr_M_readGutters; omega)) ⟨by omega, by omega⟩ (fun i hi => by rw [F' 232 i (by unfold fr_M_errs; omega)]; exact hk i hi) ⟨_, ⟨by omega, hz, by rw [y0]; decide⟩, fun q => by omega, fun _ => ⟨by omega, by rw [y0]; exact y⟩⟩
    · have k4 : (zyM g).1 (5 * n) = 4 := (zyR_k hr hc).1.1 e
      have y0 := zyH_e (sp := g 214 6) k4
      exact hQ n g33 I33 F33 ⟨by omega, by omega⟩ hk ⟨_, ⟨by omega, hz, by rw [y0]; decide⟩, fun _ => ⟨rfl, hw⟩, fun q => absurd y0 q⟩

-- SpoutNewsModel.readsText(I)I
theorem k_M_readsText {l1 : Int} {g : zi_M} {Q : Int → zi_M → Prop} (I : zk_I g) (p1 : (-2147483648) ≤ l1 ∧ l1 ≤ 2147483647) (px0 : g 214 14 ≤ g 214 13) (px1 : g 214 27 = 0) (px2 : g 214 28 = 0) (px3 : g 214 14 = 0) (px4 : 1 ≤ l1 → l1 ≤ 3 → zySs (1000000001 + l1.toNat) (g 222) (g 214 13) g) (px5 : l1 = 0 → zySs 1000000001 (g 222) (g 214 13) g) (hQ : ∀ (v : Int) (g' : zi_M), zk_I g' → zk_fr fr_M_readsText g g' → ((-1) ≤ v ∧ v ≤ 16) → (¬ v = -1 → l1 = 3 → zd g' v) → (¬ v = -1 → l1 = 0 → zLd g' v) → (l1 = 2 → zyWm (zyM g) g' v) → (l1 = 1 → zyHm (zyM g) (g 214 6) g' v) → (l1 = 3 → zyPM (zyM g) (g 214 6) (g 214 7) g' v) → (∀ i : Int, i < 32 → g' 233 i = g 233 i) → (∀ i : Int, i < 10 → g' 232 i = g 232 i) → (∀ i : Int, i < 64 → g' 234 i = g 234 i) → (l1 = 0 → zqVq (zyM g) v g') → (zlrS l1 (zyM g) v g g') → Q v g') : w_M_readsText l1 g Q := by
  unfold w_M_readsText
  intro g1 e1
  have I1 : zk_I g1 := by rw [e1]; exact zk_upd (L := 0) (H := 0) rfl rfl I ⟨by decide, by decide⟩
  have f1 : ∀ i : Int, ¬ i = 26 → g1 214 i = g 214 i := fun i hi => by rw [e1]; exact zi_u_ni hi
  have o1 : ∀ a : Nat, ¬ a = 214 → g1 a = g a := fun a ha => by rw [e1]; exact zi_u_row ha
  have w26 : ∀ a i, (a = 214 ∧ i = 26) → fr_M_readsText a i := fun a i h => by unfold fr_M_readsText; simp [h]
  have F1 : zk_fr fr_M_readsText g g1 := by rw [e1]; exact zk_fu (zk_f0 _) (w26 _ _ ⟨rfl, rfl⟩)
  have LT : ∀ a i, fr_L a i → fr_M_readsText a i := by
    intro a i h
    unfold fr_L at h
    unfold fr_M_readsText
    rcases h with h | h | h | h | h | h | h | h | h | h | h | h | h | h | h | h <;> simp [h]
  have nL : ∀ a i, 232 ≤ a → a ≤ 234 → ¬ fr_L a i := fun a i _ _ h => by unfold fr_L at h; omega
  refine k_M_reads I1 (by rw [f1 14 (by decide), f1 13 (by decide)]; exact px0) (fun g3 I3 F3 p1 p2 p3 p4 p5 => ?_)
  have c3 : g3 214 27 = 0 := by rw [F3 _ _ (by unfold fr_M_reads; omega), f1 27 (by decide)]; exact px1
  have o3 : g3 214 28 = 0 := by rw [F3 _ _ (by unfold fr_M_reads; omega), f1 28 (by decide)]; exact px2
  have b15 : 0 ≤ g3 214 15 := (I3.1 214 15).1
  have G3 : zk_fr fr_M_readsText g g3 := zk_ft F1 F3 (fun a i h => LT a i (fr_RL a i h))
  have m3 : zyM g3 = zyM g := zyM_m (fun a i h => by rw [F3 a i (by unfold fr_M_reads; omega), o1 a (by omega)])
  have q3 : ∀ a i, 232 ≤ a → g3 a i = g a i := fun a i h => by rw [F3 a i (by unfold fr_M_reads; omega), o1 a (by omega)]
  have e6 : g3 214 6 = g 214 6 := by rw [F3 214 6 (by unfold fr_M_reads; omega), f1 6 (by decide)]
  have e7 : g3 214 7 = g 214 7 := by rw [F3 214 7 (by unfold fr_M_reads; omega), f1 7 (by decide)]
  have R3 : 1 ≤ l1 → l1 ≤ 3 → zyR (1000000001 + l1.toNat) (zyM g3) g3 0 ∧ zyE (zyM g3) := fun a b => by
    rw [m3]
    have h := px4 a b
    refine ⟨zyR_0 (g := g1) ?_ F3 ?_, zyE_of (T := zyM g) h.1 h.2⟩
    · rw [o1 222 (by decide), f1 13 (by decide)]
      exact h.1
    · have h5 := p5
      rw [f1 14 (by decide), px3] at h5
      exact h5
  have w3 : zlrw g g3 := zlrw_w (fun a i a0 a1 => by rw [F3 a i (by unfold fr_M_reads; omega), o1 a (by omega)])
  have R0 : l1 = 0 → zyR 1000000001 (zyM g3) g3 0 ∧ zyE (zyM g3) := fun a => by
    rw [m3]
    have h := px5 a
    refine ⟨zyR_0 (g := g1) ?_ F3 ?_, zyE_of (T := zyM g) h.1 h.2⟩
    · rw [o1 222 (by decide), f1 13 (by decide)]
      exact h.1
    · have h5 := p5
      rw [f1 14 (by decide), px3] at h5
      exact h5
  refine ⟨⟨by omega, by omega⟩, fun n1 => ⟨fun n2 => ⟨fun n3 => ?_, fun e3 => ?_⟩, fun e2 => ?_⟩, fun e1 => ?_⟩
  · refine k_M_readLaw I3 ⟨I3, p2, p3, p4, by omega⟩ o3 (fun v g' I' F' hv h lr => ?_)
    refine hQ _ _ I' (zk_ft G3 F' LT) hv (fun _ q => absurd q n3) (fun q _ => h q) (fun q => absurd q n2) (fun q => absurd q n1) (fun q => absurd q n3) (fun i _ => (F' 233 i (nL 233 i (by decide) (by decide))).trans (q3 233 i (by decide))) (fun i _ => (F' 232 i (nL 232 i (by decide) (by decide))).trans (q3 232 i (by decide))) (fun i _ => (F' 234 i (nL 234 i (by decide) (by decide))).trans (q3 234 i (by decide))) (fun e0 => ?_) ?_
    · have r := lr (zyM g3) ⟨(R0 e0).1, (R0 e0).2, c3⟩
      rw [← m3]
      exact ⟨fun z => (r.1 z).1, fun z => ⟨(r.2 z).1, (r.2 z).2.1⟩⟩
    · rw [← m3]
      by_cases e0 : l1 = 0
      · exact zlrS_0 e0 (lr (zyM g3) ⟨(R0 e0).1, (R0 e0).2, c3⟩) w3
      · exact ⟨fun q => absurd q e0, fun a b => by exfalso; omega⟩
  · have R := R3 (by omega) (by omega)
    rw [e3, show 1000000001 + (3 : Int).toNat = 1000000004 from rfl] at R
    refine k_M_readPlan I3 p2 p3 p4 R (fun v g' I' F' hv h h2 x => ?_)
    rw [m3, e6, e7] at x
    exact hQ _ _ I' (zk_ft G3 F' (fun a i h => by unfold fr_M_readPlan at h; unfold fr_M_readsText; rcases h with h | h | h | h | h | h | h <;> simp [h])) hv (fun q _ => h q) (fun _ q => by omega) (fun q => absurd q n2) (fun q => absurd q n1) (fun _ => x) (fun i _ => (F' 233 i (by unfold fr_M_readPlan; omega)).trans (q3 233 i (by decide))) (fun i _ => (F' 232 i (by unfold fr_M_readPlan; omega)).trans (q3 232 i (by decide))) (fun i hi => (h2 i hi).trans (q3 234 i (by decide))) (fun q => by exfalso; omega) (zlrS_n (by omega) (zlrw_t w3 (zlrw_w (fun a i a0 a1 => F' a i (by unfold fr_M_readPlan; omega)))))
  · have R := R3 (by omega) (by omega)
    rw [e2, show 1000000001 + (2 : Int).toNat = 1000000003 from rfl] at R
    refine k_M_readWeather I3 p2 p3 p4 R (fun v g' I' F' hv h2 x => ?_)
    rw [m3] at x
    exact hQ _ _ I' (zk_ft G3 F' (fun a i h => by unfold fr_M_readWeather at h; unfold fr_M_readsText; rcases h with h | h | h | h | h | h | h <;> simp [h])) hv (fun _ q => by omega) (fun _ q => by omega) (fun _ => x) (fun q => absurd q n1) (fun q => by exfalso; omega) (fun i hi => (h2 i hi).trans (q3 233 i (by decide))) (fun i _ => (F' 232 i (by unfold fr_M_readWeather; omega)).trans (q3 232 i (by decide))) (fun i _ => (F' 234 i (by unfold fr_M_readWeather; omega)).trans (q3 234 i (by decide))) (fun q => by exfalso; omega) (zlrS_n (by omega) (zlrw_t w3 (zlrw_w (fun a i a0 a1 => F' a i (by unfold fr_M_readWeather; omega)))))
  · have R := R3 (by omega) (by omega)
    rw [e1, show 1000000001 + (1 : Int).toNat = 1000000002 from rfl] at R
    refine k_M_readGutters I3 p2 p3 p4 R (fun v g' I' F' hv h2 x => ?_)
    rw [m3, e6] at x
    exact hQ _ _ I' (zk_ft G3 F' (fun a i h => by unfold fr_M_readGutters at h; unfold fr_M_readsText; rcases h with h | h | h | h | h | h | h <;> simp [h])) hv (fun _ q => by omega) (fun _ q => by omega) (fun q => by exfalso; omega) (fun _ => x) (fun q => by exfalso; omega) (fun i _ => (F' 233 i (by unfold fr_M_readGutters; omega)).trans (q3 233 i (by decide))) (fun i hi => (h2 i hi).trans (q3 232 i (by decide))) (fun i _ => (F' 234 i (by unfold fr_M_readGutters; omega)).trans (q3 234 i (by decide))) (fun q => by exfalso; omega) (zlrS_n (by omega) (zlrw_t w3 (zlrw_w (fun a i a0 a1 => F' a i (by unfold fr_M_readGutters; omega)))))

-- SpoutNewsModel.text(I)I
theorem zyMw_of {g x y : zi_M} {v : Int} (h : zyWm (zyM g) x v) (ok : ¬ v = -1 → (∀ i : Int, 0 ≤ i → i < 2 * v → y 233 i = x 233 (32 + i)) ∧ y 214 37 = v ∧ y 214 33 = 0 ∧ y 214 34 = -1 ∧ y 214 3 = 0) (bad : v = -1 → y 214 33 = x 214 31 ∧ y 214 34 = x 214 32 ∧ y 214 3 = g 214 3 ∧ zyNw g y) (hs : ∀ s : Int, s = 5 * v → 0 ≤ s → ¬ v = -1) : zyMw g y v := by
  obtain ⟨s, s1, s2, s3⟩ := h
  refine ⟨s, s1, fun q => ?_, fun q => ?_⟩
  · have h := s2 q
    have o := ok (hs s h.1 s1.1)
    refine ⟨h.1, fun m m0 m1 => ?_, o.2.1, o.2.2.1, o.2.2.2.1, o.2.2.2.2⟩
    have k := h.2 m m0 m1
    rw [o.1 (2 * m) (by omega) (by omega), o.1 (2 * m + 1) (by omega) (by omega), show (32 : Int) + (2 * m + 1) = 32 + 2 * m + 1 by omega]
    exact k
  · have h := s3 q
    have b := bad h.1
    exact ⟨h.1, by rw [b.1]; exact h.2.1, by rw [b.2.1]; exact h.2.2, b.2.2.1, b.2.2.2⟩
theorem zyMg_of {g x y : zi_M} {v : Int} (h : zyHm (zyM g) (g 214 6) x v) (ok : ¬ v = -1 → (∀ i : Int, 0 ≤ i → i < 10 → y 232 i = x 232 (10 + i)) ∧ y 214 35 = v ∧ y 214 33 = 0 ∧ y 214 34 = -1) (bad : v = -1 → y 214 33 = x 214 31 ∧ y 214 34 = x 214 32 ∧ zyNg g y) (hs : ∀ s : Int, s = 5 * v → 0 ≤ s → ¬ v = -1) : zyMg g y v := by
  obtain ⟨s, s1, s2, s3⟩ := h
  refine ⟨s, s1, fun q => ?_, fun q => ?_⟩
  · have h := s2 q
    have o := ok (hs s h.1 s1.1)
    refine ⟨h.1, fun m m0 m1 => ?_, o.2.1, o.2.2.1, o.2.2.2⟩
    rw [o.1 m m0 m1]
    exact h.2 m m0 m1
  · have h := s3 q
    have b := bad h.1
    exact ⟨h.1, by rw [b.1]; exact h.2.1, by rw [b.2.1]; exact h.2.2, b.2.2⟩
theorem zyMp_of {g x y : zi_M} {v : Int} (h : zyPM (zyM g) (g 214 6) (g 214 7) x v) (ok : ¬ v = -1 → (∀ i : Int, 0 ≤ i → i < 4 * v → y 234 i = x 234 (64 + i)) ∧ y 214 39 = v ∧ y 214 33 = 0 ∧ y 214 34 = -1 ∧ y 214 3 = 0) (bad : v = -1 → y 214 33 = x 214 31 ∧ y 214 34 = x 214 32 ∧ y 214 3 = g 214 3 ∧ zyNp g y) : zyMp g y v := by
  obtain ⟨n, o, s1, s2, s3⟩ := h
  refine ⟨n, o, s1, fun q => ?_, fun q => ?_⟩
  · have h := s2 q
    have n0 := s1.1.1
    have o := ok (by omega)
    refine ⟨h.1, fun m m0 m1 => ?_, by rw [o.2.1, h.1], o.2.2.1, o.2.2.2.1, o.2.2.2.2⟩
    have k := h.2 m m0 m1
    rw [o.1 (4 * m) (by omega) (by omega), o.1 (4 * m + 1) (by omega) (by omega), o.1 (4 * m + 2) (by omega) (by omega), o.1 (4 * m + 3) (by omega) (by omega), show (64 : Int) + (4 * m + 1) = 64 + 4 * m + 1 by omega, show (64 : Int) + (4 * m + 2) = 64 + 4 * m + 2 by omega, show (64 : Int) + (4 * m + 3) = 64 + 4 * m + 3 by omega]
    exact k
  · have h := s3 q
    have b := bad h.1
    exact ⟨h.1, by rw [b.1]; exact h.2.1, by rw [b.2.1]; exact h.2.2, b.2.2.1, b.2.2.2⟩
theorem k_M_text {l1 : Int} {g : zi_M} {Q : Int → zi_M → Prop} (I : zk_I g) (p1 : (-2147483648) ≤ l1 ∧ l1 ≤ 2147483647) (px0 : 1 ≤ l1 → l1 ≤ 3 → zySs (1000000001 + l1.toNat) (g 222) (g 214 13) g) (px1 : l1 = 0 → zySs 1000000001 (g 222) (g 214 13) g) (hQ : ∀ (v : Int) (g' : zi_M), zk_I g' → zk_fr fr_M_text g g' → ((-1) ≤ v ∧ v ≤ 16) → (g' 214 13 = 0) → (l1 = 2 → zyMw g g' v) → (¬ l1 = 2 → zyNw g g') → (l1 = 1 → zyMg g g' v) → (¬ l1 = 1 → zyNg g g') → (l1 = 3 → zyMp g g' v) → (¬ l1 = 3 → zyNp g g') → (l1 < 0 ∨ 3 < l1 → v = -1 ∧ g' 214 33 = 0 ∧ g' 214 34 = -1) → (¬ (l1 = 2 ∨ l1 = 3) → g' 214 3 = g 214 3) → (l1 = 0 → zqVr (zyM g) v g') → (zlrX l1 (zyM g) v g g') → Q v g') : w_M_text l1 g Q := by
  unfold w_M_text
  intro g1 e1 g2 e2 g3 e3 g4 e4 g5 e5 g6 e6
  have I1 : zk_I g1 := by rw [e1]; exact zk_upd (L := -2147483648) (H := 2147483647) rfl rfl I ⟨by decide, by decide⟩
  have I2 : zk_I g2 := by rw [e2]; exact zk_upd (L := 0) (H := 3) rfl rfl I1 ⟨by decide, by decide⟩
  have I3 : zk_I g3 := by rw [e3]; exact zk_upd (L := -1) (H := 400) rfl rfl I2 ⟨by decide, by decide⟩
  have I4 : zk_I g4 := by rw [e4]; exact zk_upd (L := 0) (H := 400) rfl rfl I3 ⟨by decide, by decide⟩
  have I5 : zk_I g5 := by rw [e5]; exact zk_upd (L := 0) (H := 400) rfl rfl I4 ⟨by decide, by decide⟩
  have I6 : zk_I g6 := by rw [e6]; exact zk_upd (L := 0) (H := 8) rfl rfl I5 ⟨by decide, by decide⟩
  have o6 : ∀ a : Nat, ¬ a = 214 → g6 a = g a := fun a ha => by rw [e6, zi_u_row ha, e5, zi_u_row ha, e4, zi_u_row ha, e3, zi_u_row ha, e2, zi_u_row ha, e1, zi_u_row ha]
  have k6 : ∀ i : Int, ¬ i = 0 → ¬ i = 14 → ¬ i = 27 → ¬ i = 28 → ¬ i = 33 → ¬ i = 34 → g6 214 i = g 214 i := fun i h0 h14 h27 h28 h33 h34 => by rw [e6, zi_u_ni h28, e5, zi_u_ni h27, e4, zi_u_ni h14, e3, zi_u_ni h34, e2, zi_u_ni h33, e1, zi_u_ni h0]
  have z14 : g6 214 14 = 0 := by rw [e6, zi_u_ni (by decide), e5, zi_u_ni (by decide), e4, zi_u_eq]
  have z27 : g6 214 27 = 0 := by rw [e6, zi_u_ni (by decide), e5, zi_u_eq]
  have z28 : g6 214 28 = 0 := by rw [e6, zi_u_eq]
  have z33 : g6 214 33 = 0 := by rw [e6, zi_u_ni (by decide), e5, zi_u_ni (by decide), e4, zi_u_ni (by decide), e3, zi_u_ni (by decide), e2, zi_u_eq]
  have z34 : g6 214 34 = -1 := by rw [e6, zi_u_ni (by decide), e5, zi_u_ni (by decide), e4, zi_u_ni (by decide), e3, zi_u_eq]
  have w : ∀ i : Int, (i = 0 ∨ i = 13 ∨ i = 14 ∨ i = 27 ∨ i = 28 ∨ i = 33 ∨ i = 34) → fr_M_text 214 i := fun i h => by unfold fr_M_text; rcases h with h | h | h | h | h | h | h <;> simp [h]
  have F6 : zk_fr fr_M_text g g6 := by
    rw [e6, e5, e4, e3, e2, e1]
    exact zk_fu (zk_fu (zk_fu (zk_fu (zk_fu (zk_fu (zk_f0 _) (w 0 (by decide))) (w 33 (by decide))) (w 34 (by decide))) (w 14 (by decide))) (w 27 (by decide))) (w 28 (by decide))
  have m6 : zyM g6 = zyM g := zyM_m (fun a i h => by
    by_cases q : a = 214
    · omega
    · rw [o6 a q])
  have t13 : 0 ≤ g6 214 13 := (I6.1 214 13).1
  have five : ∀ v s : Int, s = 5 * v → 0 ≤ s → ¬ v = -1 := fun v s h1 h2 => by omega
  refine k_M_isIn I6 ⟨by omega, by omega⟩ ⟨by decide, by decide⟩ ⟨by decide, by decide⟩ (fun v7 a1 a2 a3 => ⟨fun e7 => ?_, fun n7 => ?_⟩)
  · unfold w_M_text_b69
    intro g10 e10
    have q : ∀ a i, ¬ (a = 214 ∧ i = 13) → g10 a i = g6 a i := fun a i h => by
      rw [e10]
      by_cases c : a = 214
      · rw [c]; exact zi_u_ni (fun z => h ⟨c, z⟩)
      · exact zi_u_ne c
    refine ⟨by decide, fun n => absurd rfl n, fun _ => ?_⟩
    have I10 : zk_I g10 := by rw [e10]; exact zk_upd (L := 0) (H := 400) rfl rfl I6 ⟨by decide, by decide⟩
    have nw : zyNw g g10 := ⟨by rw [q _ _ (by decide)]; exact k6 37 (by decide) (by decide) (by decide) (by decide) (by decide) (by decide), fun i _ => by rw [q _ _ (by omega), o6 233 (by decide)]⟩
    have ng : zyNg g g10 := ⟨by rw [q _ _ (by decide)]; exact k6 35 (by decide) (by decide) (by decide) (by decide) (by decide) (by decide), fun i _ => by rw [q _ _ (by omega), o6 232 (by decide)]⟩
    have np : zyNp g g10 := ⟨by rw [q _ _ (by decide)]; exact k6 39 (by decide) (by decide) (by decide) (by decide) (by decide) (by decide), fun i _ => by rw [q _ _ (by omega), o6 234 (by decide)]⟩
    exact hQ (-1) g10 I10 (by rw [e10]; exact zk_fu F6 (w 13 (by decide))) ⟨by decide, by decide⟩ (by rw [e10, zi_u_eq]) (fun h => by exfalso; omega) (fun _ => nw) (fun h => by exfalso; omega) (fun _ => ng) (fun h => by exfalso; omega) (fun _ => np) (fun _ => ⟨rfl, by rw [q _ _ (by decide)]; exact z33, by rw [q _ _ (by decide)]; exact z34⟩) (fun _ => by rw [q _ _ (by decide)]; exact k6 3 (by decide) (by decide) (by decide) (by decide) (by decide) (by decide)) (fun q => by exfalso; omega) ⟨fun q => by exfalso; omega, fun _ => ⟨zlrw_w (fun a i a0 a1 => by rw [q a i (by omega), o6 a (by omega)]), fun i => by rw [q 224 i (by omega), o6 224 (by decide)]⟩⟩
  · have in3 : 0 ≤ l1 ∧ l1 ≤ 3 := by omega
    have sp : 1 ≤ l1 → l1 ≤ 3 → zySs (1000000001 + l1.toNat) (g6 222) (g6 214 13) g6 := fun a b => by
      rw [o6 222 (by decide), k6 13 (by decide) (by decide) (by decide) (by decide) (by decide) (by decide)]
      exact zySs_m (px0 a b) (fun a i h => by
        by_cases c : a = 214
        · omega
        · rw [o6 a c])
    have sp0 : l1 = 0 → zySs 1000000001 (g6 222) (g6 214 13) g6 := fun a => by
      rw [o6 222 (by decide), k6 13 (by decide) (by decide) (by decide) (by decide) (by decide) (by decide)]
      exact zySs_m (px1 a) (fun a i h => by
        by_cases c : a = 214
        · omega
        · rw [o6 a c])
    refine k_M_readsText I6 p1 (by omega) z27 z28 z14 sp sp0 (fun v21 x Ix Fx bv hd hl x2 x1 x3 r233 r232 r234 x0 xs => ⟨⟨by omega, by omega⟩, fun ne => ?_, fun e => ?_⟩)
    · have Gx : zk_fr fr_M_text g x := zk_ft F6 Fx (fun a i h => by unfold fr_M_readsText at h; unfold fr_M_text; rcases h with h | h | h | h | h | h | h | h | h | h | h | h | h | h | h | h | h | h | h | h <;> simp [h])
      have y33 : x 214 33 = 0 := by rw [Fx _ _ (by unfold fr_M_readsText; omega)]; exact z33
      have y34 : x 214 34 = -1 := by rw [Fx _ _ (by unfold fr_M_readsText; omega)]; exact z34
      have y3 : x 214 3 = g 214 3 := by rw [Fx _ _ (by unfold fr_M_readsText; omega)]; exact k6 3 (by decide) (by decide) (by decide) (by decide) (by decide) (by decide)
      have y37 : x 214 37 = g 214 37 := by rw [Fx _ _ (by unfold fr_M_readsText; omega)]; exact k6 37 (by decide) (by decide) (by decide) (by decide) (by decide) (by decide)
      have y35 : x 214 35 = g 214 35 := by rw [Fx _ _ (by unfold fr_M_readsText; omega)]; exact k6 35 (by decide) (by decide) (by decide) (by decide) (by decide) (by decide)
      have y39 : x 214 39 = g 214 39 := by rw [Fx _ _ (by unfold fr_M_readsText; omega)]; exact k6 39 (by decide) (by decide) (by decide) (by decide) (by decide) (by decide)
      rw [m6] at x2 x1 x3 x0 xs
      have w6 : zlrw g g6 := zlrw_w (fun a i a0 a1 => by rw [o6 a (by omega)])
      have x224 : ∀ i : Int, x 224 i = g 224 i := fun i => by rw [Fx 224 i (by unfold fr_M_readsText; omega), o6 224 (by decide)]
      rw [k6 6 (by decide) (by decide) (by decide) (by decide) (by decide) (by decide)] at x1 x3
      rw [k6 7 (by decide) (by decide) (by decide) (by decide) (by decide) (by decide)] at x3
      unfold w_M_text_b69
      intro g10 e10
      have I10 : zk_I g10 := by rw [e10]; exact zk_upd (L := 0) (H := 400) rfl rfl Ix ⟨by decide, by decide⟩
      have F10 : zk_fr fr_M_text g g10 := by rw [e10]; exact zk_fu Gx (w 13 (by decide))
      have q : ∀ a i, ¬ (a = 214 ∧ i = 13) → g10 a i = x a i := fun a i h => by
        rw [e10]
        by_cases c : a = 214
        · rw [c]; exact zi_u_ni (fun z => h ⟨c, z⟩)
        · exact zi_u_ne c
      refine ⟨⟨by omega, by omega⟩, fun _ => ⟨⟨by omega, by omega⟩, fun n0 => ?_, fun e0 => ?_⟩, fun e => absurd e ne⟩
      · refine k_M_takesOther I10 p1 ⟨by omega, by omega⟩ ⟨by omega, by omega⟩ (fun h3 => zd_u e10 (hd ne h3)) (fun y Iy Fy t2 t1 t3 u2 u1 u3 => ?_)
        have c : ∀ i : Int, ¬ i = 3 → ¬ i = 35 → ¬ i = 37 → ¬ i = 39 → ¬ i = 13 → y 214 i = x 214 i := fun i h3 h35 h37 h39 h13 => by rw [Fy 214 i (by unfold fr_M_takesOther; omega), q _ _ (by omega)]
        have c33 := c 33 (by decide) (by decide) (by decide) (by decide) (by decide)
        have c34 := c 34 (by decide) (by decide) (by decide) (by decide) (by decide)
        refine hQ v21 y Iy (zk_ft F10 Fy (fun a i h => by unfold fr_M_takesOther at h; unfold fr_M_text; rcases h with h | h | h | h | h | h | h <;> simp [h])) ⟨by omega, by omega⟩ (by rw [Fy 214 13 (by unfold fr_M_takesOther; omega), e10, zi_u_eq]) (fun h => ?_) (fun h => ?_) (fun h => ?_) (fun h => ?_) (fun h => ?_) (fun h => ?_) (fun h => by exfalso; omega) (fun h => ?_) (fun h => ?_) ⟨fun h => absurd h n0, fun _ => ⟨zlrw_t (zlrw_t w6 (xs.2 (by omega) (by omega))) (zlrw_w (fun a i a0 a1 => by rw [Fy a i (by unfold fr_M_takesOther; omega), q a i (by omega)])), fun i => by rw [Fy 224 i (by unfold fr_M_takesOther; omega), q 224 i (by omega), x224 i]⟩⟩
        · have t := t2 h
          exact zyMw_of (x2 h) (fun _ => ⟨fun i i0 i1 => by rw [t.1 i i0 i1, q _ _ (by omega)], t.2.1, by rw [c33]; exact y33, by rw [c34]; exact y34, t.2.2⟩) (fun e => absurd e ne) (five v21)
        · have u := u2 h
          exact ⟨by rw [u.2, q _ _ (by decide)]; exact y37, fun i hi => by rw [u.1, q _ _ (by omega), r233 i hi, o6 233 (by decide)]⟩
        · have t := t1 h
          exact zyMg_of (x1 h) (fun _ => ⟨fun i i0 i1 => by rw [t.1 i i0 i1, q _ _ (by omega)], t.2.1, by rw [c33]; exact y33, by rw [c34]; exact y34⟩) (fun e => absurd e ne) (five v21)
        · have u := u1 h
          exact ⟨by rw [u.2, q _ _ (by decide)]; exact y35, fun i hi => by rw [u.1, q _ _ (by omega), r232 i hi, o6 232 (by decide)]⟩
        · have t := t3 h
          exact zyMp_of (x3 h) (fun _ => ⟨fun i i0 i1 => by rw [t.1 i i0 i1, q _ _ (by omega)], t.2.1, by rw [c33]; exact y33, by rw [c34]; exact y34, t.2.2⟩) (fun e => absurd e ne)
        · have u := u3 h
          exact ⟨by rw [u.2, q _ _ (by decide)]; exact y39, fun i hi => by rw [u.1, q _ _ (by omega), r234 i hi, o6 234 (by decide)]⟩
        · have t := t1 (by omega)
          rw [t.2.2, q _ _ (by decide)]
          exact y3
        · exact absurd h n0
      · refine k_M_takesLaw I10 ⟨by omega, by omega⟩ (zLd_u e10 (by decide) (hl ne e0)) (fun y Iy Fy yt => ?_)
        have c : ∀ a i, (232 ≤ a ∨ a = 214) → y a i = g10 a i := fun a i h => Fy a i (by unfold fr_M_takesLaw; omega)
        have nw : zyNw g y := ⟨by rw [c _ _ (by decide), q _ _ (by decide)]; exact y37, fun i hi => by rw [c _ _ (by decide), q _ _ (by omega), r233 i hi, o6 233 (by decide)]⟩
        have ng : zyNg g y := ⟨by rw [c _ _ (by decide), q _ _ (by decide)]; exact y35, fun i hi => by rw [c _ _ (by decide), q _ _ (by omega), r232 i hi, o6 232 (by decide)]⟩
        have np : zyNp g y := ⟨by rw [c _ _ (by decide), q _ _ (by decide)]; exact y39, fun i hi => by rw [c _ _ (by decide), q _ _ (by omega), r234 i hi, o6 234 (by decide)]⟩
        refine hQ v21 y Iy (zk_ft F10 Fy (fun a i h => by unfold fr_M_takesLaw at h; unfold fr_M_text; rcases h with h | h | h | h | h | h | h <;> simp [h])) ⟨by omega, by omega⟩ (by rw [c _ _ (by decide), e10, zi_u_eq]) (fun h => by exfalso; omega) (fun _ => nw) (fun h => by exfalso; omega) (fun _ => ng) (fun h => by exfalso; omega) (fun _ => np) (fun h => by exfalso; omega) (fun _ => by rw [c _ _ (by decide), q _ _ (by decide)]; exact y3) (fun h => zqVr_y (x0 h) ne (by rw [c _ _ (by decide), q _ _ (by decide)]; exact y33) (by rw [c _ _ (by decide), q _ _ (by decide)]; exact y34)) ⟨fun h n => ?_, fun n => absurd ⟨e0, ne⟩ n⟩
        obtain ⟨t1, t2, t3⟩ := (xs.1 e0).1 ne
        have b27 : g10 214 27 ≤ 400 := (I10.1 214 27).2
        have e27 : g10 214 27 = x 214 27 := q 214 27 (by decide)
        refine ⟨t1, zlrT_l yt ?_ t3 b27⟩
        rw [e27]
        exact zLr_c t2 t3 (fun i _ _ => ⟨q _ _ (by omega), q _ _ (by omega), q _ _ (by omega), q _ _ (by omega)⟩) (fun i _ => ⟨q _ _ (by omega), q _ _ (by omega)⟩)
    · have Gx : zk_fr fr_M_text g x := zk_ft F6 Fx (fun a i h => by unfold fr_M_readsText at h; unfold fr_M_text; rcases h with h | h | h | h | h | h | h | h | h | h | h | h | h | h | h | h | h | h | h | h <;> simp [h])
      have y3 : x 214 3 = g 214 3 := by rw [Fx _ _ (by unfold fr_M_readsText; omega)]; exact k6 3 (by decide) (by decide) (by decide) (by decide) (by decide) (by decide)
      have y37 : x 214 37 = g 214 37 := by rw [Fx _ _ (by unfold fr_M_readsText; omega)]; exact k6 37 (by decide) (by decide) (by decide) (by decide) (by decide) (by decide)
      have y35 : x 214 35 = g 214 35 := by rw [Fx _ _ (by unfold fr_M_readsText; omega)]; exact k6 35 (by decide) (by decide) (by decide) (by decide) (by decide) (by decide)
      have y39 : x 214 39 = g 214 39 := by rw [Fx _ _ (by unfold fr_M_readsText; omega)]; exact k6 39 (by decide) (by decide) (by decide) (by decide) (by decide) (by decide)
      rw [m6] at x2 x1 x3 x0 xs
      have w6 : zlrw g g6 := zlrw_w (fun a i a0 a1 => by rw [o6 a (by omega)])
      have x224 : ∀ i : Int, x 224 i = g 224 i := fun i => by rw [Fx 224 i (by unfold fr_M_readsText; omega), o6 224 (by decide)]
      rw [k6 6 (by decide) (by decide) (by decide) (by decide) (by decide) (by decide)] at x1 x3
      rw [k6 7 (by decide) (by decide) (by decide) (by decide) (by decide) (by decide)] at x3
      intro g25 e25 g26 e26
      have b31 : 0 ≤ x 214 31 ∧ x 214 31 ≤ 3 := Ix.1 214 31
      have b32 : 0 ≤ x 214 32 ∧ x 214 32 ≤ 400 := Ix.1 214 32
      have I25 : zk_I g25 := by rw [e25]; exact zk_upd (L := 0) (H := 3) rfl rfl Ix ⟨by omega, by omega⟩
      have s32 : g25 214 32 = x 214 32 := by rw [e25, zi_u_ni (by decide)]
      have I26 : zk_I g26 := by rw [e26]; exact zk_upd (L := -1) (H := 400) rfl rfl I25 ⟨by omega, by omega⟩
      unfold w_M_text_b69
      intro g10 e10
      have I10 : zk_I g10 := by rw [e10]; exact zk_upd (L := 0) (H := 400) rfl rfl I26 ⟨by decide, by decide⟩
      have F10 : zk_fr fr_M_text g g10 := by rw [e10, e26, e25]; exact zk_fu (zk_fu (zk_fu Gx (w 33 (by decide))) (w 34 (by decide))) (w 13 (by decide))
      have q : ∀ a i, ¬ (a = 214 ∧ (i = 13 ∨ i = 33 ∨ i = 34)) → g10 a i = x a i := fun a i h => by
        rw [e10, e26, e25]
        by_cases c : a = 214
        · subst c
          rw [zi_u_ni (by omega), zi_u_ni (by omega), zi_u_ni (by omega)]
        · rw [zi_u_ne c, zi_u_ne c, zi_u_ne c]
      have c33 : g10 214 33 = x 214 31 := by rw [e10, zi_u_ni (by decide), e26, zi_u_ni (by decide), e25, zi_u_eq]
      have c34 : g10 214 34 = x 214 32 := by rw [e10, zi_u_ni (by decide), e26, zi_u_eq, s32]
      have c3 : g10 214 3 = g 214 3 := by rw [q _ _ (by decide)]; exact y3
      have nw : zyNw g g10 := ⟨by rw [q _ _ (by decide)]; exact y37, fun i hi => by rw [q _ _ (by omega), r233 i hi, o6 233 (by decide)]⟩
      have ng : zyNg g g10 := ⟨by rw [q _ _ (by decide)]; exact y35, fun i hi => by rw [q _ _ (by omega), r232 i hi, o6 232 (by decide)]⟩
      have np : zyNp g g10 := ⟨by rw [q _ _ (by decide)]; exact y39, fun i hi => by rw [q _ _ (by omega), r234 i hi, o6 234 (by decide)]⟩
      subst e
      refine ⟨by decide, fun n => absurd rfl n, fun _ => ?_⟩
      refine hQ (-1) g10 I10 F10 ⟨by decide, by decide⟩ (by rw [e10, zi_u_eq]) (fun h => zyMw_of (x2 h) (fun n => absurd rfl n) (fun _ => ⟨c33, c34, c3, nw⟩) (five _)) (fun _ => nw) (fun h => zyMg_of (x1 h) (fun n => absurd rfl n) (fun _ => ⟨c33, c34, ng⟩) (five _)) (fun _ => ng) (fun h => zyMp_of (x3 h) (fun n => absurd rfl n) (fun _ => ⟨c33, c34, c3, np⟩)) (fun _ => np) (fun h => by exfalso; omega) (fun _ => c3) (fun h => zqVr_n (x0 h) c33 c34) ⟨fun _ n => absurd rfl n, fun _ => ⟨zlrw_t (zlrw_t w6 ?_) (zlrw_w (fun a i a0 a1 => q a i (by omega))), fun i => by rw [q 224 i (by omega), x224 i]⟩⟩
      by_cases e0 : l1 = 0
      · exact (xs.1 e0).2 rfl
      · exact xs.2 (by omega) (by omega)

