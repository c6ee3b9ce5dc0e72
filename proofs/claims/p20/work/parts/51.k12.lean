-- by program (wip/gen/mkz.py)
-- SpoutNewsModel.readWeather()I
theorem k_M_readWeather_l2 {T : zyT} (hE : zyE T) {g0 : zi_M} {K17 K56 K97 : zi_M → Prop} {K106 : Int → zi_M → Prop} {Q : Int → zi_M → Prop}
    (h17 : ∀ g : zi_M, zk_I g → zk_fr fr_M_readWeather g0 g → (∀ i : Int, i < 32 → g 233 i = g0 233 i) → zyR 1000000003 T g (5 * 16) → zyI (zyW T) (5 * 16) → zyW T (5 * 16) = 3 → K17 g)
    (hF : ∀ (g : zi_M) (s : Int), zk_I g → zk_fr fr_M_readWeather g0 g → (∀ i : Int, i < 32 → g 233 i = g0 233 i) → zyI (zyW T) s → ¬ zyW T s = -1 → zyG T g (zyW T s) s → K56 g ∧ K97 g)
    (hN : ∀ (n : Int) (g : zi_M), zk_I g → zk_fr fr_M_readWeather g0 g → (∀ i : Int, i < 32 → g 233 i = g0 233 i) → 0 ≤ n → n ≤ 16 → zyR 1000000003 T g (5 * n) → zyWx T g n → (∀ i : Int, 0 ≤ i → i < 5 * n → zyW T i = 0) → ¬ (T.1 (5 * n) = 2 ∧ T.2.1 (5 * n) = 0) → K106 n g) :
    ∀ (m : Nat) (l1 : Int) (g : zi_M), zk_I g → zk_fr fr_M_readWeather g0 g → (∀ i : Int, i < 32 → g 233 i = g0 233 i) → (g 214 14 ≤ g 214 13 ∧ g 214 15 ≤ g 214 14 ∧ zt3 g) → (0 ≤ l1 ∧ l1 ≤ 16) → zyR 1000000003 T g (5 * l1) → zyWx T g l1 → (∀ i : Int, 0 ≤ i → i < 5 * l1 → zyW T i = 0) → 16 - l1 < (m : Int) → w_M_readWeather_l2 K17 K56 K97 K106 Q m l1 g
  | 0, l1, g, I, F, hk, hq, hl, hc, hw, hz, hm => by exfalso; omega
  | m + 1, l1, g, I, F, hk, hq, hl, hc, hw, hz, hm => by
    have hr : zs_str 1000000003 := rfl
    have z3 := zyk3
    have sub : ∀ a i, fr_M_readTold a i → fr_M_readWeather a i := fun a i h => by unfold fr_M_readTold at h; unfold fr_M_readWeather; omega
    have sub2 : ∀ a i, fr_M_readMark a i → fr_M_readWeather a i := fun a i h => by unfold fr_M_readMark at h; unfold fr_M_readWeather; omega
    have rt : ∀ {x y : zi_M}, zk_fr fr_M_readTold x y → y 233 = x 233 := fun {x y} G => funext (fun i => G 233 i (by unfold fr_M_readTold; omega))
    unfold w_M_readWeather_l2
    refine k_M_isWord I ⟨by decide, by decide⟩ (fun v1 a1 a2 a3 => ⟨fun e => ?_, fun ne => ⟨⟨by omega, by omega⟩, fun n16 => ?_, fun e16 => ?_⟩⟩)
    · exact hN l1 g I F hk hl.1 hl.2 hc hw hz (fun q => by
        have k := (zyR_w (w := 15) (j := 0) hr hc ⟨by decide, by omega⟩ z3.2.1.symm).2 q
        omega)
    · have k := (zyR_w (w := 15) (j := 0) hr hc ⟨by decide, by omega⟩ z3.2.1.symm).1 (by omega)
      have k4 : ¬ T.1 (5 * l1) = 4 := by omega
      have y0 : zyW T (5 * l1) = 0 := (zyW_0 k4).trans (zyL_0.2 ⟨k, by omega⟩)
      have hz1 := zyI_s hz y0
      refine k_M_readTold I ⟨by decide, by decide⟩ ⟨by decide, by decide⟩ ⟨by decide, by decide⟩ hq.1 hq.2.1 hq.2.2 (fun v5 g6 I6 F6 c1 c2 c3 c4 c5 c6 x => ⟨⟨by omega, by omega⟩, ?_⟩)
      have u := (x 1000000003 T _ 0 hr (by decide) (by omega) z3.2.1.symm hc hE).2 (zyK_0.2 k)
      rw [show (999 : Int) + 1 = 1000 from rfl, ← zyW_1] at u
      have G6 := zk_ft F F6 sub
      intro g9 e9
      have I9 : zk_I g9 := by rw [e9]; exact zk_upd (L := -2147483648) (H := 2147483647) rfl rfl I6 ⟨by omega, by omega⟩
      have G9 : zk_fr fr_M_readWeather g0 g9 := by rw [e9]; exact zk_fu G6 (Or.inl rfl)
      have v9 : g9 233 (32 + 2 * l1) = v5 := by rw [e9, zi_u_eq]
      have hk9 : ∀ i : Int, i < 32 → g9 233 i = g0 233 i := fun i hi => by rw [e9, zi_u_ni (by omega), rt F6]; exact hk i hi
      rw [v9]
      refine ⟨⟨by omega, by omega⟩, fun n5 => ?_, fun e5 => ?_⟩
      · have z1 : zyW T (5 * l1 + 1) = 0 := Classical.byContradiction (fun q => n5 (u.2.2 q))
        have R6 := u.1.1 z1
        have w5 := u.2.1 z1
        have hz2 := zyI_s hz1 z1
        have R9 := zyR_u R6 e9 ⟨by decide, by decide⟩
        have e9' : ∀ i : Int, g9 214 i = g6 214 i := fun i => by rw [e9]; exact zi_u_ne (by decide)
        refine k_M_readTold I9 ⟨by decide, by decide⟩ ⟨by decide, by decide⟩ ⟨by decide, by decide⟩ (by rw [e9', e9']; exact c3) (by rw [e9', e9']; exact c4) (zt3_e c5 (e9' _) (e9' _) (e9' _) (e9' _)) (fun v11 g12 I12 F12 d1 d2 d3 d4 d5 d6 x => ⟨⟨by omega, by omega⟩, ?_⟩)
        have u := x 1000000003 T _ 1 hr (by decide) (by omega) z3.2.2.symm R9 hE
        rw [← zyW_2, show (9 : Int) + 1 = 10 from rfl, ← zyW_3] at u
        have G12 := zk_ft G9 F12 sub
        intro g15 e15
        have I15 : zk_I g15 := by rw [e15]; exact zk_upd (L := -2147483648) (H := 2147483647) rfl rfl I12 ⟨by omega, by omega⟩
        have G15 : zk_fr fr_M_readWeather g0 g15 := by rw [e15]; exact zk_fu G12 (Or.inl rfl)
        have v15 : g15 233 (32 + 2 * l1 + 1) = v11 := by rw [e15, zi_u_eq]
        have hk15 : ∀ i : Int, i < 32 → g15 233 i = g0 233 i := fun i hi => by rw [e15, zi_u_ni (by omega), rt F12]; exact hk9 i hi
        have e15' : ∀ i : Int, g15 214 i = g12 214 i := fun i => by rw [e15]; exact zi_u_ne (by decide)
        rw [v15]
        refine ⟨⟨by omega, by omega⟩, fun e11 => ?_, fun n11 => ?_⟩
        · by_cases z2 : zyW T (5 * l1 + 1 + 1) = 0
          · have w := u.2 z2
            have hz3 := zyI_s hz2 z2
            have z3' : ¬ zyW T (5 * l1 + 1 + 1 + 1) = 0 := fun q => by
              have v := w.2.1 q
              have k := zyN_0.1 (zyW_3.symm.trans q)
              have := hE.2.2.2 (5 * l1 + 1 + 1 + 1) (by omega) (by have := (w.1.1 q).2.1.2; omega) k.1
              omega
            have f := w.1.2 z3'
            exact (hF g15 _ I15 G15 hk15 ⟨by omega, hz3, z3'⟩ (by rw [zyW_3]; exact zyN_ne) ⟨by rw [e15']; exact f.1, by rw [e15']; exact f.2⟩).2
          · have f := (u.1 z2).2
            exact (hF g15 _ I15 G15 hk15 ⟨by omega, hz2, z2⟩ (by rw [zyW_2]; exact zyK_ne) ⟨by rw [e15']; exact f.1, by rw [e15']; exact f.2⟩).2
        · have z2 : zyW T (5 * l1 + 1 + 1) = 0 := Classical.byContradiction (fun q => n11 (u.1 q).1)
          have w := u.2 z2
          have hz3 := zyI_s hz2 z2
          have z3' : zyW T (5 * l1 + 1 + 1 + 1) = 0 := Classical.byContradiction (fun q => n11 (w.2.2 q))
          have R12 := w.1.1 z3'
          have w11 := w.2.1 z3'
          have hz4 := zyI_s hz3 z3'
          have R15 := zyR_u R12 e15 ⟨by decide, by decide⟩
          refine k_M_readMark I15 ⟨by decide, by decide⟩ (by rw [e15', e15']; exact d3) (by rw [e15', e15']; exact d4) (zt3_e d5 (e15' _) (e15' _) (e15' _) (e15' _)) (fun v17 g18 I18 F18 f1 f2 f3 f4 f5 x => ⟨⟨by omega, by omega⟩, fun n17 => ?_, fun e17 => ?_⟩)
          · have u := x 1000000003 T _ hr R15 hE
            rw [← zyW_4] at u
            have z4 : zyW T (5 * l1 + 1 + 1 + 1 + 1) = 0 := Classical.byContradiction (fun q => n17 (u.2.2 q))
            have R18 := u.1.1 z4
            have hz5 := zyI_s hz4 z4
            have r18 : g18 233 = g15 233 := funext (fun i => F18 233 i (by unfold fr_M_readMark; omega))
            refine k_M_readWeather_l2 hE h17 hF hN m (l1 + 1) g18 I18 (zk_ft G15 F18 sub2) (fun i hi => by rw [r18]; exact hk15 i hi) ⟨f2, f3, f4⟩ ⟨by omega, by omega⟩ ?_ (zyWx_s hw (rt F6) e9 (rt F12) e15 r18 w5 w11) ?_ (by omega)
            · rw [show 5 * (l1 + 1) = 5 * l1 + 1 + 1 + 1 + 1 + 1 by omega]; exact R18
            · rw [show 5 * (l1 + 1) = 5 * l1 + 1 + 1 + 1 + 1 + 1 by omega]; exact hz5
          · have u := x 1000000003 T _ hr R15 hE
            rw [← zyW_4] at u
            have z4 : ¬ zyW T (5 * l1 + 1 + 1 + 1 + 1) = 0 := fun q => by have := u.2.1 q; omega
            have r18 : g18 233 = g15 233 := funext (fun i => F18 233 i (by unfold fr_M_readMark; omega))
            exact (hF g18 _ I18 (zk_ft G15 F18 sub2) (fun i hi => by rw [r18]; exact hk15 i hi) ⟨by omega, hz4, z4⟩ (by rw [zyW_4]; exact zyK_ne) (u.1.2 z4)).2
      · have z1 : ¬ zyW T (5 * l1 + 1) = 0 := fun q => by
          have v := u.2.1 q
          have k := zyN_0.1 (zyW_1.symm.trans q)
          have := hE.2.2.2 (5 * l1 + 1) (by omega) (by have := (u.1.1 q).2.1.2; omega) k.1
          omega
        have f := u.1.2 z1
        have e9' : ∀ i : Int, g9 214 i = g6 214 i := fun i => by rw [e9]; exact zi_u_ne (by decide)
        exact (hF g9 _ I9 G9 hk9 ⟨by omega, hz1, z1⟩ (by rw [zyW_1]; exact zyN_ne) ⟨by rw [e9']; exact f.1, by rw [e9']; exact f.2⟩).1
    · have k := (zyR_w (w := 15) (j := 0) hr hc ⟨by decide, by omega⟩ z3.2.1.symm).1 (by omega)
      have k4 : ¬ T.1 (5 * l1) = 4 := by omega
      have y0 : zyW T (5 * l1) = 3 := (zyW_0 k4).trans (zyL_3 k (by omega))
      rw [e16] at hc hz y0
      exact h17 g I F hk hc ⟨by decide, hz, by rw [y0]; decide⟩ y0
theorem k_M_readWeather {g : zi_M} {Q : Int → zi_M → Prop} (I : zk_I g) (px0 : g 214 14 ≤ g 214 13) (px1 : g 214 15 ≤ g 214 14) (px2 : zt3 g) (px3 : zyR 1000000003 (zyM g) g 0 ∧ zyE (zyM g)) (hQ : ∀ (v : Int) (g' : zi_M), zk_I g' → zk_fr fr_M_readWeather g g' → ((-1) ≤ v ∧ v ≤ 16) → (∀ i : Int, i < 32 → g' 233 i = g 233 i) → (zyWm (zyM g) g' v) → Q v g') : w_M_readWeather g Q := by
  unfold w_M_readWeather
  have hr : zs_str 1000000003 := rfl
  refine ⟨17, k_M_readWeather_l2 px3.2 (g0 := g) (fun g26 I26 F26 hk hc hi hy => ?_) (fun g' s I' F' hk hs hn hf => ?_) (fun n g33 I33 F33 hk n0 n16 hc hw hz hno => ?_) 17 0 g I (zk_f0 _) (fun _ _ => rfl) ⟨px0, px1, px2⟩ ⟨by decide, by decide⟩ (by rw [Int.mul_zero]; exact px3.1) (fun k k0 k1 => by exfalso; omega) (fun i i0 i1 => by exfalso; omega) (by omega)⟩
  · refine k_M_errs I26 ⟨by decide, by decide⟩ (fun v g' I' F' c d x => ?_)
    have y := x _ _ _ hc
    exact hQ v g' I' (zk_ft F26 F' (fun a i h => by unfold fr_M_errs at h; unfold fr_M_readWeather; omega)) ⟨by omega, by omega⟩ (fun i hi => by rw [F' 233 i (by unfold fr_M_errs; omega)]; exact hk i hi) ⟨_, hi, fun q => by omega, fun _ => ⟨by omega, by rw [hy]; exact y⟩⟩
  · have r := hQ (-1) g' I' F' ⟨by decide, by decide⟩ hk ⟨s, hs, fun q => absurd q hn, fun _ => ⟨rfl, hf⟩⟩
    exact ⟨r, r⟩
  · have b16 : 0 ≤ g33 214 16 ∧ g33 214 16 ≤ 4 := I33.1 214 16
    refine ⟨⟨by omega, by omega⟩, fun ne => ?_, fun e => ?_⟩
    · have k4 : ¬ (zyM g).1 (5 * n) = 4 := fun q => ne ((zyR_k hr hc).1.2 q)
      have y0 := (zyW_0 k4).trans (zyL_1 hno)
      refine k_M_errs I33 ⟨by decide, by decide⟩ (fun v g' I' F' c d x => ?_)
      have y := x _ _ _ hc
      exact hQ v g' I' (zk_ft F33 F' (fun a i h => by unfold fr_M_errs at h; unfold fr_M_readWeather; omega)) ⟨by omega, by omega⟩ (fun i hi => by rw [F' 233 i (by unfold fr_M_errs; omega)]; exact hk i hi) ⟨_, ⟨by omega, hz, by rw [y0]; decide⟩, fun q => by omega, fun _ => ⟨by omega, by rw [y0]; exact y⟩⟩
    · have k4 : (zyM g).1 (5 * n) = 4 := (zyR_k hr hc).1.1 e
      have y0 := zyW_e k4
      exact hQ n g33 I33 F33 ⟨by omega, by omega⟩ hk ⟨_, ⟨by omega, hz, by rw [y0]; decide⟩, fun _ => ⟨rfl, hw⟩, fun q => absurd y0 q⟩

-- SpoutNewsModel.readGutter()I
theorem k_M_readGutter {g : zi_M} {Q : Int → zi_M → Prop} (I : zk_I g) (px0 : g 214 14 ≤ g 214 13) (px1 : g 214 15 ≤ g 214 14) (px2 : zt3 g) (hQ : ∀ (v : Int) (g' : zi_M), zk_I g' → zk_fr fr_M_readGutter g g' → ((-1) ≤ v ∧ v ≤ 0) → (g' 214 14 ≤ g' 214 13) → (g' 214 15 ≤ g' 214 14) → (zt3 g') → (g 214 15 ≤ g' 214 15) → (∀ i : Int, i < 10 → g' 232 i = g 232 i) → (∀ (T : zyT) (n : Int), zyHp T g n → zyHl T (g 214 6) g g' n v) → Q v g') : w_M_readGutter g Q := by
  have hr : zs_str 1000000002 := rfl
  have z2 := zyk2
  have bsp : 0 ≤ g 214 6 ∧ g 214 6 ≤ 10 := I.1 214 6
  have er : ∀ (x : zi_M) (e : Int), zk_I x → zk_fr fr_M_readGutter g x → x 232 = g 232 → (x 214 14 ≤ x 214 13 ∧ x 214 15 ≤ x 214 14 ∧ zt3 x ∧ g 214 15 ≤ x 214 15) → 1 ≤ e → e ≤ 3 → (∀ (T : zyT) (n : Int), zyHp T g n → ∃ s : Int, zyR 1000000002 T x s ∧ (5 * n + 1 ≤ s ∧ s ≤ 5 * n + 4) ∧ (∀ i : Int, 5 * n + 1 ≤ i → i < s → zyH T (g 214 6) i = 0) ∧ zyH T (g 214 6) s = e) → w_M_errs e x (fun v g' => Q v g') := by
    intro x e Ix Fx rx tx e1 e3 hs
    refine k_M_errs Ix ⟨e1, e3⟩ (fun v g' I' F' c d y => ?_)
    have k13 : g' 214 13 = x 214 13 := F' 214 13 (by unfold fr_M_errs; omega)
    have k14 : g' 214 14 = x 214 14 := F' 214 14 (by unfold fr_M_errs; omega)
    have k15 : g' 214 15 = x 214 15 := F' 214 15 (by unfold fr_M_errs; omega)
    refine hQ v g' I' (zk_ft Fx F' (fun a i h => by unfold fr_M_errs at h; unfold fr_M_readGutter; omega)) ⟨by omega, by omega⟩ (by omega) (by omega) (d tx.2.2.1) (by omega) (fun i _ => by rw [F' 232 i (by unfold fr_M_errs; omega), rx]) (fun T n hp => Or.inl ⟨by omega, ?_⟩)
    obtain ⟨s, s1, s2, s3, s4⟩ := hs T n hp
    exact ⟨s, s2, s3, by rw [s4]; omega, by rw [s4]; exact y _ _ _ s1⟩
  have b62 : ∀ (l1 : Int) (x : zi_M), zk_I x → zk_fr fr_M_readGutter g x → (x 214 14 ≤ x 214 13 ∧ x 214 15 ≤ x 214 14 ∧ zt3 x ∧ g 214 15 ≤ x 214 15) → (0 ≤ l1 ∧ l1 ≤ 9) → x 214 6 = g 214 6 → x 232 = g 232 → (∀ (T : zyT) (n : Int), zyHp T g n → l1 = T.2.1 (5 * n + 1) ∧ zyR 1000000002 T x (5 * n + 1 + 1 + 1) ∧ (∀ i : Int, 5 * n + 1 ≤ i → i < 5 * n + 1 + 1 + 1 → zyH T (g 214 6) i = 0) ∧ zyH T (g 214 6) (5 * n + 1 + 1 + 1) = zyN T (g 214 6) (5 * n + 1 + 1 + 1)) → w_M_readGutter_b62 l1 x Q := by
    intro l1 x Ix Fx tx hl e6 e232 hp
    unfold w_M_readGutter_b62
    refine k_M_readNumber Ix ⟨by omega, by omega⟩ ⟨by omega, by omega⟩ tx.1 tx.2.1 tx.2.2.1 (fun v12 g13 I13 F13 c1 c2 c3 c4 c5 c6 y => ⟨⟨by omega, by omega⟩, fun ne => ⟨⟨by omega, by omega⟩, ?_⟩, fun e => ?_⟩)
    · have G13 := zk_ft Fx F13 (fun a i h => by unfold fr_M_readNumber at h; unfold fr_M_readGutter; omega)
      have r13 : g13 232 = g 232 := by rw [← e232]; exact funext (fun i => F13 232 i (by unfold fr_M_readNumber; omega))
      intro g17 e17
      have I17 : zk_I g17 := by rw [e17]; exact zk_upd (L := 0) (H := 10) rfl rfl I13 ⟨by omega, by omega⟩
      have G17 : zk_fr fr_M_readGutter g g17 := by rw [e17]; exact zk_fu G13 (Or.inl rfl)
      have e17' : ∀ i : Int, g17 214 i = g13 214 i := fun i => by rw [e17]; exact zi_u_ne (by decide)
      have q15 := e17' 15
      refine k_M_readMark I17 ⟨by decide, by decide⟩ (by rw [e17', e17']; exact c3) (by rw [e17', e17']; exact c4) (zt3_e c5 (e17' _) (e17' _) (e17' _) (e17' _)) (fun v18 g19 I19 F19 d1 d2 d3 d4 d5 w => ?_)
      refine hQ v18 g19 I19 (zk_ft G17 F19 (fun a i h => by unfold fr_M_readMark at h; unfold fr_M_readGutter; omega)) d1 d2 d3 d4 (by omega) (fun i hi => by rw [F19 232 i (by unfold fr_M_readMark; omega), e17, zi_u_ni (by omega), r13]) (fun T n h => ?_)
      obtain ⟨h1, h2, h3, h4⟩ := hp T n h
      have hE := h.2.1
      have u := y 1000000002 T _ hr h2 hE
      rw [e6, show g 214 6 - 1 + 1 = g 214 6 by omega, ← h4] at u
      have y3 : zyH T (g 214 6) (5 * n + 1 + 1 + 1) = 0 := Classical.byContradiction (fun q => ne (u.2.2 q))
      have R13 := u.1.1 y3
      have w12 := u.2.1 y3
      have u2 := w 1000000002 T _ hr (zyR_u R13 e17 ⟨by decide, by decide⟩) hE
      rw [← zyH_4 (sp := g 214 6)] at u2
      have hz := zyZ_s h3 y3
      have r19 : g19 232 = g17 232 := funext (fun i => F19 232 i (by unfold fr_M_readMark; omega))
      by_cases z4 : zyH T (g 214 6) (5 * n + 1 + 1 + 1 + 1) = 0
      · refine Or.inr ⟨u2.2.1 z4, ?_, ?_, fun k k0 k1 => ⟨fun q => ?_, fun q => ?_⟩⟩
        · rw [show 5 * n + 5 = 5 * n + 1 + 1 + 1 + 1 + 1 by omega]; exact zyZ_s hz z4
        · rw [show 5 * n + 5 = 5 * n + 1 + 1 + 1 + 1 + 1 by omega]; exact u2.1.1 z4
        · rw [r19, e17, show 10 + k = 10 + l1 by omega, zi_u_eq, w12]
        · rw [r19, e17, zi_u_ni (by omega), r13]
      · exact Or.inl ⟨u2.2.2 z4, _, ⟨by omega, by omega⟩, hz, z4, u2.1.2 z4⟩
    · refine hQ (-1) g13 I13 (zk_ft Fx F13 (fun a i h => by unfold fr_M_readNumber at h; unfold fr_M_readGutter; omega)) ⟨by decide, by decide⟩ c3 c4 c5 (by omega) (fun i _ => by rw [F13 232 i (by unfold fr_M_readNumber; omega), e232]) (fun T n h => ?_)
      obtain ⟨h1, h2, h3, h4⟩ := hp T n h
      have hE := h.2.1
      have u := y 1000000002 T _ hr h2 hE
      rw [e6, show g 214 6 - 1 + 1 = g 214 6 by omega, ← h4] at u
      have y3 : ¬ zyH T (g 214 6) (5 * n + 1 + 1 + 1) = 0 := fun q => by
        have v := u.2.1 q
        have k := zyN_0.1 (h4.symm.trans q)
        have := hE.2.2.2 _ h2.2.1.1 h2.2.1.2 k.1
        omega
      exact Or.inl ⟨rfl, _, ⟨by omega, by omega⟩, h3, y3, u.1.2 y3⟩
  unfold w_M_readGutter
  refine k_M_readTold I ⟨by decide, by decide⟩ ⟨by decide, by decide⟩ ⟨by omega, by omega⟩ px0 px1 px2 (fun v1 g2 I2 F2 c1 c2 c3 c4 c5 c6 y => ⟨⟨by omega, by omega⟩, fun ne => ?_, fun e => ?_⟩)
  · have G2 : zk_fr fr_M_readGutter g g2 := zk_ft (zk_f0 _) F2 (fun a i h => by unfold fr_M_readTold at h; unfold fr_M_readGutter; omega)
    have L2 : ∀ (T : zyT) (n : Int), zyHp T g n → v1 = T.2.1 (5 * n + 1) ∧ zyR 1000000002 T g2 (5 * n + 1 + 1) ∧ (∀ i : Int, 5 * n + 1 ≤ i → i < 5 * n + 1 + 1 → zyH T (g 214 6) i = 0) := by
      intro T n h
      have u := (y 1000000002 T _ 0 hr (by decide) (by omega) z2.2.1.symm h.1 h.2.1).2 h.2.2.1
      rw [show g 214 6 - 1 + 1 = g 214 6 by omega, ← zyH_1] at u
      have z1 : zyH T (g 214 6) (5 * n + 1) = 0 := Classical.byContradiction (fun q => ne (u.2.2 q))
      exact ⟨u.2.1 z1, u.1.1 z1, zyZ_s zyZ_0 z1⟩
    refine k_M_isWord I2 ⟨by decide, by decide⟩ (fun v5 a1 a2 a3 => ⟨fun n5 => ?_, fun e5 => ?_⟩)
    · have b16 : 0 ≤ g2 214 16 ∧ g2 214 16 ≤ 4 := I2.1 214 16
      have w2 : g2 214 16 = 2 ∧ g2 214 17 = 17 := by omega
      refine k_M_reads I2 c3 (fun g9 I9 F9 d1 d2 d3 d4 d5 => ?_)
      have k13 : g9 214 13 = g2 214 13 := F9 214 13 (by unfold fr_M_reads; omega)
      have r16 : 0 ≤ g9 214 16 ∧ g9 214 16 ≤ 4 := I9.1 214 16
      have r17 : -1 ≤ g9 214 17 ∧ g9 214 17 ≤ 100000 := I9.1 214 17
      have G9 := zk_ft G2 F9 (fun a i h => by unfold fr_M_reads at h; unfold fr_M_readGutter; omega)
      have q6 : g9 214 6 = g 214 6 := by rw [F9 214 6 (by unfold fr_M_reads; omega), F2 214 6 (by unfold fr_M_readTold; omega)]
      have q232 : g9 232 = g 232 := funext (fun i => by rw [F9 232 i (by unfold fr_M_reads; omega), F2 232 i (by unfold fr_M_readTold; omega)])
      have tx : g9 214 14 ≤ g9 214 13 ∧ g9 214 15 ≤ g9 214 14 ∧ zt3 g9 ∧ g 214 15 ≤ g9 214 15 := ⟨by omega, by omega, d4, by omega⟩
      have L9 : ∀ (T : zyT) (n : Int), zyHp T g n → v1 = T.2.1 (5 * n + 1) ∧ zyR 1000000002 T g9 (5 * n + 1 + 1 + 1) ∧ (∀ i : Int, 5 * n + 1 ≤ i → i < 5 * n + 1 + 1 + 1 → zyH T (g 214 6) i = 0) := by
        intro T n h
        obtain ⟨h1, h2, h3⟩ := L2 T n h
        have k := (zyR_w (w := 17) (j := 1) hr h2 ⟨by decide, by omega⟩ z2.2.2.symm).1 w2
        have zz : zyH T (g 214 6) (5 * n + 1 + 1) = 0 := zyH_2.trans (zyK_0.2 k)
        exact ⟨h1, zyR_n h2 F9 d5 (zyE_lt h.2.1 h2.2.1.2 (by omega)), zyZ_s h3 zz⟩
      have nb : ¬ (g9 214 16 = 3 ∧ g9 214 17 = v1) → w_M_readGutter_b62 v1 g9 Q := fun no => b62 v1 g9 I9 G9 tx ⟨by omega, by omega⟩ q6 q232 (fun T n h => by
        obtain ⟨h1, h2, h3⟩ := L9 T n h
        refine ⟨h1, h2, h3, zyH_3n (fun q => no ?_)⟩
        have e3 := (zyR_k hr h2).2.1.2 q.1
        have ev := (zyR_k hr h2).2.2.2.1 (Or.inl e3)
        exact ⟨e3, by omega⟩)
      refine ⟨⟨by omega, by omega⟩, fun n3 => nb (fun q => n3 q.1), fun e3 => ⟨⟨by omega, by omega⟩, fun n17 => nb (fun q => n17 q.2), fun e17 => ?_⟩⟩
      refine er g9 2 I9 G9 q232 tx (by decide) (by decide) (fun T n h => ?_)
      obtain ⟨h1, h2, h3⟩ := L9 T n h
      have k1 := (zyR_k hr h2).2.1.1 e3
      have ev := (zyR_k hr h2).2.2.2.1 (Or.inl e3)
      exact ⟨_, h2, ⟨by omega, by omega⟩, h3, zyH_3s ⟨k1, by omega⟩⟩
    · refine er g2 1 I2 G2 (funext (fun i => F2 232 i (by unfold fr_M_readTold; omega))) ⟨c3, c4, c5, c6⟩ (by decide) (by decide) (fun T n h => ?_)
      obtain ⟨h1, h2, h3⟩ := L2 T n h
      refine ⟨_, h2, ⟨by omega, by omega⟩, h3, zyH_2.trans (zyK_1 (fun q => ?_))⟩
      have k := (zyR_w (w := 17) (j := 1) hr h2 ⟨by decide, by omega⟩ z2.2.2.symm).2 q
      omega
  · refine hQ (-1) g2 I2 (zk_ft (zk_f0 _) F2 (fun a i h => by unfold fr_M_readTold at h; unfold fr_M_readGutter; omega)) ⟨by decide, by decide⟩ c3 c4 c5 c6 (fun i _ => F2 232 i (by unfold fr_M_readTold; omega)) (fun T n h => ?_)
    have u := (y 1000000002 T _ 0 hr (by decide) (by omega) z2.2.1.symm h.1 h.2.1).2 h.2.2.1
    rw [show g 214 6 - 1 + 1 = g 214 6 by omega, ← zyH_1] at u
    have z1 : ¬ zyH T (g 214 6) (5 * n + 1) = 0 := fun q => by
      have v := u.2.1 q
      have k := zyN_0.1 (zyH_1.symm.trans q)
      have := h.2.1.2.2.2 (5 * n + 1) (by have := h.2.2.2; omega) (by have := (u.1.1 q).2.1.2; omega) k.1
      omega
    exact Or.inl ⟨rfl, _, ⟨by omega, by omega⟩, zyZ_0, z1, u.1.2 z1⟩

-- SpoutNewsModel.readGutters()I
theorem k_M_readGutters_l2 {g0 : zi_M} {K24 : zi_M → Prop} {Q : Int → zi_M → Prop} (hK : ∀ g : zi_M, zk_I g → (∀ (a : Nat) (i : Int), ¬ a = 232 → g a i = g0 a i) → (∀ i : Int, i < 10 → g 232 i = g0 232 i) → (∀ k : Int, 0 ≤ k → k < 10 → g 232 (10 + k) = 0) → K24 g) :
    ∀ (m : Nat) (l1 : Int) (g : zi_M), zk_I g → (∀ (a : Nat) (i : Int), ¬ a = 232 → g a i = g0 a i) → (∀ i : Int, i < 10 → g 232 i = g0 232 i) → (0 ≤ l1 ∧ l1 ≤ 10) → (∀ k : Int, 0 ≤ k → k < l1 → g 232 (10 + k) = 0) → 10 - l1 < (m : Int) → w_M_readGutters_l2 K24 Q m l1 g
  | 0, l1, g, I, F, h, hl, hz, hm => by exfalso; omega
  | m + 1, l1, g, I, F, h, hl, hz, hm => by
    unfold w_M_readGutters_l2
    refine ⟨⟨by omega, by omega⟩, fun c => hK g I F h (fun k k0 k1 => hz k k0 (by omega)), fun c => ⟨⟨by omega, by omega⟩, ?_⟩⟩
    intro g3 e3
    refine k_M_readGutters_l2 hK m (l1 + 1) g3 (by rw [e3]; exact zk_upd (L := 0) (H := 10) rfl rfl I ⟨by decide, by decide⟩) (fun a i ha => by rw [e3, zi_u_ne ha]; exact F a i ha) (fun i hi => by rw [e3, zi_u_ni (by omega)]; exact h i hi) ⟨by omega, by omega⟩ (fun k k0 k1 => ?_) (by omega)
    rw [e3]
    by_cases q : k = l1
    · rw [q, zi_u_eq]
    · rw [zi_u_ni (by omega)]; exact hz k k0 (by omega)
theorem k_M_readGutters_l26 {T : zyT} (hE : zyE T) {g0 : zi_M} {K41 K55 : zi_M → Prop} {K64 : Int → zi_M → Prop} {Q : Int → zi_M → Prop}
    (h41 : ∀ g : zi_M, zk_I g → zk_fr fr_M_readGutters g0 g → (∀ i : Int, i < 10 → g 232 i = g0 232 i) → zyR 1000000002 T g (5 * 16) → zyI (zyH T (g0 214 6)) (5 * 16) → zyH T (g0 214 6) (5 * 16) = 3 → K41 g)
    (hF : ∀ (g : zi_M) (s : Int), zk_I g → zk_fr fr_M_readGutters g0 g → (∀ i : Int, i < 10 → g 232 i = g0 232 i) → zyI (zyH T (g0 214 6)) s → ¬ zyH T (g0 214 6) s = -1 → zyG T g (zyH T (g0 214 6) s) s → K55 g)
    (hN : ∀ (n : Int) (g : zi_M), zk_I g → zk_fr fr_M_readGutters g0 g → (∀ i : Int, i < 10 → g 232 i = g0 232 i) → 0 ≤ n → n ≤ 16 → zyR 1000000002 T g (5 * n) → zyHx T g n → (∀ i : Int, 0 ≤ i → i < 5 * n → zyH T (g0 214 6) i = 0) → ¬ (T.1 (5 * n) = 2 ∧ T.2.1 (5 * n) = 0) → K64 n g) :
    ∀ (m : Nat) (l1 : Int) (g : zi_M), zk_I g → zk_fr fr_M_readGutters g0 g → (∀ i : Int, i < 10 → g 232 i = g0 232 i) → (g 214 14 ≤ g 214 13 ∧ g 214 15 ≤ g 214 14 ∧ zt3 g) → (0 ≤ l1 ∧ l1 ≤ 16) → zyR 1000000002 T g (5 * l1) → zyHx T g l1 → (∀ i : Int, 0 ≤ i → i < 5 * l1 → zyH T (g0 214 6) i = 0) → 16 - l1 < (m : Int) → w_M_readGutters_l26 K41 K55 K64 Q m l1 g
  | 0, l1, g, I, F, hk, hq, hl, hc, hw, hz, hm => by exfalso; omega
  | m + 1, l1, g, I, F, hk, hq, hl, hc, hw, hz, hm => by
    have hr : zs_str 1000000002 := rfl
    have z2 := zyk2
    have e6 : g 214 6 = g0 214 6 := F 214 6 (by unfold fr_M_readGutters; omega)
    unfold w_M_readGutters_l26
    refine k_M_isWord I ⟨by decide, by decide⟩ (fun v1 a1 a2 a3 => ⟨fun e => ?_, fun ne => ⟨⟨by omega, by omega⟩, fun n16 => ?_, fun e16 => ?_⟩⟩)
    · exact hN l1 g I F hk hl.1 hl.2 hc hw hz (fun q => by
        have k := (zyR_w (w := 16) (j := 0) hr hc ⟨by decide, by omega⟩ z2.2.1.symm).2 q
        omega)
    · have k := (zyR_w (w := 16) (j := 0) hr hc ⟨by decide, by omega⟩ z2.2.1.symm).1 (by omega)
      have k4 : ¬ T.1 (5 * l1) = 4 := by omega
      have y0 : zyH T (g0 214 6) (5 * l1) = 0 := (zyH_0 k4).trans (zyL_0.2 ⟨k, by omega⟩)
      have hz1 := zyI_s hz y0
      refine k_M_readGutter I hq.1 hq.2.1 hq.2.2 (fun v10 g11 I11 F11 c1 c2 c3 c4 c5 c6 x => ⟨⟨by omega, by omega⟩, fun ne => ?_, fun e => ?_⟩)
      · have G11 := zk_ft F F11 (fun a i h => h)
        have u := x T l1 ⟨hc, hE, zyK_0.2 k, hl.1⟩
        rw [e6] at u
        rcases u with u | ⟨-, u1, u2, u3⟩
        · exact absurd u.1 ne
        · refine k_M_readGutters_l26 hE h41 hF hN m (l1 + 1) g11 I11 G11 (fun i hi => by rw [c6 i hi]; exact hk i hi) ⟨c2, c3, c4⟩ ⟨by omega, by omega⟩ ?_ (fun k k0 k1 => ?_) (fun i i0 i1 => ?_) (by omega)
          · rw [show 5 * (l1 + 1) = 5 * l1 + 5 by omega]; exact u2
          · rw [zyHi_s hl.1]
            have w := u3 k k0 k1
            by_cases q : k = T.2.1 (5 * l1 + 1)
            · rw [if_pos q]; exact w.1 q
            · rw [if_neg q, w.2 q]; exact hw k k0 k1
          · by_cases q : i < 5 * l1 + 1
            · exact hz1 i i0 q
            · exact u1 i (by omega) (by omega)
      · have G11 := zk_ft F F11 (fun a i h => h)
        have u := x T l1 ⟨hc, hE, zyK_0.2 k, hl.1⟩
        rw [e6] at u
        rcases u with ⟨-, s, s1, s2, s3, s4⟩ | u
        · refine hF g11 s I11 G11 (fun i hi => by rw [c6 i hi]; exact hk i hi) ⟨by omega, fun i i0 i1 => ?_, s3⟩ ?_ s4
          · by_cases q : i < 5 * l1 + 1
            · exact hz1 i i0 q
            · exact s2 i (by omega) i1
          · exact zyH_ne s1.1 s1.2
        · exfalso; have := u.1; omega
    · have k := (zyR_w (w := 16) (j := 0) hr hc ⟨by decide, by omega⟩ z2.2.1.symm).1 (by omega)
      have k4 : ¬ T.1 (5 * l1) = 4 := by omega
      have y0 : zyH T (g0 214 6) (5 * l1) = 3 := (zyH_0 k4).trans (zyL_3 k (by omega))
      rw [e16] at hc hz y0
      exact h41 g I F hk hc ⟨by decide, hz, by rw [y0]; decide⟩ y0
theorem k_M_readGutters {g : zi_M} {Q : Int → zi_M → Prop} (I : zk_I g) (px0 : g 214 14 ≤ g 214 13) (px1 : g 214 15 ≤ g 214 14) (px2 : zt3 g) (px3 : zyR 1000000002 (zyM g) g 0 ∧ zyE (zyM g)) (hQ : ∀ (v : Int) (g' : zi_M), zk_I g' → zk_fr fr_M_readGutters g g' → ((-1) ≤ v ∧ v ≤ 16) → (∀ i : Int, i < 10 → g' 232 i = g 232 i) → (zyHm (zyM g) (g 214 6) g' v) → Q v g') : w_M_readGutters g Q := by
  unfold w_M_readGutters
  have hr : zs_str 1000000002 := rfl
  refine ⟨11, k_M_readGutters_l2 (g0 := g) (fun g5 I5 F5 H5 Z5 => ⟨17, ?_⟩) 11 0 g I (fun _ _ _ => rfl) (fun _ _ => rfl) ⟨by decide, by decide⟩ (fun k k0 k1 => by exfalso; omega) (by omega)⟩
  have G5 : zk_fr fr_M_readGutters g g5 := fun a i h => F5 a i (fun e => h (Or.inl e))
  have R5 : zyR 1000000002 (zyM g) g5 (5 * 0) := by
    rw [Int.mul_zero]
    exact zyR_m px3.1 (fun i => F5 222 i (by decide)) (fun i _ _ => F5 214 i (by decide))
  refine k_M_readGutters_l26 px3.2 (g0 := g) (fun g17 I17 F17 hk hc hi hy => ?_) (fun g' s I' F' hk hs hn hf => ?_) (fun n g33 I33 F33 hk n0 n16 hc hw hz hno => ?_) 17 0 g5 I5 G5 H5 ⟨by rw [F5 _ _ (by decide), F5 _ _ (by decide)]; exact px0, by rw [F5 _ _ (by decide), F5 _ _ (by decide)]; exact px1, zt3_e px2 (F5 _ _ (by decide)) (F5 _ _ (by decide)) (F5 _ _ (by decide)) (F5 _ _ (by decide))⟩ ⟨by decide, by decide⟩ R5 (fun k k0 k1 => by rw [Z5 k k0 k1]; rfl) (fun i i0 i1 => by exfalso; omega) (by omega)
  · refine k_M_errs I17 ⟨by decide, by decide⟩ (fun v g' I' F' c d x => ?_)
    have y := x _ _ _ hc
    exact hQ v g' I' (zk_ft F17 F' (fun a i h => by unfold fr_M_errs at h; unfold fr_M_readGutters; omega)) ⟨by omega, by omega⟩ (fun i hi => by rw [F' 232 i (by unfold fr_M_errs; omega)]; exact hk i hi) ⟨_, hi, fun q => by omega, fun _ => ⟨by omega, by rw [hy]; exact y⟩⟩
  · exact hQ (-1) g' I' F' ⟨by decide, by decide⟩ hk ⟨s, hs, fun q => absurd q hn, fun _ => ⟨rfl, hf⟩⟩
  · have b16 : 0 ≤ g33 214 16 ∧ g33 214 16 ≤ 4 := I33.1 214 16
    refine ⟨⟨by omega, by omega⟩, fun ne => ?_, fun e => ?_⟩
    · have k4 : ¬ (zyM g).1 (5 * n) = 4 := fun q => ne ((zyR_k hr hc).1.2 q)
      have y0 := (zyH_0 (sp := g 214 6) k4).trans (zyL_1 hno)
      refine k_M_errs I33 ⟨by decide, by decide⟩ (fun v g' I' F' c d x => ?_)
      have y := x _ _ _ hc
      exact hQ v g' I' (zk_ft F33 F' (fun a i h => by unfold fr_M_errs at h; unfold fr_M_readGutters; omega)) ⟨by omega, by omega⟩ (fun i hi => by rw [F' 232 i (by unfold fr_M_errs; omega)]; exact hk i hi) ⟨_, ⟨by omega, hz, by rw [y0]; decide⟩, fun q => by omega, fun _ => ⟨by omega, by rw [y0]; exact y⟩⟩
    · have k4 : (zyM g).1 (5 * n) = 4 := (zyR_k hr hc).1.1 e
      have y0 := zyH_e (sp := g 214 6) k4
      exact hQ n g33 I33 F33 ⟨by omega, by omega⟩ hk ⟨_, ⟨by omega, hz, by rw [y0]; decide⟩, fun _ => ⟨rfl, hw⟩, fun q => absurd y0 q⟩

-- SpoutNewsModel.readsText(I)I
theorem k_M_readsText {l1 : Int} {g : zi_M} {Q : Int → zi_M → Prop} (I : zk_I g) (p1 : (-2147483648) ≤ l1 ∧ l1 ≤ 2147483647) (px0 : g 214 14 ≤ g 214 13) (px1 : g 214 27 = 0) (px2 : g 214 28 = 0) (px3 : g 214 14 = 0) (px4 : 1 ≤ l1 → l1 ≤ 3 → zySs (1000000001 + l1.toNat) (g 222) (g 214 13) g) (hQ : ∀ (v : Int) (g' : zi_M), zk_I g' → zk_fr fr_M_readsText g g' → ((-1) ≤ v ∧ v ≤ 16) → (¬ v = -1 → l1 = 3 → zd g' v) → (¬ v = -1 → l1 = 0 → zLd g' v) → (l1 = 2 → zyWm (zyM g) g' v) → (l1 = 1 → zyHm (zyM g) (g 214 6) g' v) → (l1 = 3 → zyPM (zyM g) (g 214 6) (g 214 7) g' v) → (∀ i : Int, i < 32 → g' 233 i = g 233 i) → (∀ i : Int, i < 10 → g' 232 i = g 232 i) → (∀ i : Int, i < 64 → g' 234 i = g 234 i) → Q v g') : w_M_readsText l1 g Q := by
  unfold w_M_readsText
  intro g1 e1
  have I1 : zk_I g1 := by rw [e1]; exact zk_upd (L := 0) (H := 0) rfl rfl I ⟨by decide, by decide⟩
  have f1 : ∀ i : Int, ¬ i = 26 → g1 214 i = g 214 i := fun i hi => by rw [e1]; exact zi_u_ni hi
  have o1 : ∀ a : Nat, ¬ a = 214 → g1 a = g a := fun a ha => by rw [e1]; exact zi_u_row ha
  have w26 : ∀ a i, (a = 214 ∧ i = 26) → fr_M_readsText a i := fun a i h => by unfold fr_M_readsText; simp [h]
  have F1 : zk_fr fr_M_readsText g g1 := by rw [e1]; exact zk_fu (zk_f0 _) (w26 _ _ ⟨rfl, rfl⟩)
  have LT : ∀ a i, fr_L a i → fr_M_readsText a i := by
    intro a i h
    unfold fr_L at h
    unfold fr_M_readsText
    rcases h with h | h | h | h | h | h | h | h | h | h | h | h | h | h | h | h <;> simp [h]
  have nL : ∀ a i, 232 ≤ a → a ≤ 234 → ¬ fr_L a i := fun a i _ _ h => by unfold fr_L at h; omega
  refine k_M_reads I1 (by rw [f1 14 (by decide), f1 13 (by decide)]; exact px0) (fun g3 I3 F3 p1 p2 p3 p4 p5 => ?_)
  have c3 : g3 214 27 = 0 := by rw [F3 _ _ (by unfold fr_M_reads; omega), f1 27 (by decide)]; exact px1
  have o3 : g3 214 28 = 0 := by rw [F3 _ _ (by unfold fr_M_reads; omega), f1 28 (by decide)]; exact px2
  have b15 : 0 ≤ g3 214 15 := (I3.1 214 15).1
  have G3 : zk_fr fr_M_readsText g g3 := zk_ft F1 F3 (fun a i h => LT a i (fr_RL a i h))
  have m3 : zyM g3 = zyM g := zyM_m (fun a i h => by rw [F3 a i (by unfold fr_M_reads; omega), o1 a (by omega)])
  have q3 : ∀ a i, 232 ≤ a → g3 a i = g a i := fun a i h => by rw [F3 a i (by unfold fr_M_reads; omega), o1 a (by omega)]
  have e6 : g3 214 6 = g 214 6 := by rw [F3 214 6 (by unfold fr_M_reads; omega), f1 6 (by decide)]
  have e7 : g3 214 7 = g 214 7 := by rw [F3 214 7 (by unfold fr_M_reads; omega), f1 7 (by decide)]
  have R3 : 1 ≤ l1 → l1 ≤ 3 → zyR (1000000001 + l1.toNat) (zyM g3) g3 0 ∧ zyE (zyM g3) := fun a b => by
    rw [m3]
    have h := px4 a b
    refine ⟨zyR_0 (g := g1) ?_ F3 ?_, zyE_of (T := zyM g) h.1 h.2⟩
    · rw [o1 222 (by decide), f1 13 (by decide)]
      exact h.1
    · have h5 := p5
      rw [f1 14 (by decide), px3] at h5
      exact h5
  refine ⟨⟨by omega, by omega⟩, fun n1 => ⟨fun n2 => ⟨fun n3 => ?_, fun e3 => ?_⟩, fun e2 => ?_⟩, fun e1 => ?_⟩
  · refine k_M_readLaw I3 ⟨I3, p2, p3, p4, by omega⟩ o3 (fun v g' I' F' hv h => ?_)
    exact hQ _ _ I' (zk_ft G3 F' LT) hv (fun _ q => absurd q n3) (fun q _ => h q) (fun q => absurd q n2) (fun q => absurd q n1) (fun q => absurd q n3) (fun i _ => (F' 233 i (nL 233 i (by decide) (by decide))).trans (q3 233 i (by decide))) (fun i _ => (F' 232 i (nL 232 i (by decide) (by decide))).trans (q3 232 i (by decide))) (fun i _ => (F' 234 i (nL 234 i (by decide) (by decide))).trans (q3 234 i (by decide)))
  · have R := R3 (by omega) (by omega)
    rw [e3, show 1000000001 + (3 : Int).toNat = 1000000004 from rfl] at R
    refine k_M_readPlan I3 p2 p3 p4 R (fun v g' I' F' hv h h2 x => ?_)
    rw [m3, e6, e7] at x
    exact hQ _ _ I' (zk_ft G3 F' (fun a i h => by unfold fr_M_readPlan at h; unfold fr_M_readsText; rcases h with h | h | h | h | h | h | h <;> simp [h])) hv (fun q _ => h q) (fun _ q => by omega) (fun q => absurd q n2) (fun q => absurd q n1) (fun _ => x) (fun i _ => (F' 233 i (by unfold fr_M_readPlan; omega)).trans (q3 233 i (by decide))) (fun i _ => (F' 232 i (by unfold fr_M_readPlan; omega)).trans (q3 232 i (by decide))) (fun i hi => (h2 i hi).trans (q3 234 i (by decide)))
  · have R := R3 (by omega) (by omega)
    rw [e2, show 1000000001 + (2 : Int).toNat = 1000000003 from rfl] at R
    refine k_M_readWeather I3 p2 p3 p4 R (fun v g' I' F' hv h2 x => ?_)
    rw [m3] at x
    exact hQ _ _ I' (zk_ft G3 F' (fun a i h => by unfold fr_M_readWeather at h; unfold fr_M_readsText; rcases h with h | h | h | h | h | h | h <;> simp [h])) hv (fun _ q => by omega) (fun _ q => by omega) (fun _ => x) (fun q => absurd q n1) (fun q => by exfalso; omega) (fun i hi => (h2 i hi).trans (q3 233 i (by decide))) (fun i _ => (F' 232 i (by unfold fr_M_readWeather; omega)).trans (q3 232 i (by decide))) (fun i _ => (F' 234 i (by unfold fr_M_readWeather; omega)).trans (q3 234 i (by decide)))
  · have R := R3 (by omega) (by omega)
    rw [e1, show 1000000001 + (1 : Int).toNat = 1000000002 from rfl] at R
    refine k_M_readGutters I3 p2 p3 p4 R (fun v g' I' F' hv h2 x => ?_)
    rw [m3, e6] at x
    exact hQ _ _ I' (zk_ft G3 F' (fun a i h => by unfold fr_M_readGutters at h; unfold fr_M_readsText; rcases h with h | h | h | h | h | h | h <;> simp [h])) hv (fun _ q => by omega) (fun _ q => by omega) (fun q => by exfalso; omega) (fun _ => x) (fun q => by exfalso; omega) (fun i _ => (F' 233 i (by unfold fr_M_readGutters; omega)).trans (q3 233 i (by decide))) (fun i hi => (h2 i hi).trans (q3 232 i (by decide))) (fun i _ => (F' 234 i (by unfold fr_M_readGutters; omega)).trans (q3 234 i (by decide)))

-- SpoutNewsModel.text(I)I
theorem zyMw_of {g x y : zi_M} {v : Int} (h : zyWm (zyM g) x v) (ok : ¬ v = -1 → (∀ i : Int, 0 ≤ i → i < 2 * v → y 233 i = x 233 (32 + i)) ∧ y 214 37 = v ∧ y 214 33 = 0 ∧ y 214 34 = -1 ∧ y 214 3 = 0) (bad : v = -1 → y 214 33 = x 214 31 ∧ y 214 34 = x 214 32 ∧ y 214 3 = g 214 3 ∧ zyNw g y) (hs : ∀ s : Int, s = 5 * v → 0 ≤ s → ¬ v = -1) : zyMw g y v := by
  obtain ⟨s, s1, s2, s3⟩ := h
  refine ⟨s, s1, fun q => ?_, fun q => ?_⟩
  · have h := s2 q
    have o := ok (hs s h.1 s1.1)
    refine ⟨h.1, fun m m0 m1 => ?_, o.2.1, o.2.2.1, o.2.2.2.1, o.2.2.2.2⟩
    have k := h.2 m m0 m1
    rw [o.1 (2 * m) (by omega) (by omega), o.1 (2 * m + 1) (by omega) (by omega), show (32 : Int) + (2 * m + 1) = 32 + 2 * m + 1 by omega]
    exact k
  · have h := s3 q
    have b := bad h.1
    exact ⟨h.1, by rw [b.1]; exact h.2.1, by rw [b.2.1]; exact h.2.2, b.2.2.1, b.2.2.2⟩
theorem zyMg_of {g x y : zi_M} {v : Int} (h : zyHm (zyM g) (g 214 6) x v) (ok : ¬ v = -1 → (∀ i : Int, 0 ≤ i → i < 10 → y 232 i = x 232 (10 + i)) ∧ y 214 35 = v ∧ y 214 33 = 0 ∧ y 214 34 = -1) (bad : v = -1 → y 214 33 = x 214 31 ∧ y 214 34 = x 214 32 ∧ zyNg g y) (hs : ∀ s : Int, s = 5 * v → 0 ≤ s → ¬ v = -1) : zyMg g y v := by
  obtain ⟨s, s1, s2, s3⟩ := h
  refine ⟨s, s1, fun q => ?_, fun q => ?_⟩
  · have h := s2 q
    have o := ok (hs s h.1 s1.1)
    refine ⟨h.1, fun m m0 m1 => ?_, o.2.1, o.2.2.1, o.2.2.2⟩
    rw [o.1 m m0 m1]
    exact h.2 m m0 m1
  · have h := s3 q
    have b := bad h.1
    exact ⟨h.1, by rw [b.1]; exact h.2.1, by rw [b.2.1]; exact h.2.2, b.2.2⟩
theorem zyMp_of {g x y : zi_M} {v : Int} (h : zyPM (zyM g) (g 214 6) (g 214 7) x v) (ok : ¬ v = -1 → (∀ i : Int, 0 ≤ i → i < 4 * v → y 234 i = x 234 (64 + i)) ∧ y 214 39 = v ∧ y 214 33 = 0 ∧ y 214 34 = -1 ∧ y 214 3 = 0) (bad : v = -1 → y 214 33 = x 214 31 ∧ y 214 34 = x 214 32 ∧ y 214 3 = g 214 3 ∧ zyNp g y) : zyMp g y v := by
  obtain ⟨n, o, s1, s2, s3⟩ := h
  refine ⟨n, o, s1, fun q => ?_, fun q => ?_⟩
  · have h := s2 q
    have n0 := s1.1.1
    have o := ok (by omega)
    refine ⟨h.1, fun m m0 m1 => ?_, by rw [o.2.1, h.1], o.2.2.1, o.2.2.2.1, o.2.2.2.2⟩
    have k := h.2 m m0 m1
    rw [o.1 (4 * m) (by omega) (by omega), o.1 (4 * m + 1) (by omega) (by omega), o.1 (4 * m + 2) (by omega) (by omega), o.1 (4 * m + 3) (by omega) (by omega), show (64 : Int) + (4 * m + 1) = 64 + 4 * m + 1 by omega, show (64 : Int) + (4 * m + 2) = 64 + 4 * m + 2 by omega, show (64 : Int) + (4 * m + 3) = 64 + 4 * m + 3 by omega]
    exact k
  · have h := s3 q
    have b := bad h.1
    exact ⟨h.1, by rw [b.1]; exact h.2.1, by rw [b.2.1]; exact h.2.2, b.2.2.1, b.2.2.2⟩
theorem k_M_text {l1 : Int} {g : zi_M} {Q : Int → zi_M → Prop} (I : zk_I g) (p1 : (-2147483648) ≤ l1 ∧ l1 ≤ 2147483647) (px0 : 1 ≤ l1 → l1 ≤ 3 → zySs (1000000001 + l1.toNat) (g 222) (g 214 13) g) (hQ : ∀ (v : Int) (g' : zi_M), zk_I g' → zk_fr fr_M_text g g' → ((-1) ≤ v ∧ v ≤ 16) → (g' 214 13 = 0) → (l1 = 2 → zyMw g g' v) → (¬ l1 = 2 → zyNw g g') → (l1 = 1 → zyMg g g' v) → (¬ l1 = 1 → zyNg g g') → (l1 = 3 → zyMp g g' v) → (¬ l1 = 3 → zyNp g g') → (l1 < 0 ∨ 3 < l1 → v = -1 ∧ g' 214 33 = 0 ∧ g' 214 34 = -1) → (¬ (l1 = 2 ∨ l1 = 3) → g' 214 3 = g 214 3) → Q v g') : w_M_text l1 g Q := by
  unfold w_M_text
  intro g1 e1 g2 e2 g3 e3 g4 e4 g5 e5 g6 e6
  have I1 : zk_I g1 := by rw [e1]; exact zk_upd (L := -2147483648) (H := 2147483647) rfl rfl I ⟨by decide, by decide⟩
  have I2 : zk_I g2 := by rw [e2]; exact zk_upd (L := 0) (H := 3) rfl rfl I1 ⟨by decide, by decide⟩
  have I3 : zk_I g3 := by rw [e3]; exact zk_upd (L := -1) (H := 400) rfl rfl I2 ⟨by decide, by decide⟩
  have I4 : zk_I g4 := by rw [e4]; exact zk_upd (L := 0) (H := 400) rfl rfl I3 ⟨by decide, by decide⟩
  have I5 : zk_I g5 := by rw [e5]; exact zk_upd (L := 0) (H := 400) rfl rfl I4 ⟨by decide, by decide⟩
  have I6 : zk_I g6 := by rw [e6]; exact zk_upd (L := 0) (H := 8) rfl rfl I5 ⟨by decide, by decide⟩
  have o6 : ∀ a : Nat, ¬ a = 214 → g6 a = g a := fun a ha => by rw [e6, zi_u_row ha, e5, zi_u_row ha, e4, zi_u_row ha, e3, zi_u_row ha, e2, zi_u_row ha, e1, zi_u_row ha]
  have k6 : ∀ i : Int, ¬ i = 0 → ¬ i = 14 → ¬ i = 27 → ¬ i = 28 → ¬ i = 33 → ¬ i = 34 → g6 214 i = g 214 i := fun i h0 h14 h27 h28 h33 h34 => by rw [e6, zi_u_ni h28, e5, zi_u_ni h27, e4, zi_u_ni h14, e3, zi_u_ni h34, e2, zi_u_ni h33, e1, zi_u_ni h0]
  have z14 : g6 214 14 = 0 := by rw [e6, zi_u_ni (by decide), e5, zi_u_ni (by decide), e4, zi_u_eq]
  have z27 : g6 214 27 = 0 := by rw [e6, zi_u_ni (by decide), e5, zi_u_eq]
  have z28 : g6 214 28 = 0 := by rw [e6, zi_u_eq]
  have z33 : g6 214 33 = 0 := by rw [e6, zi_u_ni (by decide), e5, zi_u_ni (by decide), e4, zi_u_ni (by decide), e3, zi_u_ni (by decide), e2, zi_u_eq]
  have z34 : g6 214 34 = -1 := by rw [e6, zi_u_ni (by decide), e5, zi_u_ni (by decide), e4, zi_u_ni (by decide), e3, zi_u_eq]
  have w : ∀ i : Int, (i = 0 ∨ i = 13 ∨ i = 14 ∨ i = 27 ∨ i = 28 ∨ i = 33 ∨ i = 34) → fr_M_text 214 i := fun i h => by unfold fr_M_text; rcases h with h | h | h | h | h | h | h <;> simp [h]
  have F6 : zk_fr fr_M_text g g6 := by
    rw [e6, e5, e4, e3, e2, e1]
    exact zk_fu (zk_fu (zk_fu (zk_fu (zk_fu (zk_fu (zk_f0 _) (w 0 (by decide))) (w 33 (by decide))) (w 34 (by decide))) (w 14 (by decide))) (w 27 (by decide))) (w 28 (by decide))
  have m6 : zyM g6 = zyM g := zyM_m (fun a i h => by
    by_cases q : a = 214
    · omega
    · rw [o6 a q])
  have t13 : 0 ≤ g6 214 13 := (I6.1 214 13).1
  have five : ∀ v s : Int, s = 5 * v → 0 ≤ s → ¬ v = -1 := fun v s h1 h2 => by omega
  refine k_M_isIn I6 ⟨by omega, by omega⟩ ⟨by decide, by decide⟩ ⟨by decide, by decide⟩ (fun v7 a1 a2 a3 => ⟨fun e7 => ?_, fun n7 => ?_⟩)
  · unfold w_M_text_b69
    intro g10 e10
    have q : ∀ a i, ¬ (a = 214 ∧ i = 13) → g10 a i = g6 a i := fun a i h => by
      rw [e10]
      by_cases c : a = 214
      · rw [c]; exact zi_u_ni (fun z => h ⟨c, z⟩)
      · exact zi_u_ne c
    refine ⟨by decide, fun n => absurd rfl n, fun _ => ?_⟩
    have I10 : zk_I g10 := by rw [e10]; exact zk_upd (L := 0) (H := 400) rfl rfl I6 ⟨by decide, by decide⟩
    have nw : zyNw g g10 := ⟨by rw [q _ _ (by decide)]; exact k6 37 (by decide) (by decide) (by decide) (by decide) (by decide) (by decide), fun i _ => by rw [q _ _ (by omega), o6 233 (by decide)]⟩
    have ng : zyNg g g10 := ⟨by rw [q _ _ (by decide)]; exact k6 35 (by decide) (by decide) (by decide) (by decide) (by decide) (by decide), fun i _ => by rw [q _ _ (by omega), o6 232 (by decide)]⟩
    have np : zyNp g g10 := ⟨by rw [q _ _ (by decide)]; exact k6 39 (by decide) (by decide) (by decide) (by decide) (by decide) (by decide), fun i _ => by rw [q _ _ (by omega), o6 234 (by decide)]⟩
    exact hQ (-1) g10 I10 (by rw [e10]; exact zk_fu F6 (w 13 (by decide))) ⟨by decide, by decide⟩ (by rw [e10, zi_u_eq]) (fun h => by exfalso; omega) (fun _ => nw) (fun h => by exfalso; omega) (fun _ => ng) (fun h => by exfalso; omega) (fun _ => np) (fun _ => ⟨rfl, by rw [q _ _ (by decide)]; exact z33, by rw [q _ _ (by decide)]; exact z34⟩) (fun _ => by rw [q _ _ (by decide)]; exact k6 3 (by decide) (by decide) (by decide) (by decide) (by decide) (by decide))
  · have in3 : 0 ≤ l1 ∧ l1 ≤ 3 := by omega
    have sp : 1 ≤ l1 → l1 ≤ 3 → zySs (1000000001 + l1.toNat) (g6 222) (g6 214 13) g6 := fun a b => by
      rw [o6 222 (by decide), k6 13 (by decide) (by decide) (by decide) (by decide) (by decide) (by decide)]
      exact zySs_m (px0 a b) (fun a i h => by
        by_cases c : a = 214
        · omega
        · rw [o6 a c])
    refine k_M_readsText I6 p1 (by omega) z27 z28 z14 sp (fun v21 x Ix Fx bv hd hl x2 x1 x3 r233 r232 r234 => ⟨⟨by omega, by omega⟩, fun ne => ?_, fun e => ?_⟩)
    · have Gx : zk_fr fr_M_text g x := zk_ft F6 Fx (fun a i h => by unfold fr_M_readsText at h; unfold fr_M_text; rcases h with h | h | h | h | h | h | h | h | h | h | h | h | h | h | h | h | h | h | h | h <;> simp [h])
      have y33 : x 214 33 = 0 := by rw [Fx _ _ (by unfold fr_M_readsText; omega)]; exact z33
      have y34 : x 214 34 = -1 := by rw [Fx _ _ (by unfold fr_M_readsText; omega)]; exact z34
      have y3 : x 214 3 = g 214 3 := by rw [Fx _ _ (by unfold fr_M_readsText; omega)]; exact k6 3 (by decide) (by decide) (by decide) (by decide) (by decide) (by decide)
      have y37 : x 214 37 = g 214 37 := by rw [Fx _ _ (by unfold fr_M_readsText; omega)]; exact k6 37 (by decide) (by decide) (by decide) (by decide) (by decide) (by decide)
      have y35 : x 214 35 = g 214 35 := by rw [Fx _ _ (by unfold fr_M_readsText; omega)]; exact k6 35 (by decide) (by decide) (by decide) (by decide) (by decide) (by decide)
      have y39 : x 214 39 = g 214 39 := by rw [Fx _ _ (by unfold fr_M_readsText; omega)]; exact k6 39 (by decide) (by decide) (by decide) (by decide) (by decide) (by decide)
      rw [m6] at x2 x1 x3
      rw [k6 6 (by decide) (by decide) (by decide) (by decide) (by decide) (by decide)] at x1 x3
      rw [k6 7 (by decide) (by decide) (by decide) (by decide) (by decide) (by decide)] at x3
      unfold w_M_text_b69
      intro g10 e10
      have I10 : zk_I g10 := by rw [e10]; exact zk_upd (L := 0) (H := 400) rfl rfl Ix ⟨by decide, by decide⟩
      have F10 : zk_fr fr_M_text g g10 := by rw [e10]; exact zk_fu Gx (w 13 (by decide))
      have q : ∀ a i, ¬ (a = 214 ∧ i = 13) → g10 a i = x a i := fun a i h => by
        rw [e10]
        by_cases c : a = 214
        · rw [c]; exact zi_u_ni (fun z => h ⟨c, z⟩)
        · exact zi_u_ne c
      refine ⟨⟨by omega, by omega⟩, fun _ => ⟨⟨by omega, by omega⟩, fun n0 => ?_, fun e0 => ?_⟩, fun e => absurd e ne⟩
      · refine k_M_takesOther I10 p1 ⟨by omega, by omega⟩ ⟨by omega, by omega⟩ (fun h3 => zd_u e10 (hd ne h3)) (fun y Iy Fy t2 t1 t3 u2 u1 u3 => ?_)
        have c : ∀ i : Int, ¬ i = 3 → ¬ i = 35 → ¬ i = 37 → ¬ i = 39 → ¬ i = 13 → y 214 i = x 214 i := fun i h3 h35 h37 h39 h13 => by rw [Fy 214 i (by unfold fr_M_takesOther; omega), q _ _ (by omega)]
        have c33 := c 33 (by decide) (by decide) (by decide) (by decide) (by decide)
        have c34 := c 34 (by decide) (by decide) (by decide) (by decide) (by decide)
        refine hQ v21 y Iy (zk_ft F10 Fy (fun a i h => by unfold fr_M_takesOther at h; unfold fr_M_text; rcases h with h | h | h | h | h | h | h <;> simp [h])) ⟨by omega, by omega⟩ (by rw [Fy 214 13 (by unfold fr_M_takesOther; omega), e10, zi_u_eq]) (fun h => ?_) (fun h => ?_) (fun h => ?_) (fun h => ?_) (fun h => ?_) (fun h => ?_) (fun h => by exfalso; omega) (fun h => ?_)
        · have t := t2 h
          exact zyMw_of (x2 h) (fun _ => ⟨fun i i0 i1 => by rw [t.1 i i0 i1, q _ _ (by omega)], t.2.1, by rw [c33]; exact y33, by rw [c34]; exact y34, t.2.2⟩) (fun e => absurd e ne) (five v21)
        · have u := u2 h
          exact ⟨by rw [u.2, q _ _ (by decide)]; exact y37, fun i hi => by rw [u.1, q _ _ (by omega), r233 i hi, o6 233 (by decide)]⟩
        · have t := t1 h
          exact zyMg_of (x1 h) (fun _ => ⟨fun i i0 i1 => by rw [t.1 i i0 i1, q _ _ (by omega)], t.2.1, by rw [c33]; exact y33, by rw [c34]; exact y34⟩) (fun e => absurd e ne) (five v21)
        · have u := u1 h
          exact ⟨by rw [u.2, q _ _ (by decide)]; exact y35, fun i hi => by rw [u.1, q _ _ (by omega), r232 i hi, o6 232 (by decide)]⟩
        · have t := t3 h
          exact zyMp_of (x3 h) (fun _ => ⟨fun i i0 i1 => by rw [t.1 i i0 i1, q _ _ (by omega)], t.2.1, by rw [c33]; exact y33, by rw [c34]; exact y34, t.2.2⟩) (fun e => absurd e ne)
        · have u := u3 h
          exact ⟨by rw [u.2, q _ _ (by decide)]; exact y39, fun i hi => by rw [u.1, q _ _ (by omega), r234 i hi, o6 234 (by decide)]⟩
        · have t := t1 (by omega)
          rw [t.2.2, q _ _ (by decide)]
          exact y3
      · refine k_M_takesLaw I10 ⟨by omega, by omega⟩ (zLd_u e10 (by decide) (hl ne e0)) (fun y Iy Fy => ?_)
        have c : ∀ a i, (232 ≤ a ∨ a = 214) → y a i = g10 a i := fun a i h => Fy a i (by unfold fr_M_takesLaw; omega)
        have nw : zyNw g y := ⟨by rw [c _ _ (by decide), q _ _ (by decide)]; exact y37, fun i hi => by rw [c _ _ (by decide), q _ _ (by omega), r233 i hi, o6 233 (by decide)]⟩
        have ng : zyNg g y := ⟨by rw [c _ _ (by decide), q _ _ (by decide)]; exact y35, fun i hi => by rw [c _ _ (by decide), q _ _ (by omega), r232 i hi, o6 232 (by decide)]⟩
        have np : zyNp g y := ⟨by rw [c _ _ (by decide), q _ _ (by decide)]; exact y39, fun i hi => by rw [c _ _ (by decide), q _ _ (by omega), r234 i hi, o6 234 (by decide)]⟩
        exact hQ v21 y Iy (zk_ft F10 Fy (fun a i h => by unfold fr_M_takesLaw at h; unfold fr_M_text; rcases h with h | h | h | h | h | h | h <;> simp [h])) ⟨by omega, by omega⟩ (by rw [c _ _ (by decide), e10, zi_u_eq]) (fun h => by exfalso; omega) (fun _ => nw) (fun h => by exfalso; omega) (fun _ => ng) (fun h => by exfalso; omega) (fun _ => np) (fun h => by exfalso; omega) (fun _ => by rw [c _ _ (by decide), q _ _ (by decide)]; exact y3)
    · have Gx : zk_fr fr_M_text g x := zk_ft F6 Fx (fun a i h => by unfold fr_M_readsText at h; unfold fr_M_text; rcases h with h | h | h | h | h | h | h | h | h | h | h | h | h | h | h | h | h | h | h | h <;> simp [h])
      have y3 : x 214 3 = g 214 3 := by rw [Fx _ _ (by unfold fr_M_readsText; omega)]; exact k6 3 (by decide) (by decide) (by decide) (by decide) (by decide) (by decide)
      have y37 : x 214 37 = g 214 37 := by rw [Fx _ _ (by unfold fr_M_readsText; omega)]; exact k6 37 (by decide) (by decide) (by decide) (by decide) (by decide) (by decide)
      have y35 : x 214 35 = g 214 35 := by rw [Fx _ _ (by unfold fr_M_readsText; omega)]; exact k6 35 (by decide) (by decide) (by decide) (by decide) (by decide) (by decide)
      have y39 : x 214 39 = g 214 39 := by rw [Fx _ _ (by unfold fr_M_readsText; omega)]; exact k6 39 (by decide) (by decide) (by decide) (by decide) (by decide) (by decide)
      rw [m6] at x2 x1 x3
      rw [k6 6 (by decide) (by decide) (by decide) (by decide) (by decide) (by decide)] at x1 x3
      rw [k6 7 (by decide) (by decide) (by decide) (by decide) (by decide) (by decide)] at x3
      intro g25 e25 g26 e26
      have b31 : 0 ≤ x 214 31 ∧ x 214 31 ≤ 3 := Ix.1 214 31
      have b32 : 0 ≤ x 214 32 ∧ x 214 32 ≤ 400 := Ix.1 214 32
      have I25 : zk_I g25 := by rw [e25]; exact zk_upd (L := 0) (H := 3) rfl rfl Ix ⟨by omega, by omega⟩
      have s32 : g25 214 32 = x 214 32 := by rw [e25, zi_u_ni (by decide)]
      have I26 : zk_I g26 := by rw [e26]; exact zk_upd (L := -1) (H := 400) rfl rfl I25 ⟨by omega, by omega⟩
      unfold w_M_text_b69
      intro g10 e10
      have I10 : zk_I g10 := by rw [e10]; exact zk_upd (L := 0) (H := 400) rfl rfl I26 ⟨by decide, by decide⟩
      have F10 : zk_fr fr_M_text g g10 := by rw [e10, e26, e25]; exact zk_fu (zk_fu (zk_fu Gx (w 33 (by decide))) (w 34 (by decide))) (w 13 (by decide))
      have q : ∀ a i, ¬ (a = 214 ∧ (i = 13 ∨ i = 33 ∨ i = 34)) → g10 a i = x a i := fun a i h => by
        rw [e10, e26, e25]
        by_cases c : a = 214
        · subst c
          rw [zi_u_ni (by omega), zi_u_ni (by omega), zi_u_ni (by omega)]
        · rw [zi_u_ne c, zi_u_ne c, zi_u_ne c]
      have c33 : g10 214 33 = x 214 31 := by rw [e10, zi_u_ni (by decide), e26, zi_u_ni (by decide), e25, zi_u_eq]
      have c34 : g10 214 34 = x 214 32 := by rw [e10, zi_u_ni (by decide), e26, zi_u_eq, s32]
      have c3 : g10 214 3 = g 214 3 := by rw [q _ _ (by decide)]; exact y3
      have nw : zyNw g g10 := ⟨by rw [q _ _ (by decide)]; exact y37, fun i hi => by rw [q _ _ (by omega), r233 i hi, o6 233 (by decide)]⟩
      have ng : zyNg g g10 := ⟨by rw [q _ _ (by decide)]; exact y35, fun i hi => by rw [q _ _ (by omega), r232 i hi, o6 232 (by decide)]⟩
      have np : zyNp g g10 := ⟨by rw [q _ _ (by decide)]; exact y39, fun i hi => by rw [q _ _ (by omega), r234 i hi, o6 234 (by decide)]⟩
      subst e
      refine ⟨by decide, fun n => absurd rfl n, fun _ => ?_⟩
      exact hQ (-1) g10 I10 F10 ⟨by decide, by decide⟩ (by rw [e10, zi_u_eq]) (fun h => zyMw_of (x2 h) (fun n => absurd rfl n) (fun _ => ⟨c33, c34, c3, nw⟩) (five _)) (fun _ => nw) (fun h => zyMg_of (x1 h) (fun n => absurd rfl n) (fun _ => ⟨c33, c34, ng⟩) (five _)) (fun _ => ng) (fun h => zyMp_of (x3 h) (fun n => absurd rfl n) (fun _ => ⟨c33, c34, c3, np⟩)) (fun _ => np) (fun h => by exfalso; omega) (fun _ => c3)

-- SpoutNews.fault(I)I
set_option maxRecDepth 100000 in
set_option maxHeartbeats 4000000 in
theorem k_S_fault {l1 : Int} {g : zi_M} {Q : Int → zi_M → Prop} (I : zk_I g) (p1 : (-2147483648) ≤ l1 ∧ l1 ≤ 2147483647) (hQ : ∀ v : Int, ((l1 = 0) → v = g 191 5) → ((l1 = 1) → v = g 191 6) → (¬ l1 = 0 → ¬ l1 = 1 → v = (-1)) → Q v g) : w_S_fault l1 g Q := by
  unfold w_S_fault
  refine ⟨⟨by omega, by omega⟩, ?_⟩
  refine ⟨fun c2_0 c2_1 => ?_, fun c2 => ?_, fun c2 => ?_⟩
  · have m_1 : 0 ≤ (g 191 5) ∧ (g 191 5) ≤ 3 := I.1 191 5
    have m_2 : (-1) ≤ (g 191 6) ∧ (g 191 6) ≤ 400 := I.1 191 6
    exact hQ _ (by intros; omega) (by intros; omega) (by intros; omega)
  · have m_3 : 0 ≤ (g 191 5) ∧ (g 191 5) ≤ 3 := I.1 191 5
    have m_4 : (-1) ≤ (g 191 6) ∧ (g 191 6) ≤ 400 := I.1 191 6
    exact hQ _ (by intros; omega) (by intros; omega) (by intros; omega)
  · have m_5 : (-1) ≤ (g 191 6) ∧ (g 191 6) ≤ 400 := I.1 191 6
    have m_6 : 0 ≤ (g 191 5) ∧ (g 191 5) ≤ 3 := I.1 191 5
    exact hQ _ (by intros; omega) (by intros; omega) (by intros; omega)
-- SpoutNewsModel.fault(I)I
set_option maxRecDepth 100000 in
set_option maxHeartbeats 4000000 in
theorem k_M_fault {l1 : Int} {g : zi_M} {Q : Int → zi_M → Prop} (I : zk_I g) (p1 : (-2147483648) ≤ l1 ∧ l1 ≤ 2147483647) (hQ : ∀ (v : Int) (g' : zi_M), zk_I g' → zk_fr fr_M_fault g g' → ((-1) ≤ v ∧ v ≤ 400) → Q v g') : w_M_fault l1 g Q := by
  unfold w_M_fault
  intro g1 e_1
  have I_2 : zk_I g1 := by rw [e_1]; exact zk_upd (L := (-2147483648)) (H := 2147483647) rfl rfl I ⟨by omega, by omega⟩
  have F_3 : zk_fr fr_M_fault g g1 := by rw [e_1]; exact zk_fu (zk_f0 _) ⟨rfl, rfl⟩
  refine ⟨⟨by omega, by omega⟩, ?_⟩
  refine ⟨fun c4 => ?_, fun c4 => ?_⟩
  · refine ⟨fun c3 => ?_, fun c3 => ?_⟩
    · exact hQ _ _ I_2 F_3 ⟨by omega, by omega⟩
    · have m_4 : (-1) ≤ (g1 214 34) ∧ (g1 214 34) ≤ 400 := I_2.1 214 34
      have m_5 : g1 214 34 = g 214 34 := by rw [e_1]; exact zi_u_ni (by decide)
      have m_6 : (-1) ≤ (g 214 34) ∧ (g 214 34) ≤ 400 := I.1 214 34
      exact hQ _ _ I_2 F_3 ⟨by omega, by omega⟩
  · have m_7 : 0 ≤ (g1 214 33) ∧ (g1 214 33) ≤ 3 := I_2.1 214 33
    have m_8 : g1 214 33 = g 214 33 := by rw [e_1]; exact zi_u_ni (by decide)
    have m_9 : 0 ≤ (g 214 33) ∧ (g 214 33) ≤ 3 := I.1 214 33
    exact hQ _ _ I_2 F_3 ⟨by omega, by omega⟩
-- SpoutNews.of(II)I
set_option maxRecDepth 100000 in
set_option maxHeartbeats 4000000 in
theorem k_S_of_b92 {l1 : Int} {l2 : Int} {Q : Int → zi_M → Prop} {g : zi_M} {g0 : zi_M} (I : zk_I g) (F : zk_fr fr_S_of g0 g) (p1 : 0 ≤ l1 ∧ l1 ≤ 9) (p2 : (-2147483648) ≤ l2 ∧ l2 ≤ 2147483647) (hQ : ∀ (v : Int) (g' : zi_M), zk_I g' → zk_fr fr_S_of g0 g' → ((-2) ≤ v ∧ v ≤ 1000) → Q v g') : w_S_of_b92 l1 l2 g Q := by
  unfold w_S_of_b92
  refine ⟨⟨by omega, by omega⟩, ?_⟩
  refine ⟨fun c7 => ?_, fun c7 => ?_, fun c7 => ?_, fun c7 => ?_, fun c7 => ?_, fun c7 => ?_, fun c7 => ?_, fun c7 => ?_, fun c7 => ?_, fun c7 => ?_⟩
  · exact hQ _ _ I F ⟨by omega, by omega⟩
  · refine ⟨⟨by omega, by omega⟩, ?_⟩
    have m_5 : 0 ≤ (g 3 l1) ∧ (g 3 l1) ≤ 5 := I.1 3 l1
    exact hQ _ _ I F ⟨by omega, by omega⟩
  · refine ⟨⟨by omega, by omega⟩, ?_⟩
    have m_6 : 0 ≤ (g 4 l1) ∧ (g 4 l1) ≤ 3 := I.1 4 l1
    exact hQ _ _ I F ⟨by omega, by omega⟩
  · refine ⟨⟨by omega, by omega⟩, ?_⟩
    have m_7 : 0 ≤ (g 5 l1) ∧ (g 5 l1) ≤ 99 := I.1 5 l1
    exact hQ _ _ I F ⟨by omega, by omega⟩
  · refine ⟨⟨by omega, by omega⟩, ?_⟩
    have m_8 : 0 ≤ (g 6 l1) ∧ (g 6 l1) ≤ 2 := I.1 6 l1
    exact hQ _ _ I F ⟨by omega, by omega⟩
  · refine ⟨⟨by omega, by omega⟩, ?_⟩
    have m_9 : 0 ≤ (g 8 l1) ∧ (g 8 l1) ≤ 20 := I.1 8 l1
    exact hQ _ _ I F ⟨by omega, by omega⟩
  · refine ⟨⟨by omega, by omega⟩, ?_⟩
    have m_10 : 0 ≤ (g 7 l1) ∧ (g 7 l1) ≤ 999 := I.1 7 l1
    exact hQ _ _ I F ⟨by omega, by omega⟩
  · have m_14 : (-1) ≤ (g 29 (l1)) ∧ (g 29 (l1)) ≤ 9 := I.1 29 (l1)
    refine k_Texts_gutterOf I ⟨by omega, by omega⟩ (fun v14 b_11 b_12 b_13 => ?_)
    exact hQ _ _ I F ⟨by omega, by omega⟩
  · refine k_Law_tells rfl I ⟨by omega, by omega⟩ ⟨by omega, by omega⟩ ⟨by omega, by omega⟩ (fun v17 g18 I_17 F_18 b_15 b_16 => ?_)
    have F_19 : zk_fr fr_S_of g0 g18 := zk_ft F F_18 (fun a i => (fun h => Or.elim h (fun h => (Or.inl h)) (fun h => (Or.inr h))))
    exact hQ _ _ I_17 F_19 ⟨by omega, by omega⟩
  · refine k_Law_tells rfl I ⟨by omega, by omega⟩ ⟨by omega, by omega⟩ ⟨by omega, by omega⟩ (fun v20 g21 I_22 F_23 b_20 b_21 => ?_)
    have F_24 : zk_fr fr_S_of g0 g21 := zk_ft F F_23 (fun a i => (fun h => Or.elim h (fun h => (Or.inl h)) (fun h => (Or.inr h))))
    exact hQ _ _ I_22 F_24 ⟨by omega, by omega⟩
set_option maxRecDepth 100000 in
set_option maxHeartbeats 4000000 in
theorem k_S_of_b59 {l1 : Int} {l2 : Int} {Q : Int → zi_M → Prop} {g : zi_M} {g0 : zi_M} (I : zk_I g) (F : zk_fr fr_S_of g0 g) (p1 : 0 ≤ l1 ∧ l1 ≤ 9) (p2 : (-2147483648) ≤ l2 ∧ l2 ≤ 2147483647) (hQ : ∀ (v : Int) (g' : zi_M), zk_I g' → zk_fr fr_S_of g0 g' → ((-2) ≤ v ∧ v ≤ 1000) → Q v g') : w_S_of_b59 l1 l2 g Q := by
  unfold w_S_of_b59
  refine ⟨⟨by omega, by omega⟩, ?_⟩
  refine ⟨fun c27 => ?_, fun c27 => ?_⟩
  · exact k_S_of_b92 I F ⟨by omega, by omega⟩ ⟨by omega, by omega⟩ hQ
  · refine ⟨fun c26 => ?_, fun c26 => ?_⟩
    · exact k_S_of_b92 I F ⟨by omega, by omega⟩ ⟨by omega, by omega⟩ hQ
    · refine k_Law_tells rfl I ⟨by omega, by omega⟩ ⟨by omega, by omega⟩ ⟨by omega, by omega⟩ (fun v23 g24 I_27 F_28 b_25 b_26 => ?_)
      have F_29 : zk_fr fr_S_of g0 g24 := zk_ft F F_28 (fun a i => (fun h => Or.elim h (fun h => (Or.inl h)) (fun h => (Or.inr h))))
      exact hQ _ _ I_27 F_29 ⟨by omega, by omega⟩
set_option maxRecDepth 100000 in
set_option maxHeartbeats 4000000 in
theorem k_S_of {l1 : Int} {l2 : Int} {g : zi_M} {Q : Int → zi_M → Prop} (I : zk_I g) (p1 : (-2147483648) ≤ l1 ∧ l1 ≤ 2147483647) (p2 : (-2147483648) ≤ l2 ∧ l2 ≤ 2147483647) (hQ : ∀ (v : Int) (g' : zi_M), zk_I g' → zk_fr fr_S_of g g' → ((-2) ≤ v ∧ v ≤ 1000) → Q v g') : w_S_of l1 l2 g Q := by
  unfold w_S_of
  have m_4 : 0 ≤ (g 2 8) ∧ (g 2 8) ≤ 10 := I.1 2 8
  refine k_World_isSpout rfl I ⟨by omega, by omega⟩ (fun v1 b_1 b_2 b_3 => ?_)
  try simp only [Nat.reduceAdd] at b_1 b_2 b_3
  refine ⟨fun c37 => ?_, fun c37 => ?_⟩
  · refine ⟨⟨by omega, by omega⟩, ?_⟩
    refine ⟨fun c36 => ?_, fun c36 => ?_⟩
    · exact k_S_of_b59 I (zk_f0 _) ⟨by omega, by omega⟩ ⟨by omega, by omega⟩ hQ
    · refine ⟨fun c35 => ?_, fun c35 => ?_⟩
      · exact k_S_of_b59 I (zk_f0 _) ⟨by omega, by omega⟩ ⟨by omega, by omega⟩ hQ
      · refine ⟨⟨by omega, by omega⟩, ?_⟩
        have m_30 : 0 ≤ (g 8 l1) ∧ (g 8 l1) ≤ 20 := I.1 8 l1
        refine ⟨⟨by omega, by omega⟩, ⟨by omega, by omega⟩, ?_⟩
        refine ⟨fun c34 => ?_, fun c34 => ?_⟩
        · exact hQ _ _ I (zk_f0 _) ⟨by omega, by omega⟩
        · have m_36 : 0 ≤ (g 9 ((l1 * 20) + (l2 - 20))) ∧ (g 9 ((l1 * 20) + (l2 - 20))) ≤ 15 := I.1 9 ((l1 * 20) + (l2 - 20))
          refine k_World_wordAt rfl I ⟨by omega, by omega⟩ ⟨by omega, by omega⟩ (fun v31 b_31 b_32 b_33 b_34 b_35 => ?_)
          try simp only [Nat.reduceAdd] at b_31 b_32 b_33 b_34 b_35
          exact hQ _ _ I (zk_f0 _) ⟨by omega, by omega⟩
  · exact hQ _ _ I (zk_f0 _) ⟨by omega, by omega⟩
-- SpoutNewsModel.of(II)I
set_option maxRecDepth 100000 in
set_option maxHeartbeats 4000000 in
theorem k_M_of {l1 : Int} {l2 : Int} {g : zi_M} {Q : Int → zi_M → Prop} (I : zk_I g) (p1 : (-2147483648) ≤ l1 ∧ l1 ≤ 2147483647) (p2 : (-2147483648) ≤ l2 ∧ l2 ≤ 2147483647) (hQ : ∀ (v : Int) (g' : zi_M), zk_I g' → zk_fr fr_M_of g g' → ((-2147483648) ≤ v ∧ v ≤ 2147483647) → Q v g') : w_M_of l1 l2 g Q := by
  unfold w_M_of
  intro g1 e_1
  have I_2 : zk_I g1 := by rw [e_1]; exact zk_upd (L := (-2147483648)) (H := 2147483647) rfl rfl I ⟨by omega, by omega⟩
  have F_3 : zk_fr fr_M_of g g1 := by rw [e_1]; exact zk_fu (zk_f0 _) (Or.inr (Or.inr ⟨rfl, rfl⟩))
  have m_7 : 0 ≤ (g1 214 6) ∧ (g1 214 6) ≤ 10 := I_2.1 214 6
  have m_8 : g1 214 6 = g 214 6 := by rw [e_1]; exact zi_u_ni (by decide)
  have m_9 : 0 ≤ (g 214 6) ∧ (g 214 6) ≤ 10 := I.1 214 6
  refine k_M_isSpout I_2 ⟨by omega, by omega⟩ (fun v2 b_4 b_5 b_6 => ?_)
  refine ⟨fun c44 => ?_, fun c44 => ?_⟩
  · refine ⟨⟨by omega, by omega⟩, ?_⟩
    have m_10 := zk_now26 I_2 (i := (26 + l1)) (by omega)
    have m_11 : g1 215 (26 + l1) = g 215 (26 + l1) := by rw [e_1]; exact zi_u_ne (by decide)
    have m_12 := zk_now26 I (i := (26 + l1)) (by omega)
    refine k_M_isIn I_2 ⟨by omega, by omega⟩ ⟨by omega, by omega⟩ ⟨by omega, by omega⟩ (fun v6 b_13 b_14 b_15 => ?_)
    refine ⟨fun c43 => ?_, fun c43 => ?_⟩
    · refine k_M_isIn I_2 ⟨by omega, by omega⟩ ⟨by omega, by omega⟩ ⟨by omega, by omega⟩ (fun v9 b_16 b_17 b_18 => ?_)
      refine ⟨fun c39 => ?_, fun c39 => ?_⟩
      · refine ⟨⟨by omega, by omega⟩, ?_⟩
        refine ⟨fun c35 => ?_, fun c35 => ?_⟩
        · refine ⟨fun c33 => ?_, fun c33 => ?_⟩
          · refine ⟨fun c31 => ?_, fun c31 => ?_⟩
            · refine ⟨fun c29 => ?_, fun c29 => ?_⟩
              · refine ⟨fun c27 => ?_, fun c27 => ?_⟩
                · refine ⟨fun c26 => ?_, fun c26 => ?_⟩
                  · refine ⟨fun c24 => ?_, fun c24 => ?_⟩
                    · refine ⟨fun c20 => ?_, fun c20 => ?_⟩
                      · refine ⟨fun c16 => ?_, fun c16 => ?_⟩
                        · exact hQ _ _ I_2 F_3 ⟨by omega, by omega⟩
                        · refine k_M_jetOf I_2 ⟨by omega, by omega⟩ (fun v13 g14 I_21 F_22 b_19 b_20 => ?_)
                          have F_23 : zk_fr fr_M_of g g14 := zk_ft F_3 F_22 (fun a i => (fun h => Or.elim h (fun h => (Or.inl h)) (fun h => (Or.inr (Or.inl h)))))
                          exact hQ _ _ I_21 F_23 ⟨by omega, by omega⟩
                      · refine k_M_hearsOf I_2 ⟨by omega, by omega⟩ (fun v17 g18 I_26 F_27 b_24 b_25 => ?_)
                        have F_28 : zk_fr fr_M_of g g18 := zk_ft F_3 F_27 (fun a i => (fun h => Or.elim h (fun h => (Or.inl h)) (fun h => (Or.inr (Or.inl h)))))
                        exact hQ _ _ I_26 F_28 ⟨by omega, by omega⟩
                    · have m_30 : 0 ≤ (g1 232 (l1)) ∧ (g1 232 (l1)) ≤ 10 := I_2.1 232 (l1)
                      have m_31 : g1 232 (l1) = g 232 (l1) := by rw [e_1]; exact zi_u_ne (by decide)
                      have m_32 : 0 ≤ (g 232 (l1)) ∧ (g 232 (l1)) ≤ 10 := I.1 232 (l1)
                      refine k_M_into I_2 ⟨by omega, by omega⟩ (fun v21 b_29 => ?_)
                      exact hQ _ _ I_2 F_3 ⟨by omega, by omega⟩
                  · refine ⟨⟨by omega, by omega⟩, ?_⟩
                    have m_33 := zk_now16 I_2 (i := (16 + l1)) (by omega)
                    have m_34 : g1 215 (16 + l1) = g 215 (16 + l1) := by rw [e_1]; exact zi_u_ne (by decide)
                    have m_35 := zk_now16 I (i := (16 + l1)) (by omega)
                    exact hQ _ _ I_2 F_3 ⟨by omega, by omega⟩
                · exact hQ _ _ I_2 F_3 ⟨by omega, by omega⟩
              · refine ⟨⟨by omega, by omega⟩, ?_⟩
                have m_36 := zk_now6 I_2 (i := (6 + l1)) (by omega)
                have m_37 : g1 215 (6 + l1) = g 215 (6 + l1) := by rw [e_1]; exact zi_u_ne (by decide)
                have m_38 := zk_now6 I (i := (6 + l1)) (by omega)
                exact hQ _ _ I_2 F_3 ⟨by omega, by omega⟩
            · refine ⟨⟨by omega, by omega⟩, ?_⟩
              have m_39 : 0 ≤ (g1 220 l1) ∧ (g1 220 l1) ≤ 99 := I_2.1 220 l1
              have m_40 : g1 220 l1 = g 220 l1 := by rw [e_1]; exact zi_u_ne (by decide)
              have m_41 : 0 ≤ (g 220 l1) ∧ (g 220 l1) ≤ 99 := I.1 220 l1
              exact hQ _ _ I_2 F_3 ⟨by omega, by omega⟩
          · refine ⟨⟨by omega, by omega⟩, ?_⟩
            have m_42 : 0 ≤ (g1 219 l1) ∧ (g1 219 l1) ≤ 3 := I_2.1 219 l1
            have m_43 : g1 219 l1 = g 219 l1 := by rw [e_1]; exact zi_u_ne (by decide)
            have m_44 : 0 ≤ (g 219 l1) ∧ (g 219 l1) ≤ 3 := I.1 219 l1
            exact hQ _ _ I_2 F_3 ⟨by omega, by omega⟩
        · refine ⟨⟨by omega, by omega⟩, ?_⟩
          have m_45 : 0 ≤ (g1 218 l1) ∧ (g1 218 l1) ≤ 5 := I_2.1 218 l1
          have m_46 : g1 218 l1 = g 218 l1 := by rw [e_1]; exact zi_u_ne (by decide)
          have m_47 : 0 ≤ (g 218 l1) ∧ (g 218 l1) ≤ 5 := I.1 218 l1
          exact hQ _ _ I_2 F_3 ⟨by omega, by omega⟩
      · refine k_M_slipOf I_2 ⟨by omega, by omega⟩ ⟨by omega, by omega⟩ (fun v36 g37 I_50 F_51 b_48 b_49 => ?_)
        have F_52 : zk_fr fr_M_of g g37 := zk_ft F_3 F_51 (fun a i => (fun h => Or.elim h (fun h => (Or.inl h)) (fun h => (Or.inr (Or.inl h)))))
        exact hQ _ _ I_50 F_52 ⟨by omega, by omega⟩
    · have m_54 := zk_now36 I_2 (i := ((36 + (20 * l1)) + (l2 - 20))) (by omega)
      have m_55 : g1 215 ((36 + (20 * l1)) + (l2 - 20)) = g 215 ((36 + (20 * l1)) + (l2 - 20)) := by rw [e_1]; exact zi_u_ne (by decide)
      have m_56 := zk_now36 I (i := ((36 + (20 * l1)) + (l2 - 20))) (by omega)
      refine k_M_heardAt I_2 ⟨by omega, by omega⟩ ⟨by omega, by omega⟩ (fun v40 b_53 => ?_)
      exact hQ _ _ I_2 F_3 ⟨by omega, by omega⟩
  · exact hQ _ _ I_2 F_3 ⟨by omega, by omega⟩
