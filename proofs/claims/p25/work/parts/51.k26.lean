-- by program (wip/gen/mkz.py)
-- SpoutNewsModel.readPlan()I
theorem k_M_readPlan_l2 {T : zyT} (hE : zyE T) {g0 : zi_M} {K17 K37 : zi_M → Prop} {K46 : Int → zi_M → Prop} {Q : Int → zi_M → Prop}
    (h17 : ∀ g : zi_M, zk_I g → zk_fr fr_M_readPlan g0 g → (∀ i : Int, i < 64 → g 234 i = g0 234 i) → zyR 1000000004 T g (zyPP T 16) → zyPi T (g0 214 6) (g0 214 7) 16 0 → zyPg T (g0 214 6) (g0 214 7) 16 (zyPP T 16) 0 = 3 → K17 g)
    (hF : ∀ (g : zi_M) (n o : Int), zk_I g → zk_fr fr_M_readPlan g0 g → (∀ i : Int, i < 64 → g 234 i = g0 234 i) → zyPi T (g0 214 6) (g0 214 7) n o → ¬ zyPg T (g0 214 6) (g0 214 7) n (zyPP T n) o = -1 → zyG T g (zyPg T (g0 214 6) (g0 214 7) n (zyPP T n) o) (zyPP T n + o) → K37 g)
    (hN : ∀ (n : Int) (g : zi_M), zk_I g → zk_fr fr_M_readPlan g0 g → (∀ i : Int, i < 64 → g 234 i = g0 234 i) → 0 ≤ n → n ≤ 16 → zd g n → zyR 1000000004 T g (zyPP T n) → zyPr T g n → (∀ m : Int, 0 ≤ m → m < n → ∀ k : Int, 0 ≤ k → k < zyPl (T.2.1 (zyPP T m + 2)) → zyPg T (g0 214 6) (g0 214 7) m (zyPP T m) k = 0) → ¬ (T.1 (zyPP T n) = 2 ∧ T.2.1 (zyPP T n) = 7) → K46 n g) :
    ∀ (m : Nat) (l1 : Int) (g : zi_M), zk_I g → zk_fr fr_M_readPlan g0 g → (∀ i : Int, i < 64 → g 234 i = g0 234 i) → (g 214 14 ≤ g 214 13 ∧ g 214 15 ≤ g 214 14 ∧ zt3 g) → (0 ≤ l1 ∧ l1 ≤ 16) → zd g l1 → zyR 1000000004 T g (zyPP T l1) → zyPr T g l1 → (∀ m : Int, 0 ≤ m → m < l1 → ∀ k : Int, 0 ≤ k → k < zyPl (T.2.1 (zyPP T m + 2)) → zyPg T (g0 214 6) (g0 214 7) m (zyPP T m) k = 0) → 16 - l1 < (m : Int) → w_M_readPlan_l2 K17 K37 K46 Q m l1 g
  | 0, l1, g, I, F, hk, hq, hl, hd, hc, hw, hz, hm => by exfalso; omega
  | m + 1, l1, g, I, F, hk, hq, hl, hd, hc, hw, hz, hm => by
    have hr : zs_str 1000000004 := rfl
    have z4 := zyk4
    have e6 : g 214 6 = g0 214 6 := F 214 6 (by unfold fr_M_readPlan; omega)
    have e7 : g 214 7 = g0 214 7 := F 214 7 (by unfold fr_M_readPlan; omega)
    unfold w_M_readPlan_l2
    refine k_M_isWord I ⟨by decide, by decide⟩ (fun v1 a1 a2 a3 => ⟨fun e => ?_, fun ne => ⟨⟨by omega, by omega⟩, fun n16 => ?_, fun e16 => ?_⟩⟩)
    · exact hN l1 g I F hk hl.1 hl.2 hd hc hw hz (fun q => by
        have k := (zyR_w (w := 18) (j := 7) hr hc ⟨by decide, by omega⟩ z4.2.2.1.symm).2 q
        omega)
    · have k := (zyR_w (w := 18) (j := 7) hr hc ⟨by decide, by omega⟩ z4.2.2.1.symm).1 (by omega)
      have y0 : zyPg T (g0 214 6) (g0 214 7) l1 (zyPP T l1) 0 = 0 := (zyPg_0 (by omega)).trans (zyL_0.2 ⟨k, by omega⟩)
      refine k_M_readDeed I ⟨by omega, by omega⟩ hq.1 hq.2.1 hq.2.2 (fun v5 g6 I6 F6 c1 c2 c3 c4 c5 c6 c7 x => ⟨⟨by omega, by omega⟩, fun ne => ?_, fun e => ?_⟩)
      · have G6 := zk_ft F F6 (fun a i h => h)
        have u := x T l1 ⟨hc, hE, hl.1, k⟩
        rw [e6, e7] at u
        rcases u with u | ⟨-, u1, u2, u3, u4, u5, u6⟩
        · exact absurd u.1 ne
        · refine k_M_readPlan_l2 hE h17 hF hN m (l1 + 1) g6 I6 G6 (fun i hi => by rw [c7 i (by omega)]; exact hk i hi) ⟨c2, c3, c4⟩ ⟨by omega, by omega⟩ (zd_step hd (fun i hi => c7 i hi) (c6 ne)) (by rw [zyPP_s hl.1]; exact u2) (fun k k0 k1 => ?_) (zyPm_s hz y0 u1) (by omega)
          by_cases q : k = l1
          · rw [q]; exact ⟨u3, u4, u5, u6⟩
          · rw [c7 _ (by omega), c7 _ (by omega), c7 _ (by omega), c7 _ (by omega)]
            exact hw k k0 (by omega)
      · have G6 := zk_ft F F6 (fun a i h => h)
        have u := x T l1 ⟨hc, hE, hl.1, k⟩
        rw [e6, e7] at u
        rcases u with u | u
        · obtain ⟨o, w1, w2, w3⟩ := zyPi_f hl.1 hz y0 u.2
          exact hF g6 l1 o I6 G6 (fun i hi => by rw [c7 i (by omega)]; exact hk i hi) w1 w2 w3
        · exfalso; have := u.1; omega
    · have k := (zyR_w (w := 18) (j := 7) hr hc ⟨by decide, by omega⟩ z4.2.2.1.symm).1 (by omega)
      have y0 : zyPg T (g0 214 6) (g0 214 7) l1 (zyPP T l1) 0 = 3 := (zyPg_0 (by omega)).trans (zyL_3 k (by omega))
      rw [e16] at hc hz y0
      exact h17 g I F hk hc (zyPi_0 (by decide) hz (by rw [y0]; decide)) y0
theorem k_M_readPlan {g : zi_M} {Q : Int → zi_M → Prop} (I : zk_I g) (px0 : g 214 14 ≤ g 214 13) (px1 : g 214 15 ≤ g 214 14) (px2 : zt3 g) (px3 : zyR 1000000004 (zyM g) g 0 ∧ zyE (zyM g)) (hQ : ∀ (v : Int) (g' : zi_M), zk_I g' → zk_fr fr_M_readPlan g g' → ((-1) ≤ v ∧ v ≤ 16) → (¬ v = -1 → zd g' v) → (∀ i : Int, i < 64 → g' 234 i = g 234 i) → (zyPM (zyM g) (g 214 6) (g 214 7) g' v) → Q v g') : w_M_readPlan g Q := by
  unfold w_M_readPlan
  have hr : zs_str 1000000004 := rfl
  refine ⟨17, k_M_readPlan_l2 px3.2 (g0 := g) (fun g26 I26 F26 hk hc hi hy => ?_) (fun g' n o I' F' hk hi hn hf => ?_) (fun n g33 I33 F33 hk n0 n16 hd hc hw hz hno => ?_) 17 0 g I (zk_f0 _) (fun _ _ => rfl) ⟨px0, px1, px2⟩ ⟨by decide, by decide⟩ (zd_0 _) px3.1 (fun k k0 k1 => by exfalso; omega) (fun k k0 k1 => by exfalso; omega) (by omega)⟩
  · refine k_M_errs I26 ⟨by decide, by decide⟩ (fun v g' I' F' c d x => ?_)
    have y := x _ _ _ hc
    exact hQ v g' I' (zk_ft F26 F' (fun a i h => by unfold fr_M_errs at h; unfold fr_M_readPlan; omega)) ⟨by omega, by omega⟩ (fun q => by exfalso; omega) (fun i hi => by rw [F' 234 i (by unfold fr_M_errs; omega)]; exact hk i hi) ⟨16, 0, hi, fun q => by omega, fun _ => ⟨by omega, by rw [hy, Int.add_zero]; exact y⟩⟩
  · exact hQ (-1) g' I' F' ⟨by decide, by decide⟩ (fun q => absurd rfl q) hk ⟨n, o, hi, fun q => absurd q hn, fun _ => ⟨rfl, hf⟩⟩
  · have b16 : 0 ≤ g33 214 16 ∧ g33 214 16 ≤ 4 := I33.1 214 16
    refine ⟨⟨by omega, by omega⟩, fun ne => ?_, fun e => ?_⟩
    · have k4 : ¬ (zyM g).1 (zyPP (zyM g) n) = 4 := fun q => ne ((zyR_k hr hc).1.2 q)
      have y0 : zyPg (zyM g) (g 214 6) (g 214 7) n (zyPP (zyM g) n) 0 = 1 := (zyPg_0 k4).trans (zyL_1 hno)
      refine k_M_errs I33 ⟨by decide, by decide⟩ (fun v g' I' F' c d x => ?_)
      have y := x _ _ _ hc
      exact hQ v g' I' (zk_ft F33 F' (fun a i h => by unfold fr_M_errs at h; unfold fr_M_readPlan; omega)) ⟨by omega, by omega⟩ (fun q => by exfalso; omega) (fun i hi => by rw [F' 234 i (by unfold fr_M_errs; omega)]; exact hk i hi) ⟨n, 0, zyPi_0 n0 hz (by rw [y0]; decide), fun q => by omega, fun _ => ⟨by omega, by rw [y0, Int.add_zero]; exact y⟩⟩
    · have k4 : (zyM g).1 (zyPP (zyM g) n) = 4 := (zyR_k hr hc).1.1 e
      have y0 : zyPg (zyM g) (g 214 6) (g 214 7) n (zyPP (zyM g) n) 0 = -1 := zyPg_e k4
      exact hQ n g33 I33 F33 ⟨by omega, by omega⟩ (fun _ => hd) hk ⟨n, 0, zyPi_0 n0 hz (by rw [y0]; decide), fun _ => ⟨rfl, hw⟩, fun q => absurd y0 q⟩

-- SpoutNewsModel.readWeather()I
theorem k_M_readWeather_l2 {T : zyT} (hE : zyE T) {g0 : zi_M} {K17 K56 K97 : zi_M → Prop} {K106 : Int → zi_M → Prop} {Q : Int → zi_M → Prop}
    (h17 : ∀ g : zi_M, zk_I g → zk_fr fr_M_readWeather g0 g → (∀ i : Int, i < 32 → g 233 i = g0 233 i) → zyR 1000000003 T g (5 * 16) → zyI (zyW T) (5 * 16) → zyW T (5 * 16) = 3 → K17 g)
    (hF : ∀ (g : zi_M) (s : Int), zk_I g → zk_fr fr_M_readWeather g0 g → (∀ i : Int, i < 32 → g 233 i = g0 233 i) → zyI (zyW T) s → ¬ zyW T s = -1 → zyG T g (zyW T s) s → K56 g ∧ K97 g)
    (hN : ∀ (n : Int) (g : zi_M), zk_I g → zk_fr fr_M_readWeather g0 g → (∀ i : Int, i < 32 → g 233 i = g0 233 i) → 0 ≤ n → n ≤ 16 → zyR 1000000003 T g (5 * n) → zyWx T g n → (∀ i : Int, 0 ≤ i → i < 5 * n → zyW T i = 0) → ¬ (T.1 (5 * n) = 2 ∧ T.2.1 (5 * n) = 0) → K106 n g) :
    ∀ (m : Nat) (l1 : Int) (g : zi_M), zk_I g → zk_fr fr_M_readWeather g0 g → (∀ i : Int, i < 32 → g 233 i = g0 233 i) → (g 214 14 ≤ g 214 13 ∧ g 214 15 ≤ g 214 14 ∧ zt3 g) → (0 ≤ l1 ∧ l1 ≤ 16) → zyR 1000000003 T g (5 * l1) → zyWx T g l1 → (∀ i : Int, 0 ≤ i → i < 5 * l1 → zyW T i = 0) → 16 - l1 < (m : Int) → w_M_readWeather_l2 K17 K56 K97 K106 Q m l1 g
  | 0, l1, g, I, F, hk, hq, hl, hc, hw, hz, hm => by exfalso; omega
  | m + 1, l1, g, I, F, hk, hq, hl, hc, hw, hz, hm => by
    have hr : zs_str 1000000003 := rfl
    have z3 := zyk3
    have sub : ∀ a i, fr_M_readTold a i → fr_M_readWeather a i := fun a i h => by unfold fr_M_readTold at h; unfold fr_M_readWeather; omega
    have sub2 : ∀ a i, fr_M_readMark a i → fr_M_readWeather a i := fun a i h => by unfold fr_M_readMark at h; unfold fr_M_readWeather; omega
    have rt : ∀ {x y : zi_M}, zk_fr fr_M_readTold x y → y 233 = x 233 := fun {x y} G => funext (fun i => G 233 i (by unfold fr_M_readTold; omega))
    unfold w_M_readWeather_l2
    refine k_M_isWord I ⟨by decide, by decide⟩ (fun v1 a1 a2 a3 => ⟨fun e => ?_, fun ne => ⟨⟨by omega, by omega⟩, fun n16 => ?_, fun e16 => ?_⟩⟩)
    · exact hN l1 g I F hk hl.1 hl.2 hc hw hz (fun q => by
        have k := (zyR_w (w := 15) (j := 0) hr hc ⟨by decide, by omega⟩ z3.2.1.symm).2 q
        omega)
    · have k := (zyR_w (w := 15) (j := 0) hr hc ⟨by decide, by omega⟩ z3.2.1.symm).1 (by omega)
      have k4 : ¬ T.1 (5 * l1) = 4 := by omega
      have y0 : zyW T (5 * l1) = 0 := (zyW_0 k4).trans (zyL_0.2 ⟨k, by omega⟩)
      have hz1 := zyI_s hz y0
      refine k_M_readTold I ⟨by decide, by decide⟩ ⟨by decide, by decide⟩ ⟨by decide, by decide⟩ hq.1 hq.2.1 hq.2.2 (fun v5 g6 I6 F6 c1 c2 c3 c4 c5 c6 x => ⟨⟨by omega, by omega⟩, ?_⟩)
      have u := (x 1000000003 T _ 0 hr (by decide) (by omega) z3.2.1.symm hc hE).2 (zyK_0.2 k)
      rw [show (999 : Int) + 1 = 1000 from rfl, ← zyW_1] at u
      have G6 := zk_ft F F6 sub
      intro g9 e9
      have I9 : zk_I g9 := by rw [e9]; exact zk_upd (L := -2147483648) (H := 2147483647) rfl rfl I6 ⟨by omega, by omega⟩
      have G9 : zk_fr fr_M_readWeather g0 g9 := by rw [e9]; exact zk_fu G6 (Or.inl rfl)
      have v9 : g9 233 (32 + 2 * l1) = v5 := by rw [e9, zi_u_eq]
      have hk9 : ∀ i : Int, i < 32 → g9 233 i = g0 233 i := fun i hi => by rw [e9, zi_u_ni (by omega), rt F6]; exact hk i hi
      rw [v9]
      refine ⟨⟨by omega, by omega⟩, fun n5 => ?_, fun e5 => ?_⟩
      · have z1 : zyW T (5 * l1 + 1) = 0 := Classical.byContradiction (fun q => n5 (u.2.2 q))
        have R6 := u.1.1 z1
        have w5 := u.2.1 z1
        have hz2 := zyI_s hz1 z1
        have R9 := zyR_u R6 e9 ⟨by decide, by decide⟩
        have e9' : ∀ i : Int, g9 214 i = g6 214 i := fun i => by rw [e9]; exact zi_u_ne (by decide)
        refine k_M_readTold I9 ⟨by decide, by decide⟩ ⟨by decide, by decide⟩ ⟨by decide, by decide⟩ (by rw [e9', e9']; exact c3) (by rw [e9', e9']; exact c4) (zt3_e c5 (e9' _) (e9' _) (e9' _) (e9' _)) (fun v11 g12 I12 F12 d1 d2 d3 d4 d5 d6 x => ⟨⟨by omega, by omega⟩, ?_⟩)
        have u := x 1000000003 T _ 1 hr (by decide) (by omega) z3.2.2.symm R9 hE
        rw [← zyW_2, show (9 : Int) + 1 = 10 from rfl, ← zyW_3] at u
        have G12 := zk_ft G9 F12 sub
        intro g15 e15
        have I15 : zk_I g15 := by rw [e15]; exact zk_upd (L := -2147483648) (H := 2147483647) rfl rfl I12 ⟨by omega, by omega⟩
        have G15 : zk_fr fr_M_readWeather g0 g15 := by rw [e15]; exact zk_fu G12 (Or.inl rfl)
        have v15 : g15 233 (32 + 2 * l1 + 1) = v11 := by rw [e15, zi_u_eq]
        have hk15 : ∀ i : Int, i < 32 → g15 233 i = g0 233 i := fun i hi => by rw [e15, zi_u_ni (by omega), rt F12]; exact hk9 i hi
        have e15' : ∀ i : Int, g15 214 i = g12 214 i := fun i => by rw [e15]; exact zi_u_ne (by decide)
        rw [v15]
        refine ⟨⟨by omega, by omega⟩, fun e11 => ?_, fun n11 => ?_⟩
        · by_cases z2 : zyW T (5 * l1 + 1 + 1) = 0
          · have w := u.2 z2
            have hz3 := zyI_s hz2 z2
            have z3' : ¬ zyW T (5 * l1 + 1 + 1 + 1) = 0 := fun q => by
              have v := w.2.1 q
              have k := zyN_0.1 (zyW_3.symm.trans q)
              have := hE.2.2.2 (5 * l1 + 1 + 1 + 1) (by omega) (by have := (w.1.1 q).2.1.2; omega) k.1
              omega
            have f := w.1.2 z3'
            exact (hF g15 _ I15 G15 hk15 ⟨by omega, hz3, z3'⟩ (by rw [zyW_3]; exact zyN_ne) ⟨by rw [e15']; exact f.1, by rw [e15']; exact f.2⟩).2
          · have f := (u.1 z2).2
            exact (hF g15 _ I15 G15 hk15 ⟨by omega, hz2, z2⟩ (by rw [zyW_2]; exact zyK_ne) ⟨by rw [e15']; exact f.1, by rw [e15']; exact f.2⟩).2
        · have z2 : zyW T (5 * l1 + 1 + 1) = 0 := Classical.byContradiction (fun q => n11 (u.1 q).1)
          have w := u.2 z2
          have hz3 := zyI_s hz2 z2
          have z3' : zyW T (5 * l1 + 1 + 1 + 1) = 0 := Classical.byContradiction (fun q => n11 (w.2.2 q))
          have R12 := w.1.1 z3'
          have w11 := w.2.1 z3'
          have hz4 := zyI_s hz3 z3'
          have R15 := zyR_u R12 e15 ⟨by decide, by decide⟩
          refine k_M_readMark I15 ⟨by decide, by decide⟩ (by rw [e15', e15']; exact d3) (by rw [e15', e15']; exact d4) (zt3_e d5 (e15' _) (e15' _) (e15' _) (e15' _)) (fun v17 g18 I18 F18 f1 f2 f3 f4 f5 x => ⟨⟨by omega, by omega⟩, fun n17 => ?_, fun e17 => ?_⟩)
          · have u := x 1000000003 T _ hr R15 hE
            rw [← zyW_4] at u
            have z4 : zyW T (5 * l1 + 1 + 1 + 1 + 1) = 0 := Classical.byContradiction (fun q => n17 (u.2.2 q))
            have R18 := u.1.1 z4
            have hz5 := zyI_s hz4 z4
            have r18 : g18 233 = g15 233 := funext (fun i => F18 233 i (by unfold fr_M_readMark; omega))
            refine k_M_readWeather_l2 hE h17 hF hN m (l1 + 1) g18 I18 (zk_ft G15 F18 sub2) (fun i hi => by rw [r18]; exact hk15 i hi) ⟨f2, f3, f4⟩ ⟨by omega, by omega⟩ ?_ (zyWx_s hw (rt F6) e9 (rt F12) e15 r18 w5 w11) ?_ (by omega)
            · rw [show 5 * (l1 + 1) = 5 * l1 + 1 + 1 + 1 + 1 + 1 by omega]; exact R18
            · rw [show 5 * (l1 + 1) = 5 * l1 + 1 + 1 + 1 + 1 + 1 by omega]; exact hz5
          · have u := x 1000000003 T _ hr R15 hE
            rw [← zyW_4] at u
            have z4 : ¬ zyW T (5 * l1 + 1 + 1 + 1 + 1) = 0 := fun q => by have := u.2.1 q; omega
            have r18 : g18 233 = g15 233 := funext (fun i => F18 233 i (by unfold fr_M_readMark; omega))
            exact (hF g18 _ I18 (zk_ft G15 F18 sub2) (fun i hi => by rw [r18]; exact hk15 i hi) ⟨by omega, hz4, z4⟩ (by rw [zyW_4]; exact zyK_ne) (u.1.2 z4)).2
      · have z1 : ¬ zyW T (5 * l1 + 1) = 0 := fun q => by
          have v := u.2.1 q
          have k := zyN_0.1 (zyW_1.symm.trans q)
          have := hE.2.2.2 (5 * l1 + 1) (by omega) (by have := (u.1.1 q).2.1.2; omega) k.1
          omega
        have f := u.1.2 z1
        have e9' : ∀ i : Int, g9 214 i = g6 214 i := fun i => by rw [e9]; exact zi_u_ne (by decide)
        exact (hF g9 _ I9 G9 hk9 ⟨by omega, hz1, z1⟩ (by rw [zyW_1]; exact zyN_ne) ⟨by rw [e9']; exact f.1, by rw [e9']; exact f.2⟩).1
    · have k := (zyR_w (w := 15) (j := 0) hr hc ⟨by decide, by omega⟩ z3.2.1.symm).1 (by omega)
      have k4 : ¬ T.1 (5 * l1) = 4 := by omega
      have y0 : zyW T (5 * l1) = 3 := (zyW_0 k4).trans (zyL_3 k (by omega))
      rw [e16] at hc hz y0
      exact h17 g I F hk hc ⟨by decide, hz, by rw [y0]; decide⟩ y0
theorem k_M_readWeather {g : zi_M} {Q : Int → zi_M → Prop} (I : zk_I g) (px0 : g 214 14 ≤ g 214 13) (px1 : g 214 15 ≤ g 214 14) (px2 : zt3 g) (px3 : zyR 1000000003 (zyM g) g 0 ∧ zyE (zyM g)) (hQ : ∀ (v : Int) (g' : zi_M), zk_I g' → zk_fr fr_M_readWeather g g' → ((-1) ≤ v ∧ v ≤ 16) → (∀ i : Int, i < 32 → g' 233 i = g 233 i) → (zyWm (zyM g) g' v) → Q v g') : w_M_readWeather g Q := by
  unfold w_M_readWeather
  have hr : zs_str 1000000003 := rfl
  refine ⟨17, k_M_readWeather_l2 px3.2 (g0 := g) (fun g26 I26 F26 hk hc hi hy => ?_) (fun g' s I' F' hk hs hn hf => ?_) (fun n g33 I33 F33 hk n0 n16 hc hw hz hno => ?_) 17 0 g I (zk_f0 _) (fun _ _ => rfl) ⟨px0, px1, px2⟩ ⟨by decide, by decide⟩ (by rw [Int.mul_zero]; exact px3.1) (fun k k0 k1 => by exfalso; omega) (fun i i0 i1 => by exfalso; omega) (by omega)⟩
  · refine k_M_errs I26 ⟨by decide, by decide⟩ (fun v g' I' F' c d x => ?_)
    have y := x _ _ _ hc
    exact hQ v g' I' (zk_ft F26 F' (fun a i h => by unfold fr_M_errs at h; unfold fr_M_readWeather; omega)) ⟨by omega, by omega⟩ (fun i hi => by rw [F' 233 i (by unfold fr_M_errs; omega)]; exact hk i hi) ⟨_, hi, fun q => by omega, fun _ => ⟨by omega, by rw [hy]; exact y⟩⟩
  · have r := hQ (-1) g' I' F' ⟨by decide, by decide⟩ hk ⟨s, hs, fun q => absurd q hn, fun _ => ⟨rfl, hf⟩⟩
    exact ⟨r, r⟩
  · have b16 : 0 ≤ g33 214 16 ∧ g33 214 16 ≤ 4 := I33.1 214 16
    refine ⟨⟨by omega, by omega⟩, fun ne => ?_, fun e => ?_⟩
    · have k4 : ¬ (zyM g).1 (5 * n) = 4 := fun q => ne ((zyR_k hr hc).1.2 q)
      have y0 := (zyW_0 k4).trans (zyL_1 hno)
      refine k_M_errs I33 ⟨by decide, by decide⟩ (fun v g' I' F' c d x => ?_)
      have y := x _ _ _ hc
      exact hQ v g' I' (zk_ft F33 F' (fun a i h => by unfold fr_M_errs at h; unfold fr_M_readWeather; omega)) ⟨by omega, by omega⟩ (fun i hi => by rw [F' 233 i (by unfold fr_M_errs; omega)]; exact hk i hi) ⟨_, ⟨by omega, hz, by rw [y0]; decide⟩, fun q => by omega, fun _ => ⟨by omega, by rw [y0]; exact y⟩⟩
    · have k4 : (zyM g).1 (5 * n) = 4 := (zyR_k hr hc).1.1 e
      have y0 := zyW_e k4
      exact hQ n g33 I33 F33 ⟨by omega, by omega⟩ hk ⟨_, ⟨by omega, hz, by rw [y0]; decide⟩, fun _ => ⟨rfl, hw⟩, fun q => absurd y0 q⟩

-- SpoutNewsModel.readGutter()I
theorem k_M_readGutter {g : zi_M} {Q : Int → zi_M → Prop} (I : zk_I g) (px0 : g 214 14 ≤ g 214 13) (px1 : g 214 15 ≤ g 214 14) (px2 : zt3 g) (hQ : ∀ (v : Int) (g' : zi_M), zk_I g' → zk_fr fr_M_readGutter g g' → ((-1) ≤ v ∧ v ≤ 0) → (g' 214 14 ≤ g' 214 13) → (g' 214 15 ≤ g' 214 14) → (zt3 g') → (g 214 15 ≤ g' 214 15) → (∀ i : Int, i < 10 → g' 232 i = g 232 i) → (∀ (T : zyT) (n : Int), zyHp T g n → zyHl T (g 214 6) g g' n v) → Q v g') : w_M_readGutter g Q := by
  have hr : zs_str 1000000002 := rfl
  have z2 := zyk2
  have bsp : 0 ≤ g 214 6 ∧ g 214 6 ≤ 10 := I.1 214 6
  have er : ∀ (x : zi_M) (e : Int), zk_I x → zk_fr fr_M_readGutter g x → x 232 = g 232 → (x 214 14 ≤ x 214 13 ∧ x 214 15 ≤ x 214 14 ∧ zt3 x ∧ g 214 15 ≤ x 214 15) → 1 ≤ e → e ≤ 3 → (∀ (T : zyT) (n : Int), zyHp T g n → ∃ s : Int, zyR 1000000002 T x s ∧ (5 * n + 1 ≤ s ∧ s ≤ 5 * n + 4) ∧ (∀ i : Int, 5 * n + 1 ≤ i → i < s → zyH T (g 214 6) i = 0) ∧ zyH T (g 214 6) s = e) → w_M_errs e x (fun v g' => Q v g') := by
    intro x e Ix Fx rx tx e1 e3 hs
    refine k_M_errs Ix ⟨e1, e3⟩ (fun v g' I' F' c d y => ?_)
    have k13 : g' 214 13 = x 214 13 := F' 214 13 (by unfold fr_M_errs; omega)
    have k14 : g' 214 14 = x 214 14 := F' 214 14 (by unfold fr_M_errs; omega)
    have k15 : g' 214 15 = x 214 15 := F' 214 15 (by unfold fr_M_errs; omega)
    refine hQ v g' I' (zk_ft Fx F' (fun a i h => by unfold fr_M_errs at h; unfold fr_M_readGutter; omega)) ⟨by omega, by omega⟩ (by omega) (by omega) (d tx.2.2.1) (by omega) (fun i _ => by rw [F' 232 i (by unfold fr_M_errs; omega), rx]) (fun T n hp => Or.inl ⟨by omega, ?_⟩)
    obtain ⟨s, s1, s2, s3, s4⟩ := hs T n hp
    exact ⟨s, s2, s3, by rw [s4]; omega, by rw [s4]; exact y _ _ _ s1⟩
  have b62 : ∀ (l1 : Int) (x : zi_M), zk_I x → zk_fr fr_M_readGutter g x → (x 214 14 ≤ x 214 13 ∧ x 214 15 ≤ x 214 14 ∧ zt3 x ∧ g 214 15 ≤ x 214 15) → (0 ≤ l1 ∧ l1 ≤ 9) → x 214 6 = g 214 6 → x 232 = g 232 → (∀ (T : zyT) (n : Int), zyHp T g n → l1 = T.2.1 (5 * n + 1) ∧ zyR 1000000002 T x (5 * n + 1 + 1 + 1) ∧ (∀ i : Int, 5 * n + 1 ≤ i → i < 5 * n + 1 + 1 + 1 → zyH T (g 214 6) i = 0) ∧ zyH T (g 214 6) (5 * n + 1 + 1 + 1) = zyN T (g 214 6) (5 * n + 1 + 1 + 1)) → w_M_readGutter_b62 l1 x Q := by
    intro l1 x Ix Fx tx hl e6 e232 hp
    unfold w_M_readGutter_b62
    refine k_M_readNumber Ix ⟨by omega, by omega⟩ ⟨by omega, by omega⟩ tx.1 tx.2.1 tx.2.2.1 (fun v12 g13 I13 F13 c1 c2 c3 c4 c5 c6 y => ⟨⟨by omega, by omega⟩, fun ne => ⟨⟨by omega, by omega⟩, ?_⟩, fun e => ?_⟩)
    · have G13 := zk_ft Fx F13 (fun a i h => by unfold fr_M_readNumber at h; unfold fr_M_readGutter; omega)
      have r13 : g13 232 = g 232 := by rw [← e232]; exact funext (fun i => F13 232 i (by unfold fr_M_readNumber; omega))
      intro g17 e17
      have I17 : zk_I g17 := by rw [e17]; exact zk_upd (L := 0) (H := 10) rfl rfl I13 ⟨by omega, by omega⟩
      have G17 : zk_fr fr_M_readGutter g g17 := by rw [e17]; exact zk_fu G13 (Or.inl rfl)
      have e17' : ∀ i : Int, g17 214 i = g13 214 i := fun i => by rw [e17]; exact zi_u_ne (by decide)
      have q15 := e17' 15
      refine k_M_readMark I17 ⟨by decide, by decide⟩ (by rw [e17', e17']; exact c3) (by rw [e17', e17']; exact c4) (zt3_e c5 (e17' _) (e17' _) (e17' _) (e17' _)) (fun v18 g19 I19 F19 d1 d2 d3 d4 d5 w => ?_)
      refine hQ v18 g19 I19 (zk_ft G17 F19 (fun a i h => by unfold fr_M_readMark at h; unfold fr_M_readGutter; omega)) d1 d2 d3 d4 (by omega) (fun i hi => by rw [F19 232 i (by unfold fr_M_readMark; omega), e17, zi_u_ni (by omega), r13]) (fun T n h => ?_)
      obtain ⟨h1, h2, h3, h4⟩ := hp T n h
      have hE := h.2.1
      have u := y 1000000002 T _ hr h2 hE
      rw [e6, show g 214 6 - 1 + 1 = g 214 6 by omega, ← h4] at u
      have y3 : zyH T (g 214 6) (5 * n + 1 + 1 + 1) = 0 := Classical.byContradiction (fun q => ne (u.2.2 q))
      have R13 := u.1.1 y3
      have w12 := u.2.1 y3
      have u2 := w 1000000002 T _ hr (zyR_u R13 e17 ⟨by decide, by decide⟩) hE
      rw [← zyH_4 (sp := g 214 6)] at u2
      have hz := zyZ_s h3 y3
      have r19 : g19 232 = g17 232 := funext (fun i => F19 232 i (by unfold fr_M_readMark; omega))
      by_cases z4 : zyH T (g 214 6) (5 * n + 1 + 1 + 1 + 1) = 0
      · refine Or.inr ⟨u2.2.1 z4, ?_, ?_, fun k k0 k1 => ⟨fun q => ?_, fun q => ?_⟩⟩
        · rw [show 5 * n + 5 = 5 * n + 1 + 1 + 1 + 1 + 1 by omega]; exact zyZ_s hz z4
        · rw [show 5 * n + 5 = 5 * n + 1 + 1 + 1 + 1 + 1 by omega]; exact u2.1.1 z4
        · rw [r19, e17, show 10 + k = 10 + l1 by omega, zi_u_eq, w12]
        · rw [r19, e17, zi_u_ni (by omega), r13]
      · exact Or.inl ⟨u2.2.2 z4, _, ⟨by omega, by omega⟩, hz, z4, u2.1.2 z4⟩
    · refine hQ (-1) g13 I13 (zk_ft Fx F13 (fun a i h => by unfold fr_M_readNumber at h; unfold fr_M_readGutter; omega)) ⟨by decide, by decide⟩ c3 c4 c5 (by omega) (fun i _ => by rw [F13 232 i (by unfold fr_M_readNumber; omega), e232]) (fun T n h => ?_)
      obtain ⟨h1, h2, h3, h4⟩ := hp T n h
      have hE := h.2.1
      have u := y 1000000002 T _ hr h2 hE
      rw [e6, show g 214 6 - 1 + 1 = g 214 6 by omega, ← h4] at u
      have y3 : ¬ zyH T (g 214 6) (5 * n + 1 + 1 + 1) = 0 := fun q => by
        have v := u.2.1 q
        have k := zyN_0.1 (h4.symm.trans q)
        have := hE.2.2.2 _ h2.2.1.1 h2.2.1.2 k.1
        omega
      exact Or.inl ⟨rfl, _, ⟨by omega, by omega⟩, h3, y3, u.1.2 y3⟩
  unfold w_M_readGutter
  refine k_M_readTold I ⟨by decide, by decide⟩ ⟨by decide, by decide⟩ ⟨by omega, by omega⟩ px0 px1 px2 (fun v1 g2 I2 F2 c1 c2 c3 c4 c5 c6 y => ⟨⟨by omega, by omega⟩, fun ne => ?_, fun e => ?_⟩)
  · have G2 : zk_fr fr_M_readGutter g g2 := zk_ft (zk_f0 _) F2 (fun a i h => by unfold fr_M_readTold at h; unfold fr_M_readGutter; omega)
    have L2 : ∀ (T : zyT) (n : Int), zyHp T g n → v1 = T.2.1 (5 * n + 1) ∧ zyR 1000000002 T g2 (5 * n + 1 + 1) ∧ (∀ i : Int, 5 * n + 1 ≤ i → i < 5 * n + 1 + 1 → zyH T (g 214 6) i = 0) := by
      intro T n h
      have u := (y 1000000002 T _ 0 hr (by decide) (by omega) z2.2.1.symm h.1 h.2.1).2 h.2.2.1
      rw [show g 214 6 - 1 + 1 = g 214 6 by omega, ← zyH_1] at u
      have z1 : zyH T (g 214 6) (5 * n + 1) = 0 := Classical.byContradiction (fun q => ne (u.2.2 q))
      exact ⟨u.2.1 z1, u.1.1 z1, zyZ_s zyZ_0 z1⟩
    refine k_M_isWord I2 ⟨by decide, by decide⟩ (fun v5 a1 a2 a3 => ⟨fun n5 => ?_, fun e5 => ?_⟩)
    · have b16 : 0 ≤ g2 214 16 ∧ g2 214 16 ≤ 4 := I2.1 214 16
      have w2 : g2 214 16 = 2 ∧ g2 214 17 = 17 := by omega
      refine k_M_reads I2 c3 (fun g9 I9 F9 d1 d2 d3 d4 d5 => ?_)
      have k13 : g9 214 13 = g2 214 13 := F9 214 13 (by unfold fr_M_reads; omega)
      have r16 : 0 ≤ g9 214 16 ∧ g9 214 16 ≤ 4 := I9.1 214 16
      have r17 : -1 ≤ g9 214 17 ∧ g9 214 17 ≤ 100000 := I9.1 214 17
      have G9 := zk_ft G2 F9 (fun a i h => by unfold fr_M_reads at h; unfold fr_M_readGutter; omega)
      have q6 : g9 214 6 = g 214 6 := by rw [F9 214 6 (by unfold fr_M_reads; omega), F2 214 6 (by unfold fr_M_readTold; omega)]
      have q232 : g9 232 = g 232 := funext (fun i => by rw [F9 232 i (by unfold fr_M_reads; omega), F2 232 i (by unfold fr_M_readTold; omega)])
      have tx : g9 214 14 ≤ g9 214 13 ∧ g9 214 15 ≤ g9 214 14 ∧ zt3 g9 ∧ g 214 15 ≤ g9 214 15 := ⟨by omega, by omega, d4, by omega⟩
      have L9 : ∀ (T : zyT) (n : Int), zyHp T g n → v1 = T.2.1 (5 * n + 1) ∧ zyR 1000000002 T g9 (5 * n + 1 + 1 + 1) ∧ (∀ i : Int, 5 * n + 1 ≤ i → i < 5 * n + 1 + 1 + 1 → zyH T (g 214 6) i = 0) := by
        intro T n h
        obtain ⟨h1, h2, h3⟩ := L2 T n h
        have k := (zyR_w (w := 17) (j := 1) hr h2 ⟨by decide, by omega⟩ z2.2.2.symm).1 w2
        have zz : zyH T (g 214 6) (5 * n + 1 + 1) = 0 := zyH_2.trans (zyK_0.2 k)
        exact ⟨h1, zyR_n h2 F9 d5 (zyE_lt h.2.1 h2.2.1.2 (by omega)), zyZ_s h3 zz⟩
      have nb : ¬ (g9 214 16 = 3 ∧ g9 214 17 = v1) → w_M_readGutter_b62 v1 g9 Q := fun no => b62 v1 g9 I9 G9 tx ⟨by omega, by omega⟩ q6 q232 (fun T n h => by
        obtain ⟨h1, h2, h3⟩ := L9 T n h
        refine ⟨h1, h2, h3, zyH_3n (fun q => no ?_)⟩
        have e3 := (zyR_k hr h2).2.1.2 q.1
        have ev := (zyR_k hr h2).2.2.2.1 (Or.inl e3)
        exact ⟨e3, by omega⟩)
      refine ⟨⟨by omega, by omega⟩, fun n3 => nb (fun q => n3 q.1), fun e3 => ⟨⟨by omega, by omega⟩, fun n17 => nb (fun q => n17 q.2), fun e17 => ?_⟩⟩
      refine er g9 2 I9 G9 q232 tx (by decide) (by decide) (fun T n h => ?_)
      obtain ⟨h1, h2, h3⟩ := L9 T n h
      have k1 := (zyR_k hr h2).2.1.1 e3
      have ev := (zyR_k hr h2).2.2.2.1 (Or.inl e3)
      exact ⟨_, h2, ⟨by omega, by omega⟩, h3, zyH_3s ⟨k1, by omega⟩⟩
    · refine er g2 1 I2 G2 (funext (fun i => F2 232 i (by unfold fr_M_readTold; omega))) ⟨c3, c4, c5, c6⟩ (by decide) (by decide) (fun T n h => ?_)
      obtain ⟨h1, h2, h3⟩ := L2 T n h
      refine ⟨_, h2, ⟨by omega, by omega⟩, h3, zyH_2.trans (zyK_1 (fun q => ?_))⟩
      have k := (zyR_w (w := 17) (j := 1) hr h2 ⟨by decide, by omega⟩ z2.2.2.symm).2 q
      omega
  · refine hQ (-1) g2 I2 (zk_ft (zk_f0 _) F2 (fun a i h => by unfold fr_M_readTold at h; unfold fr_M_readGutter; omega)) ⟨by decide, by decide⟩ c3 c4 c5 c6 (fun i _ => F2 232 i (by unfold fr_M_readTold; omega)) (fun T n h => ?_)
    have u := (y 1000000002 T _ 0 hr (by decide) (by omega) z2.2.1.symm h.1 h.2.1).2 h.2.2.1
    rw [show g 214 6 - 1 + 1 = g 214 6 by omega, ← zyH_1] at u
    have z1 : ¬ zyH T (g 214 6) (5 * n + 1) = 0 := fun q => by
      have v := u.2.1 q
      have k := zyN_0.1 (zyH_1.symm.trans q)
      have := h.2.1.2.2.2 (5 * n + 1) (by have := h.2.2.2; omega) (by have := (u.1.1 q).2.1.2; omega) k.1
      omega
    exact Or.inl ⟨rfl, _, ⟨by omega, by omega⟩, zyZ_0, z1, u.1.2 z1⟩

