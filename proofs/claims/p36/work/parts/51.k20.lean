-- by program (wip/gen/mkz.py)
-- SpoutNews$Told.longestRunBegins()I
set_option maxRecDepth 100000 in
set_option maxHeartbeats 4000000 in
theorem k_Told_longestRunBegins_b35 {l1 : Int} {l2 : Int} {l4 : Int} {s0 : Int} {H : Int → Int → Int → Int → zi_M → Prop} {K56 : Int → zi_M → Prop} {Q : Int → zi_M → Prop} {g : zi_M} (I : zk_I g) (p1 : 0 ≤ l1 ∧ l1 ≤ 40) (p2 : (-1) ≤ l2 ∧ l2 ≤ 39) (p4 : 0 ≤ l4 ∧ l4 ≤ 39) (ix0 : 0 ≤ s0 ∧ s0 ≤ l4 + 1) (ix1 : l1 ≤ l4) (ix2 : l4 < g 36 10) (ix3 : l1 = zmost (g 44) l4.toNat) (ix4 : l2 = zbeg (g 44) l4.toNat) (ix5 : s0 = zrun (g 44) (l4 + 1).toNat) (ps0 : 0 ≤ s0 ∧ s0 ≤ 41) (M : Int) (hM : 40 - l4 ≤ M) (hH : ∀ (m1 : Int) (m2 : Int) (m3 : Int) (m4 : Int), (0 ≤ m1 ∧ m1 ≤ 40) → ((-1) ≤ m2 ∧ m2 ≤ 39) → (0 ≤ m3 ∧ m3 ≤ 40) → (0 ≤ m4 ∧ m4 ≤ 40) → (m3 ≤ m4) → (m1 ≤ m4) → (m4 ≤ g 36 10) → (m1 = zmost (g 44) m4.toNat) → (m2 = zbeg (g 44) m4.toNat) → (m3 = zrun (g 44) m4.toNat) → 40 - m4 < M → H m1 m2 m3 m4 g) (hK56 : ∀ (k2 : Int), ((-1) ≤ k2 ∧ k2 ≤ 39) → (k2 = zbeg (g 44) (g 36 10).toNat) → K56 k2 g) (hQ : ∀ v : Int, ((-1) ≤ v ∧ v ≤ 39) → (v = zbeg (g 44) (g 36 10).toNat) → Q v g) : w_Told_longestRunBegins_b35 l1 l2 l4 s0 g H K56 Q := by
  unfold w_Told_longestRunBegins_b35
  refine ⟨⟨by omega, by omega⟩, ⟨by omega, by omega⟩, ?_⟩
  refine ⟨fun c7 => ?_, fun c7 => ?_⟩
  · have m_3 : 0 ≤ (g 36 10) ∧ (g 36 10) ≤ 40 := I.1 36 10
    exact hH _ _ _ _ ⟨by omega, by omega⟩ ⟨by omega, by omega⟩ ⟨by omega, by omega⟩ ⟨by omega, by omega⟩ (by omega) (by omega) (by omega) (by first | rfl | assumption | exact zmost_s (by omega) (by assumption) (by assumption) (by omega) | exact zmost_u (by omega) (by assumption) (by assumption) (by omega)) (by first | rfl | assumption | exact zbeg_s (by omega) (by assumption) (by assumption) (by assumption) (by omega) | exact zbeg_u (by omega) (by assumption) (by assumption) (by omega)) (by first | rfl | assumption) (by omega)
  · have m_4 : 0 ≤ (g 36 10) ∧ (g 36 10) ≤ 40 := I.1 36 10
    exact hH _ _ _ _ ⟨by omega, by omega⟩ ⟨by omega, by omega⟩ ⟨by omega, by omega⟩ ⟨by omega, by omega⟩ (by omega) (by omega) (by omega) (by first | rfl | assumption | exact zmost_s (by omega) (by assumption) (by assumption) (by omega) | exact zmost_u (by omega) (by assumption) (by assumption) (by omega)) (by first | rfl | assumption | exact zbeg_s (by omega) (by assumption) (by assumption) (by assumption) (by omega) | exact zbeg_u (by omega) (by assumption) (by assumption) (by omega)) (by first | rfl | assumption) (by omega)
set_option maxRecDepth 100000 in
set_option maxHeartbeats 4000000 in
theorem k_Told_longestRunBegins_l9 {g : zi_M} (I : zk_I g) {K56 : Int → zi_M → Prop} {Q : Int → zi_M → Prop} (hK56 : ∀ (k2 : Int), ((-1) ≤ k2 ∧ k2 ≤ 39) → (k2 = zbeg (g 44) (g 36 10).toNat) → K56 k2 g) (hQ : ∀ v : Int, ((-1) ≤ v ∧ v ≤ 39) → (v = zbeg (g 44) (g 36 10).toNat) → Q v g) : ∀ (n : Nat) {l1 : Int} {l2 : Int} {l3 : Int} {l4 : Int}, (0 ≤ l1 ∧ l1 ≤ 40) → ((-1) ≤ l2 ∧ l2 ≤ 39) → (0 ≤ l3 ∧ l3 ≤ 40) → (0 ≤ l4 ∧ l4 ≤ 40) → (l3 ≤ l4) → (l1 ≤ l4) → (l4 ≤ g 36 10) → (l1 = zmost (g 44) l4.toNat) → (l2 = zbeg (g 44) l4.toNat) → (l3 = zrun (g 44) l4.toNat) → 40 - l4 < (n : Int) → w_Told_longestRunBegins_l9 K56 Q n l1 l2 l3 l4 g
  | 0, l1, l2, l3, l4, b0, b1, b2, b3, b4, b5, b6, b7, b8, b9, hm => by exfalso; omega
  | n + 1, l1, l2, l3, l4, b0, b1, b2, b3, b4, b5, b6, b7, b8, b9, hm => by
    unfold w_Told_longestRunBegins_l9
    have m_1 : 0 ≤ (g 36 10) ∧ (g 36 10) ≤ 40 := I.1 36 10
    refine ⟨⟨by omega, by omega⟩, ⟨by omega, by omega⟩, ?_⟩
    refine ⟨fun c9 => ?_, fun c9 => ?_⟩
    · exact hK56 _ ⟨by omega, by omega⟩ (by rw [show g 36 10 = l4 by omega]; assumption)
    · refine ⟨⟨by omega, by omega⟩, ?_⟩
      have m_2 : 0 ≤ (g 44 l4) ∧ (g 44 l4) ≤ 9 := I.1 44 l4
      refine ⟨⟨by omega, by omega⟩, ?_⟩
      refine ⟨fun c8 => ?_, fun c8 => ?_⟩
      · exact k_Told_longestRunBegins_b35 I ⟨by omega, by omega⟩ ⟨by omega, by omega⟩ ⟨by omega, by omega⟩ (by omega) (by omega) (by omega) (by assumption) (by assumption) (by first | exact zrun_z (by omega) (by assumption) (by omega) | exact zrun_n (by omega) (by omega)) ⟨by omega, by omega⟩ (n : Int) (by omega) (fun _ _ _ _ b0 b1 b2 b3 b4 b5 b6 b7 b8 b9 hm => k_Told_longestRunBegins_l9 I hK56 hQ n b0 b1 b2 b3 b4 b5 b6 b7 b8 b9 hm) hK56 hQ
      · exact k_Told_longestRunBegins_b35 I ⟨by omega, by omega⟩ ⟨by omega, by omega⟩ ⟨by omega, by omega⟩ (by omega) (by omega) (by omega) (by assumption) (by assumption) (by first | exact zrun_z (by omega) (by assumption) (by omega) | exact zrun_n (by omega) (by omega)) ⟨by omega, by omega⟩ (n : Int) (by omega) (fun _ _ _ _ b0 b1 b2 b3 b4 b5 b6 b7 b8 b9 hm => k_Told_longestRunBegins_l9 I hK56 hQ n b0 b1 b2 b3 b4 b5 b6 b7 b8 b9 hm) hK56 hQ
set_option maxRecDepth 100000 in
set_option maxHeartbeats 4000000 in
theorem k_Told_longestRunBegins {g : zi_M} {Q : Int → zi_M → Prop} (I : zk_I g) (hQ : ∀ v : Int, ((-1) ≤ v ∧ v ≤ 39) → (v = zbeg (g 44) (g 36 10).toNat) → Q v g) : w_Told_longestRunBegins g Q := by
  unfold w_Told_longestRunBegins
  have m_7 : 0 ≤ (g 36 10) ∧ (g 36 10) ≤ 40 := I.1 36 10
  refine ⟨((40 - 0 : Int).toNat + 1), k_Told_longestRunBegins_l9 I (fun k10 b_5 b_6 => ?_) hQ ((40 - 0 : Int).toNat + 1) ⟨by omega, by omega⟩ ⟨by omega, by omega⟩ ⟨by omega, by omega⟩ ⟨by omega, by omega⟩ (by omega) (by omega) (by omega) (by first | rfl | assumption | exact zmost_s (by omega) (by assumption) (by assumption) (by omega) | exact zmost_u (by omega) (by assumption) (by assumption) (by omega)) (by first | rfl | assumption | exact zbeg_s (by omega) (by assumption) (by assumption) (by assumption) (by omega) | exact zbeg_u (by omega) (by assumption) (by assumption) (by omega)) (by first | rfl | assumption) (by omega)⟩
  exact hQ _ ⟨by omega, by omega⟩ (by assumption)
-- SpoutNews$Told.longestRun()I
set_option maxRecDepth 100000 in
set_option maxHeartbeats 4000000 in
theorem k_Told_longestRun_l9 {g : zi_M} (I : zk_I g) {K39 : Int → zi_M → Prop} {Q : Int → zi_M → Prop} (hK39 : ∀ (k2 : Int), (0 ≤ k2 ∧ k2 ≤ 41) → (k2 = zmost (g 44) (g 36 10).toNat) → K39 k2 g) (hQ : ∀ v : Int, (0 ≤ v ∧ v ≤ 41) → (v = zmost (g 44) (g 36 10).toNat) → Q v g) : ∀ (n : Nat) {l2 : Int} {l3 : Int}, (0 ≤ l2 ∧ l2 ≤ 41) → ((-1) ≤ l3 ∧ l3 ≤ 40) → (l2 ≤ l3 + 1) → (zbeg (g 44) (g 36 10).toNat = -1 → l3 = -1 ∧ l2 = 0) → (0 ≤ zbeg (g 44) (g 36 10).toNat → l3 = zbeg (g 44) (g 36 10).toNat + l2) → (0 ≤ zbeg (g 44) (g 36 10).toNat → l2 ≤ zmost (g 44) (g 36 10).toNat) → 41 - l2 < (n : Int) → w_Told_longestRun_l9 K39 Q n l2 l3 g
  | 0, l2, l3, b0, b1, b2, b3, b4, b5, hm => by exfalso; omega
  | n + 1, l2, l3, b0, b1, b2, b3, b4, b5, hm => by
    unfold w_Told_longestRun_l9
    refine ⟨⟨by omega, by omega⟩, ?_⟩
    refine ⟨fun c10 => ?_, fun c10 => ?_⟩
    · have m_4 : 0 ≤ (g 36 10) ∧ (g 36 10) ≤ 40 := I.1 36 10
      exact hK39 _ ⟨by omega, by omega⟩ (by exact zlr_end rfl (by assumption) (by assumption) (by assumption) (by omega) (by omega))
    · have m_5 : 0 ≤ (g 36 10) ∧ (g 36 10) ≤ 40 := I.1 36 10
      refine ⟨⟨by omega, by omega⟩, ?_⟩
      refine ⟨fun c9 => ?_, fun c9 => ?_⟩
      · exact hK39 _ ⟨by omega, by omega⟩ (by exact zlr_end rfl (by assumption) (by assumption) (by assumption) (by omega) (by omega))
      · refine ⟨⟨by omega, by omega⟩, ?_⟩
        have m_6 : 0 ≤ (g 44 l3) ∧ (g 44 l3) ≤ 9 := I.1 44 l3
        refine ⟨⟨by omega, by omega⟩, ?_⟩
        refine ⟨fun c8 => ?_, fun c8 => ?_⟩
        · exact hK39 _ ⟨by omega, by omega⟩ (by exact zlr_end rfl (by assumption) (by assumption) (by assumption) (by omega) (by omega))
        · exact k_Told_longestRun_l9 I hK39 hQ n ⟨by omega, by omega⟩ ⟨by omega, by omega⟩ (by omega) (by omega) (by omega) (by intro hv; first | exact zmost_0 | exact zlr_step (i := l3) rfl hv (by omega) (by omega) (by omega) (by omega)) (by omega)
set_option maxRecDepth 100000 in
set_option maxHeartbeats 4000000 in
theorem k_Told_longestRun {g : zi_M} {Q : Int → zi_M → Prop} (I : zk_I g) (hQ : ∀ v : Int, (0 ≤ v ∧ v ≤ 41) → (v = zmost (g 44) (g 36 10).toNat) → Q v g) : w_Told_longestRun g Q := by
  unfold w_Told_longestRun
  have m_1 : 0 ≤ (g 36 10) ∧ (g 36 10) ≤ 40 := I.1 36 10
  refine k_Told_longestRunBegins I (fun v1 b_2 b_3 => ?_)
  refine ⟨((41 - 0 : Int).toNat + 1), k_Told_longestRun_l9 I (fun k11 b_7 b_8 => ?_) hQ ((41 - 0 : Int).toNat + 1) ⟨by omega, by omega⟩ ⟨by omega, by omega⟩ (by omega) (by omega) (by omega) (by intro hv; first | exact zmost_0 | exact zlr_step (i := l3) rfl hv (by omega) (by omega) (by omega) (by omega)) (by omega)⟩
  exact hQ _ ⟨by omega, by omega⟩ (by assumption)
-- SpoutNews.longest(I)I
set_option maxRecDepth 100000 in
set_option maxHeartbeats 4000000 in
theorem k_S_longest {l1 : Int} {g : zi_M} {Q : Int → zi_M → Prop} (I : zk_I g) (p1 : (-2147483648) ≤ l1 ∧ l1 ≤ 2147483647) (hQ : ∀ v : Int, ((-1) ≤ v ∧ v ≤ 41) → (l1 = 0 → v = zmost (g 44) (g 36 10).toNat) → (l1 = 1 → v = zbeg (g 44) (g 36 10).toNat) → (¬ l1 = 0 → ¬ l1 = 1 → v = -1) → Q v g) : w_S_longest l1 g Q := by
  unfold w_S_longest
  refine ⟨⟨by omega, by omega⟩, ?_⟩
  refine ⟨fun c2_0 c2_1 => ?_, fun c2 => ?_, fun c2 => ?_⟩
  · exact hQ _ ⟨by omega, by omega⟩ (by intro hv; first | assumption | (exfalso; omega)) (by intro hv; first | assumption | (exfalso; omega)) (by omega)
  · have m_1 : 0 ≤ (g 36 10) ∧ (g 36 10) ≤ 40 := I.1 36 10
    refine k_Told_longestRun I (fun v3 b_2 b_3 => ?_)
    exact hQ _ ⟨by omega, by omega⟩ (by intro hv; first | assumption | (exfalso; omega)) (by intro hv; first | assumption | (exfalso; omega)) (by omega)
  · have m_4 : 0 ≤ (g 36 10) ∧ (g 36 10) ≤ 40 := I.1 36 10
    refine k_Told_longestRunBegins I (fun v6 b_5 b_6 => ?_)
    exact hQ _ ⟨by omega, by omega⟩ (by intro hv; first | assumption | (exfalso; omega)) (by intro hv; first | assumption | (exfalso; omega)) (by omega)
-- SpoutNewsModel.longest(I)I
set_option maxRecDepth 100000 in
set_option maxHeartbeats 4000000 in
theorem k_M_longest_b53 {l1 : Int} {l3 : Int} {l4 : Int} {l5 : Int} {s0 : Int} {H : Int → Int → Int → Int → zi_M → Prop} {K78 : Int → Int → zi_M → Prop} {Q : Int → zi_M → Prop} {g : zi_M} {g0 : zi_M} (I : zk_I g) (F : zk_fr fr_M_longest g0 g) (p3 : 0 ≤ l3 ∧ l3 ≤ 40) (p4 : (-1) ≤ l4 ∧ l4 ≤ 39) (p5 : 0 ≤ l5 ∧ l5 ≤ 39) (ix0 : 0 ≤ s0 ∧ s0 ≤ l5 + 1) (ix1 : l3 ≤ l5) (ix2 : l5 < g0 214 56) (ix3 : l3 = zmost (g0 247) l5.toNat) (ix4 : l4 = zbeg (g0 247) l5.toNat) (ix5 : s0 = zrun (g0 247) (l5 + 1).toNat) (ps0 : 0 ≤ s0 ∧ s0 ≤ 41) (M : Int) (hM : 40 - l5 ≤ M) (hH : ∀ (m2 : Int) (m3 : Int) (m4 : Int) (m5 : Int) (g : zi_M), zk_I g → zk_fr fr_M_longest g0 g → (0 ≤ m2 ∧ m2 ≤ 40) → (0 ≤ m3 ∧ m3 ≤ 40) → ((-1) ≤ m4 ∧ m4 ≤ 39) → (0 ≤ m5 ∧ m5 ≤ 40) → (m2 ≤ m5) → (m3 ≤ m5) → (m5 ≤ g0 214 56) → (m3 = zmost (g0 247) m5.toNat) → (m4 = zbeg (g0 247) m5.toNat) → (m2 = zrun (g0 247) m5.toNat) → 40 - m5 < M → H m2 m3 m4 m5 g) (hK78 : ∀ (k3 : Int) (k4 : Int) (g : zi_M), zk_I g → zk_fr fr_M_longest g0 g → (0 ≤ k3 ∧ k3 ≤ 40) → ((-1) ≤ k4 ∧ k4 ≤ 39) → (k3 = zmost (g0 247) (g0 214 56).toNat) → (k4 = zbeg (g0 247) (g0 214 56).toNat) → K78 k3 k4 g) (hQ : ∀ (v : Int) (g' : zi_M), zk_I g' → zk_fr fr_M_longest g0 g' → ((-1) ≤ v ∧ v ≤ 40) → (l1 = 0 → v = zmost (g0 247) (g0 214 56).toNat) → (l1 = 1 → v = zbeg (g0 247) (g0 214 56).toNat) → (¬ l1 = 0 → ¬ l1 = 1 → v = -1) → Q v g') : w_M_longest_b53 l3 l4 l5 s0 g H K78 Q := by
  unfold w_M_longest_b53
  refine ⟨⟨by omega, by omega⟩, ⟨by omega, by omega⟩, ?_⟩
  refine ⟨fun c11 => ?_, fun c11 => ?_⟩
  · exact hH _ _ _ _ _ I F ⟨by omega, by omega⟩ ⟨by omega, by omega⟩ ⟨by omega, by omega⟩ ⟨by omega, by omega⟩ (by omega) (by omega) (by first | omega | (have hi : 0 ≤ g 214 56 ∧ g 214 56 ≤ 40 := I.1 214 56; omega)) (by first | rfl | assumption | exact zmost_s (by omega) (by assumption) (by assumption) (by omega) | exact zmost_u (by omega) (by assumption) (by assumption) (by omega)) (by first | rfl | assumption | exact zbeg_s (by omega) (by assumption) (by assumption) (by assumption) (by omega) | exact zbeg_u (by omega) (by assumption) (by assumption) (by omega)) (by first | rfl | assumption) (by omega)
  · exact hH _ _ _ _ _ I F ⟨by omega, by omega⟩ ⟨by omega, by omega⟩ ⟨by omega, by omega⟩ ⟨by omega, by omega⟩ (by omega) (by omega) (by first | omega | (have hi : 0 ≤ g 214 56 ∧ g 214 56 ≤ 40 := I.1 214 56; omega)) (by first | rfl | assumption | exact zmost_s (by omega) (by assumption) (by assumption) (by omega) | exact zmost_u (by omega) (by assumption) (by assumption) (by omega)) (by first | rfl | assumption | exact zbeg_s (by omega) (by assumption) (by assumption) (by assumption) (by omega) | exact zbeg_u (by omega) (by assumption) (by assumption) (by omega)) (by first | rfl | assumption) (by omega)
set_option maxRecDepth 100000 in
set_option maxHeartbeats 4000000 in
theorem k_M_longest_l27 {l1 : Int} {K78 : Int → Int → zi_M → Prop} {Q : Int → zi_M → Prop} {g0 : zi_M} (hK78 : ∀ (k3 : Int) (k4 : Int) (g : zi_M), zk_I g → zk_fr fr_M_longest g0 g → (0 ≤ k3 ∧ k3 ≤ 40) → ((-1) ≤ k4 ∧ k4 ≤ 39) → (k3 = zmost (g0 247) (g0 214 56).toNat) → (k4 = zbeg (g0 247) (g0 214 56).toNat) → K78 k3 k4 g) (hQ : ∀ (v : Int) (g' : zi_M), zk_I g' → zk_fr fr_M_longest g0 g' → ((-1) ≤ v ∧ v ≤ 40) → (l1 = 0 → v = zmost (g0 247) (g0 214 56).toNat) → (l1 = 1 → v = zbeg (g0 247) (g0 214 56).toNat) → (¬ l1 = 0 → ¬ l1 = 1 → v = -1) → Q v g') : ∀ (n : Nat) {l2 : Int} {l3 : Int} {l4 : Int} {l5 : Int} {g : zi_M}, zk_I g → zk_fr fr_M_longest g0 g → (0 ≤ l2 ∧ l2 ≤ 40) → (0 ≤ l3 ∧ l3 ≤ 40) → ((-1) ≤ l4 ∧ l4 ≤ 39) → (0 ≤ l5 ∧ l5 ≤ 40) → (l2 ≤ l5) → (l3 ≤ l5) → (l5 ≤ g0 214 56) → (l3 = zmost (g0 247) l5.toNat) → (l4 = zbeg (g0 247) l5.toNat) → (l2 = zrun (g0 247) l5.toNat) → 40 - l5 < (n : Int) → w_M_longest_l27 K78 Q n l2 l3 l4 l5 g
  | 0, l2, l3, l4, l5, g, I, F, b0, b1, b2, b3, b4, b5, b6, b7, b8, b9, hm => by exfalso; omega
  | n + 1, l2, l3, l4, l5, g, I, F, b0, b1, b2, b3, b4, b5, b6, b7, b8, b9, hm => by
    unfold w_M_longest_l27
    have m_7 : 0 ≤ (g 214 56) ∧ (g 214 56) ≤ 40 := I.1 214 56
    refine ⟨⟨by omega, by omega⟩, ⟨by omega, by omega⟩, ?_⟩
    refine ⟨fun c13 => ?_, fun c13 => ?_⟩
    · exact hK78 _ _ _ I F ⟨by omega, by omega⟩ ⟨by omega, by omega⟩ (by have hf := F 214 56 (by unfold fr_M_longest; omega); rw [show g0 214 56 = l5 by omega]; assumption) (by have hf := F 214 56 (by unfold fr_M_longest; omega); rw [show g0 214 56 = l5 by omega]; assumption)
    · refine ⟨⟨by omega, by omega⟩, ?_⟩
      have m_8 : 0 ≤ (g 247 l5) ∧ (g 247 l5) ≤ 9 := I.1 247 l5
      refine ⟨⟨by omega, by omega⟩, ?_⟩
      refine ⟨fun c12 => ?_, fun c12 => ?_⟩
      · exact k_M_longest_b53 I F ⟨by omega, by omega⟩ ⟨by omega, by omega⟩ ⟨by omega, by omega⟩ (by omega) (by omega) (by have hf := F 214 56 (by unfold fr_M_longest; omega); omega) (by assumption) (by assumption) (by first | exact zrun_z (by omega) (by assumption) (by have hf := F 247 l5 (by unfold fr_M_longest; omega); omega) | exact zrun_n (by omega) (by have hf := F 247 l5 (by unfold fr_M_longest; omega); omega)) ⟨by omega, by omega⟩ (n : Int) (by omega) (fun _ _ _ _ _ I F b0 b1 b2 b3 b4 b5 b6 b7 b8 b9 hm => k_M_longest_l27 hK78 hQ n I F b0 b1 b2 b3 b4 b5 b6 b7 b8 b9 hm) hK78 hQ
      · exact k_M_longest_b53 I F ⟨by omega, by omega⟩ ⟨by omega, by omega⟩ ⟨by omega, by omega⟩ (by omega) (by omega) (by have hf := F 214 56 (by unfold fr_M_longest; omega); omega) (by assumption) (by assumption) (by first | exact zrun_z (by omega) (by assumption) (by have hf := F 247 l5 (by unfold fr_M_longest; omega); omega) | exact zrun_n (by omega) (by have hf := F 247 l5 (by unfold fr_M_longest; omega); omega)) ⟨by omega, by omega⟩ (n : Int) (by omega) (fun _ _ _ _ _ I F b0 b1 b2 b3 b4 b5 b6 b7 b8 b9 hm => k_M_longest_l27 hK78 hQ n I F b0 b1 b2 b3 b4 b5 b6 b7 b8 b9 hm) hK78 hQ
set_option maxRecDepth 100000 in
set_option maxHeartbeats 4000000 in
theorem k_M_longest {l1 : Int} {g : zi_M} {Q : Int → zi_M → Prop} (I : zk_I g) (p1 : (-2147483648) ≤ l1 ∧ l1 ≤ 2147483647) (hQ : ∀ (v : Int) (g' : zi_M), zk_I g' → zk_fr fr_M_longest g g' → ((-1) ≤ v ∧ v ≤ 40) → (l1 = 0 → v = zmost (g 247) (g 214 56).toNat) → (l1 = 1 → v = zbeg (g 247) (g 214 56).toNat) → (¬ l1 = 0 → ¬ l1 = 1 → v = -1) → Q v g') : w_M_longest l1 g Q := by
  unfold w_M_longest
  intro g1 e_1
  have I_2 : zk_I g1 := by rw [e_1]; exact zk_upd (L := (-2147483648)) (H := 2147483647) rfl rfl I ⟨by omega, by omega⟩
  have F_3 : zk_fr fr_M_longest g g1 := by rw [e_1]; exact zk_fu (zk_f0 _) ⟨rfl, rfl⟩
  refine k_M_isIn I_2 ⟨by omega, by omega⟩ ⟨by omega, by omega⟩ ⟨by omega, by omega⟩ (fun v2 b_4 b_5 b_6 => ?_)
  refine ⟨fun c20 => ?_, fun c20 => ?_⟩
  · refine ⟨((40 - 0 : Int).toNat + 1), k_M_longest_l27 (fun k14 k15 g16 I_9 F_10 b_11 b_12 b_13 b_14 => ?_) hQ ((40 - 0 : Int).toNat + 1) I_2 F_3 ⟨by omega, by omega⟩ ⟨by omega, by omega⟩ ⟨by omega, by omega⟩ ⟨by omega, by omega⟩ (by omega) (by omega) (by first | omega | (have hi : 0 ≤ g 214 56 ∧ g 214 56 ≤ 40 := I.1 214 56; omega)) (by first | rfl | assumption | exact zmost_s (by omega) (by assumption) (by assumption) (by omega) | exact zmost_u (by omega) (by assumption) (by assumption) (by omega)) (by first | rfl | assumption | exact zbeg_s (by omega) (by assumption) (by assumption) (by assumption) (by omega) | exact zbeg_u (by omega) (by assumption) (by assumption) (by omega)) (by first | rfl | assumption) (by omega)⟩
    refine ⟨⟨by omega, by omega⟩, ?_⟩
    refine ⟨fun c18 => ?_, fun c18 => ?_⟩
    · exact hQ _ _ I_9 F_10 ⟨by omega, by omega⟩ (by intro hv; first | assumption | (exfalso; omega)) (by intro hv; first | assumption | (exfalso; omega)) (by omega)
    · exact hQ _ _ I_9 F_10 ⟨by omega, by omega⟩ (by intro hv; first | assumption | (exfalso; omega)) (by intro hv; first | assumption | (exfalso; omega)) (by omega)
  · exact hQ _ _ I_2 F_3 ⟨by omega, by omega⟩ (by intro hv; first | assumption | (exfalso; omega)) (by intro hv; first | assumption | (exfalso; omega)) (by omega)
-- SpoutNews$Thought.centuries(LSpoutNews$World;I)I
set_option maxRecDepth 100000 in
set_option maxHeartbeats 4000000 in
theorem k_Thought_centuries_l26 {g : zi_M} (I : zk_I g) {l1 : Int} {x3 : Int} {K60 : Int → zi_M → Prop} {Q : Int → zi_M → Prop} (q1 : 1 ≤ l1 ∧ l1 ≤ 99) (hK60 : ∀ (k5 : Int), (0 ≤ k5 ∧ k5 ≤ 99) → (k5 = zlv (g 5 x3) l1) → K60 k5 g) (hQ : ∀ v : Int, (0 ≤ v ∧ v ≤ 99) → (v = zmx (g 5) l1 (g 2 8).toNat) → Q v g) : ∀ (n : Nat) {l4 : Int} {l5 : Int} {l6 : Int}, (0 ≤ l4 ∧ l4 ≤ 108) → (0 ≤ l5 ∧ l5 ≤ 99) → (0 ≤ l6 ∧ l6 ≤ 99) → (l5 ≤ l6) → (l6 ≤ l4) → (l5 + zlv l4 l1 = zlv (g 5 x3) l1) → 99 - l5 < (n : Int) → w_Thought_centuries_l26 l1 K60 Q n l4 l5 l6 g
  | 0, l4, l5, l6, b0, b1, b2, b3, b4, b5, hm => by exfalso; omega
  | n + 1, l4, l5, l6, b0, b1, b2, b3, b4, b5, hm => by
    unfold w_Thought_centuries_l26
    refine ⟨⟨by omega, by omega⟩, ?_⟩
    refine ⟨fun c8 => ?_, fun c8 => ?_⟩
    · have m_2 : 0 ≤ (g 5 x3) ∧ (g 5 x3) ≤ 99 := I.1 5 x3
      exact hK60 _ ⟨by omega, by omega⟩ (by exact zlv_x (by assumption) (by omega))
    · refine ⟨⟨by omega, by omega⟩, ⟨by omega, by omega⟩, ?_⟩
      refine ⟨fun c7 => ?_, fun c7 => ?_⟩
      · have m_3 : 0 ≤ (g 5 x3) ∧ (g 5 x3) ≤ 99 := I.1 5 x3
        exact hK60 _ ⟨by omega, by omega⟩ (by exact zlv_x (by assumption) (by omega))
      · have m_4 := zi_tdiv_f l4 10
        have m_5 := zi_tdiv_c l4 10 (by decide)
        have m_6 : 0 ≤ (g 5 x3) ∧ (g 5 x3) ≤ 99 := I.1 5 x3
        exact k_Thought_centuries_l26 I q1 hK60 hQ n ⟨by omega, by omega⟩ ⟨by omega, by omega⟩ ⟨by omega, by omega⟩ (by omega) (by omega) (by first | exact zlv_0 | exact zlv_st (by assumption) (by omega) (by omega) ⟨by omega, by omega⟩) (by omega)
set_option maxRecDepth 100000 in
set_option maxHeartbeats 4000000 in
theorem k_Thought_centuries_l4 {g : zi_M} (I : zk_I g) {l1 : Int} {K73 : Int → zi_M → Prop} {Q : Int → zi_M → Prop} (q1 : 1 ≤ l1 ∧ l1 ≤ 99) (hK73 : ∀ (k2 : Int), (0 ≤ k2 ∧ k2 ≤ 99) → (k2 = zmx (g 5) l1 (g 2 8).toNat) → K73 k2 g) (hQ : ∀ v : Int, (0 ≤ v ∧ v ≤ 99) → (v = zmx (g 5) l1 (g 2 8).toNat) → Q v g) : ∀ (n : Nat) {l2 : Int} {l3 : Int}, (0 ≤ l2 ∧ l2 ≤ 99) → (0 ≤ l3 ∧ l3 ≤ 10) → (l3 ≤ g 2 8) → (l2 = zmx (g 5) l1 l3.toNat) → 10 - l3 < (n : Int) → w_Thought_centuries_l4 l1 K73 Q n l2 l3 g
  | 0, l2, l3, b0, b1, b2, b3, hm => by exfalso; omega
  | n + 1, l2, l3, b0, b1, b2, b3, hm => by
    unfold w_Thought_centuries_l4
    have m_1 : 0 ≤ (g 2 8) ∧ (g 2 8) ≤ 10 := I.1 2 8
    refine ⟨⟨by omega, by omega⟩, ⟨by omega, by omega⟩, ?_⟩
    refine ⟨fun c14 => ?_, fun c14 => ?_⟩
    · exact hK73 _ ⟨by omega, by omega⟩ (by rw [show g 2 8 = l3 by omega]; assumption)
    · refine ⟨⟨by omega, by omega⟩, ?_⟩
      have m_9 : 0 ≤ (g 5 l3) ∧ (g 5 l3) ≤ 99 := I.1 5 l3
      refine ⟨((99 - 0 : Int).toNat + 1), k_Thought_centuries_l26 (l1 := l1) (x3 := l3) I ⟨by omega, by omega⟩ (fun k9 b_7 b_8 => ?_) hQ ((99 - 0 : Int).toNat + 1) ⟨by omega, by omega⟩ ⟨by omega, by omega⟩ ⟨by omega, by omega⟩ (by omega) (by omega) (by first | exact zlv_0 | exact zlv_st (by assumption) (by omega) (by omega) ⟨by omega, by omega⟩) (by omega)⟩
      refine ⟨⟨by omega, by omega⟩, ⟨by omega, by omega⟩, ?_⟩
      exact k_Thought_centuries_l4 I q1 hK73 hQ n ⟨by omega, by omega⟩ ⟨by omega, by omega⟩ (by omega) (by first | rfl | exact zmx_w (by assumption) (by assumption) (by omega) (by omega) (by omega)) (by omega)
set_option maxRecDepth 100000 in
set_option maxHeartbeats 4000000 in
theorem k_Thought_centuries {l1 : Int} {g : zi_M} {Q : Int → zi_M → Prop} (I : zk_I g) (p1 : 1 ≤ l1 ∧ l1 ≤ 99) (hQ : ∀ v : Int, (0 ≤ v ∧ v ≤ 99) → (v = zmx (g 5) l1 (g 2 8).toNat) → Q v g) : w_Thought_centuries l1 g Q := by
  unfold w_Thought_centuries
  have m_12 : 0 ≤ (g 2 8) ∧ (g 2 8) ≤ 10 := I.1 2 8
  refine ⟨((10 - 0 : Int).toNat + 1), k_Thought_centuries_l4 (l1 := l1) I ⟨by omega, by omega⟩ (fun k15 b_10 b_11 => ?_) hQ ((10 - 0 : Int).toNat + 1) ⟨by omega, by omega⟩ ⟨by omega, by omega⟩ (by omega) (by first | rfl | exact zmx_w (by assumption) (by assumption) (by omega) (by omega) (by omega)) (by omega)⟩
  exact hQ _ ⟨by omega, by omega⟩ (by assumption)
-- SpoutNews.leans(I)I
set_option maxRecDepth 100000 in
set_option maxHeartbeats 4000000 in
theorem k_S_leans {l1 : Int} {g : zi_M} {Q : Int → zi_M → Prop} (I : zk_I g) (p1 : (-2147483648) ≤ l1 ∧ l1 ≤ 2147483647) (hQ : ∀ v : Int, ((-1) ≤ v ∧ v ≤ 99) → (1 ≤ l1 ∧ l1 ≤ 99 → v = zmx (g 5) l1 (g 2 8).toNat) → (¬ (1 ≤ l1 ∧ l1 ≤ 99) → v = -1) → Q v g) : w_S_leans l1 g Q := by
  unfold w_S_leans
  refine ⟨⟨by omega, by omega⟩, ?_⟩
  refine ⟨fun c6 => ?_, fun c6 => ?_⟩
  · exact hQ _ ⟨by omega, by omega⟩ (by intro hv; first | assumption | (exfalso; omega)) (by omega)
  · refine ⟨fun c5 => ?_, fun c5 => ?_⟩
    · have m_1 : 0 ≤ (g 2 8) ∧ (g 2 8) ≤ 10 := I.1 2 8
      refine k_Thought_centuries I ⟨by omega, by omega⟩ (fun v2 b_2 b_3 => ?_)
      exact hQ _ ⟨by omega, by omega⟩ (by intro hv; first | assumption | (exfalso; omega)) (by omega)
    · exact hQ _ ⟨by omega, by omega⟩ (by intro hv; first | assumption | (exfalso; omega)) (by omega)
-- SpoutNewsModel.leansFrom(II)I
set_option maxRecDepth 100000 in
set_option maxHeartbeats 4000000 in
theorem k_M_leansFrom_l5 {l1 : Int} {g : zi_M} (I : zk_I g) {l2 : Int} {x1 : Int} {K30 : Int → zi_M → Prop} {Q : Int → zi_M → Prop} (q2 : 1 ≤ l2 ∧ l2 ≤ 99) (hK30 : ∀ (k3 : Int), (0 ≤ k3 ∧ k3 ≤ 120) → (k3 = zlv x1 l2) → K30 k3 g) (hQ : ∀ v : Int, (0 ≤ v ∧ v ≤ 120) → (v = zlv l1 l2) → Q v g) : ∀ (n : Nat) {l3 : Int} {l4 : Int}, (0 ≤ l3 ∧ l3 ≤ 120) → (0 ≤ l4 ∧ l4 ≤ 108) → (l3 ≤ l4) → (l3 + zlv l4 l2 = zlv x1 l2) → max (l2 - l4) 0 < (n : Int) → w_M_leansFrom_l5 l2 K30 Q n l3 l4 g
  | 0, l3, l4, b0, b1, b2, b3, hm => by exfalso; omega
  | n + 1, l3, l4, b0, b1, b2, b3, hm => by
    unfold w_M_leansFrom_l5
    refine ⟨⟨by omega, by omega⟩, ⟨by omega, by omega⟩, ?_⟩
    refine ⟨fun c3 => ?_, fun c3 => ?_⟩
    · exact hK30 _ ⟨by omega, by omega⟩ (by exact zlv_x (by assumption) (by omega))
    · have m_1 := zi_tdiv_f l4 10
      have m_2 := zi_tdiv_c l4 10 (by decide)
      exact k_M_leansFrom_l5 I q2 hK30 hQ n ⟨by omega, by omega⟩ ⟨by omega, by omega⟩ (by omega) (by first | exact zlv_0 | exact zlv_st (by assumption) (by omega) (by omega) ⟨by omega, by omega⟩) (by omega)
set_option maxRecDepth 100000 in
set_option maxHeartbeats 4000000 in
theorem k_M_leansFrom {l1 : Int} {l2 : Int} {g : zi_M} {Q : Int → zi_M → Prop} (I : zk_I g) (p1 : 0 ≤ l1 ∧ l1 ≤ 99) (p2 : 1 ≤ l2 ∧ l2 ≤ 99) (hQ : ∀ v : Int, (0 ≤ v ∧ v ≤ 120) → (v = zlv l1 l2) → Q v g) : w_M_leansFrom l1 l2 g Q := by
  unfold w_M_leansFrom
  refine ⟨((max (l2 - l1) 0 : Int).toNat + 1), k_M_leansFrom_l5 (l2 := l2) (x1 := l1) I ⟨by omega, by omega⟩ (fun k4 b_3 b_4 => ?_) hQ ((max (l2 - l1) 0 : Int).toNat + 1) ⟨by omega, by omega⟩ ⟨by omega, by omega⟩ (by omega) (by first | exact zlv_0 | exact zlv_st (by assumption) (by omega) (by omega) ⟨by omega, by omega⟩) (by omega)⟩
  exact hQ _ ⟨by omega, by omega⟩ (by assumption)
-- SpoutNewsModel.leans(I)I
set_option maxRecDepth 100000 in
set_option maxHeartbeats 4000000 in
theorem k_M_leans_l22 {l1 : Int} {K53 : Int → zi_M → Prop} {Q : Int → zi_M → Prop} {g0 : zi_M} (q1 : 1 ≤ l1 ∧ l1 ≤ 99) (hK53 : ∀ (k2 : Int) (g : zi_M), zk_I g → zk_fr fr_M_leans g0 g → (0 ≤ k2 ∧ k2 ≤ 120) → (k2 = zmx (g0 220) l1 (g0 214 6).toNat) → K53 k2 g) (hQ : ∀ (v : Int) (g' : zi_M), zk_I g' → zk_fr fr_M_leans g0 g' → ((-1) ≤ v ∧ v ≤ 120) → (1 ≤ l1 ∧ l1 ≤ 99 → v = zmx (g0 220) l1 (g0 214 6).toNat) → (¬ (1 ≤ l1 ∧ l1 ≤ 99) → v = -1) → Q v g') : ∀ (n : Nat) {l2 : Int} {l3 : Int} {g : zi_M}, zk_I g → zk_fr fr_M_leans g0 g → (0 ≤ l2 ∧ l2 ≤ 120) → (0 ≤ l3 ∧ l3 ≤ 10) → (l3 ≤ g 214 6) → (l2 = zmx (g0 220) l1 l3.toNat) → 10 - l3 < (n : Int) → w_M_leans_l22 l1 K53 Q n l2 l3 g
  | 0, l2, l3, g, I, F, b0, b1, b2, b3, hm => by exfalso; omega
  | n + 1, l2, l3, g, I, F, b0, b1, b2, b3, hm => by
    unfold w_M_leans_l22
    have m_7 : 0 ≤ (g 214 6) ∧ (g 214 6) ≤ 10 := I.1 214 6
    refine ⟨⟨by omega, by omega⟩, ⟨by omega, by omega⟩, ?_⟩
    refine ⟨fun c14 => ?_, fun c14 => ?_⟩
    · exact hK53 _ _ I F ⟨by omega, by omega⟩ (by have hf := F 214 6 (by unfold fr_M_leans; omega); rw [show g0 214 6 = l3 by omega]; assumption)
    · refine ⟨⟨by omega, by omega⟩, ?_⟩
      have m_8 : 0 ≤ (g 220 l3) ∧ (g 220 l3) ≤ 99 := I.1 220 l3
      refine k_M_leansFrom I ⟨by omega, by omega⟩ ⟨by omega, by omega⟩ (fun v8 b_9 b_10 => ?_)
      refine k_M_greater I ⟨by omega, by omega⟩ ⟨by omega, by omega⟩ (fun v11 b_11 b_12 => ?_)
      exact k_M_leans_l22 q1 hK53 hQ n I F ⟨by omega, by omega⟩ ⟨by omega, by omega⟩ (by omega) (by first | rfl | exact zmx_w (by assumption) (by rw [← F 220 l3 (by unfold fr_M_leans; omega)]) (by omega) (by omega) (by omega)) (by omega)
set_option maxRecDepth 100000 in
set_option maxHeartbeats 4000000 in
theorem k_M_leans {l1 : Int} {g : zi_M} {Q : Int → zi_M → Prop} (I : zk_I g) (p1 : (-2147483648) ≤ l1 ∧ l1 ≤ 2147483647) (hQ : ∀ (v : Int) (g' : zi_M), zk_I g' → zk_fr fr_M_leans g g' → ((-1) ≤ v ∧ v ≤ 120) → (1 ≤ l1 ∧ l1 ≤ 99 → v = zmx (g 220) l1 (g 214 6).toNat) → (¬ (1 ≤ l1 ∧ l1 ≤ 99) → v = -1) → Q v g') : w_M_leans l1 g Q := by
  unfold w_M_leans
  intro g1 e_1
  have I_2 : zk_I g1 := by rw [e_1]; exact zk_upd (L := (-2147483648)) (H := 2147483647) rfl rfl I ⟨by omega, by omega⟩
  have F_3 : zk_fr fr_M_leans g g1 := by rw [e_1]; exact zk_fu (zk_f0 _) ⟨rfl, rfl⟩
  refine k_M_isIn I_2 ⟨by omega, by omega⟩ ⟨by omega, by omega⟩ ⟨by omega, by omega⟩ (fun v2 b_4 b_5 b_6 => ?_)
  refine ⟨fun c18 => ?_, fun c18 => ?_⟩
  · have m_17 : 0 ≤ (g1 214 6) ∧ (g1 214 6) ≤ 10 := I_2.1 214 6
    have m_18 : g1 214 6 = g 214 6 := by rw [e_1]; exact zi_u_ni (by decide)
    have m_19 : 0 ≤ (g 214 6) ∧ (g 214 6) ≤ 10 := I.1 214 6
    refine ⟨((10 - 0 : Int).toNat + 1), k_M_leans_l22 (l1 := l1) ⟨by omega, by omega⟩ (fun k15 g16 I_13 F_14 b_15 b_16 => ?_) hQ ((10 - 0 : Int).toNat + 1) I_2 F_3 ⟨by omega, by omega⟩ ⟨by omega, by omega⟩ (by omega) (by first | rfl | exact zmx_w (by assumption) (by rw [← F 220 l3 (by unfold fr_M_leans; omega)]) (by omega) (by omega) (by omega)) (by omega)⟩
    exact hQ _ _ I_13 F_14 ⟨by omega, by omega⟩ (by intro hv; first | assumption | (exfalso; omega)) (by omega)
  · exact hQ _ _ I_2 F_3 ⟨by omega, by omega⟩ (by intro hv; first | assumption | (exfalso; omega)) (by omega)
-- SpoutNews.chapter(I)I
set_option maxRecDepth 100000 in
set_option maxHeartbeats 4000000 in
theorem k_S_chapter {l1 : Int} {g : zi_M} {Q : Int → zi_M → Prop} (I : zk_I g) (p1 : (-2147483648) ≤ l1 ∧ l1 ≤ 2147483647) (hQ : ∀ (v : Int) (g' : zi_M), zk_I g' → zk_fr fr_S_chapter g g' → ((-1) ≤ v ∧ v ≤ 12) → (l1 = -1 → v = 0 ∧ g' 36 12 = 0) → (¬ l1 = -1 → 1 ≤ l1 ∧ l1 ≤ 60 ∧ g 36 12 < 12 → v = g 36 12 + 1 ∧ g' 36 12 = g 36 12 + 1) → (¬ l1 = -1 → ¬ (1 ≤ l1 ∧ l1 ≤ 60 ∧ g 36 12 < 12) → v = -1 ∧ g' 36 12 = g 36 12) → (∀ k : Int, 0 ≤ k ∧ k < 12 → (¬ v = -1 ∧ ¬ l1 = -1 ∧ k = g 36 12 → g' 45 k = l1) ∧ (¬ (¬ v = -1 ∧ ¬ l1 = -1 ∧ k = g 36 12) → g' 45 k = g 45 k)) → Q v g') : w_S_chapter l1 g Q := by
  unfold w_S_chapter
  refine ⟨⟨by omega, by omega⟩, ?_⟩
  refine ⟨fun c10 => ?_, fun c10 => ?_⟩
  · refine ⟨fun c8 => ?_, fun c8 => ?_⟩
    · have m_1 : 0 ≤ (g 36 12) ∧ (g 36 12) ≤ 12 := I.1 36 12
      have z_3 : ∀ k : Int, 0 ≤ k ∧ k < 12 → (¬ ((-1) : Int) = -1 ∧ ¬ l1 = -1 ∧ k = g 36 12 → g 45 k = l1) ∧ (¬ (¬ ((-1) : Int) = -1 ∧ ¬ l1 = -1 ∧ k = g 36 12) → g 45 k = g 45 k) := by
        intro k hk
        have m_2 : 0 ≤ (g 45 k) ∧ (g 45 k) ≤ 60 := I.1 45 k
        omega
      exact hQ _ _ I (zk_f0 _) ⟨by omega, by omega⟩ (by omega) (by omega) (by omega) z_3
    · refine ⟨fun c7 => ?_, fun c7 => ?_⟩
      · have m_4 : 0 ≤ (g 36 12) ∧ (g 36 12) ≤ 12 := I.1 36 12
        have z_6 : ∀ k : Int, 0 ≤ k ∧ k < 12 → (¬ ((-1) : Int) = -1 ∧ ¬ l1 = -1 ∧ k = g 36 12 → g 45 k = l1) ∧ (¬ (¬ ((-1) : Int) = -1 ∧ ¬ l1 = -1 ∧ k = g 36 12) → g 45 k = g 45 k) := by
          intro k hk
          have m_5 : 0 ≤ (g 45 k) ∧ (g 45 k) ≤ 60 := I.1 45 k
          omega
        exact hQ _ _ I (zk_f0 _) ⟨by omega, by omega⟩ (by omega) (by omega) (by omega) z_6
      · have m_7 : 0 ≤ (g 36 12) ∧ (g 36 12) ≤ 12 := I.1 36 12
        refine ⟨⟨by omega, by omega⟩, ?_⟩
        refine ⟨fun c6 => ?_, fun c6 => ?_⟩
        · refine ⟨⟨by omega, by omega⟩, ?_⟩
          intro g4 e_8
          have I_9 : zk_I g4 := by rw [e_8]; exact zk_upd (L := 0) (H := 60) rfl rfl I ⟨by omega, by omega⟩
          have F_10 : zk_fr fr_S_chapter g g4 := by rw [e_8]; exact zk_fu (zk_f0 _) (Or.inl rfl)
          have m_14 : 0 ≤ (g4 36 12) ∧ (g4 36 12) ≤ 12 := I_9.1 36 12
          have m_15 : g4 36 12 = g 36 12 := by rw [e_8]; exact zi_u_ne (by decide)
          intro g5 e_11
          have I_12 : zk_I g5 := by rw [e_11]; exact zk_upd (L := 0) (H := 12) rfl rfl I_9 ⟨by omega, by omega⟩
          have F_13 : zk_fr fr_S_chapter g g5 := by rw [e_11]; exact zk_fu F_10 (Or.inr ⟨rfl, rfl⟩)
          have m_16 : 0 ≤ (g5 36 12) ∧ (g5 36 12) ≤ 12 := I_12.1 36 12
          have m_17 : g5 36 12 = (g4 36 12) + 1 := by rw [e_11]; exact zi_u_eq
          have z_23 : ∀ k : Int, 0 ≤ k ∧ k < 12 → (¬ (g5 36 12 : Int) = -1 ∧ ¬ l1 = -1 ∧ k = g 36 12 → g5 45 k = l1) ∧ (¬ (¬ (g5 36 12 : Int) = -1 ∧ ¬ l1 = -1 ∧ k = g 36 12) → g5 45 k = g 45 k) := by
            intro k hk
            have m_18 : 0 ≤ (g5 45 k) ∧ (g5 45 k) ≤ 60 := I_12.1 45 k
            have m_19 : g5 45 k = g4 45 k := by rw [e_11]; exact zi_u_ne (by decide)
            have m_20 : 0 ≤ (g4 45 k) ∧ (g4 45 k) ≤ 60 := I_9.1 45 k
            have m_21 : 0 ≤ (g 45 k) ∧ (g 45 k) ≤ 60 := I.1 45 k
            have m_22 : (k = g 36 12 → g4 45 k = l1) ∧ (¬ k = g 36 12 → g4 45 k = g 45 k) := by rw [e_8]; exact zi_u_if
            omega
          exact hQ _ _ I_12 F_13 ⟨by omega, by omega⟩ (by omega) (by omega) (by omega) z_23
        · have z_25 : ∀ k : Int, 0 ≤ k ∧ k < 12 → (¬ ((-1) : Int) = -1 ∧ ¬ l1 = -1 ∧ k = g 36 12 → g 45 k = l1) ∧ (¬ (¬ ((-1) : Int) = -1 ∧ ¬ l1 = -1 ∧ k = g 36 12) → g 45 k = g 45 k) := by
            intro k hk
            have m_24 : 0 ≤ (g 45 k) ∧ (g 45 k) ≤ 60 := I.1 45 k
            omega
          exact hQ _ _ I (zk_f0 _) ⟨by omega, by omega⟩ (by omega) (by omega) (by omega) z_25
  · intro g9 e_26
    have I_27 : zk_I g9 := by rw [e_26]; exact zk_upd (L := 0) (H := 12) rfl rfl I ⟨by omega, by omega⟩
    have F_28 : zk_fr fr_S_chapter g g9 := by rw [e_26]; exact zk_fu (zk_f0 _) (Or.inr ⟨rfl, rfl⟩)
    have m_29 : 0 ≤ (g9 36 12) ∧ (g9 36 12) ≤ 12 := I_27.1 36 12
    have m_30 : g9 36 12 = 0 := by rw [e_26]; exact zi_u_eq
    have z_34 : ∀ k : Int, 0 ≤ k ∧ k < 12 → (¬ (0 : Int) = -1 ∧ ¬ l1 = -1 ∧ k = g 36 12 → g9 45 k = l1) ∧ (¬ (¬ (0 : Int) = -1 ∧ ¬ l1 = -1 ∧ k = g 36 12) → g9 45 k = g 45 k) := by
      intro k hk
      have m_31 : 0 ≤ (g9 45 k) ∧ (g9 45 k) ≤ 60 := I_27.1 45 k
      have m_32 : g9 45 k = g 45 k := by rw [e_26]; exact zi_u_ne (by decide)
      have m_33 : 0 ≤ (g 45 k) ∧ (g 45 k) ≤ 60 := I.1 45 k
      omega
    exact hQ _ _ I_27 F_28 ⟨by omega, by omega⟩ (by omega) (by omega) (by omega) z_34
-- SpoutNewsModel.chapter(I)I
set_option maxRecDepth 100000 in
set_option maxHeartbeats 4000000 in
theorem k_M_chapter {l1 : Int} {g : zi_M} {Q : Int → zi_M → Prop} (I : zk_I g) (p1 : (-2147483648) ≤ l1 ∧ l1 ≤ 2147483647) (hQ : ∀ (v : Int) (g' : zi_M), zk_I g' → zk_fr fr_M_chapter g g' → ((-1) ≤ v ∧ v ≤ 12) → (l1 = -1 → v = 0 ∧ g' 214 58 = 0) → (¬ l1 = -1 → 1 ≤ l1 ∧ l1 ≤ 60 ∧ g 214 58 < 12 → v = g 214 58 + 1 ∧ g' 214 58 = g 214 58 + 1) → (¬ l1 = -1 → ¬ (1 ≤ l1 ∧ l1 ≤ 60 ∧ g 214 58 < 12) → v = -1 ∧ g' 214 58 = g 214 58) → (∀ k : Int, 0 ≤ k ∧ k < 12 → (¬ v = -1 ∧ ¬ l1 = -1 ∧ k = g 214 58 → g' 248 k = l1) ∧ (¬ (¬ v = -1 ∧ ¬ l1 = -1 ∧ k = g 214 58) → g' 248 k = g 248 k)) → Q v g') : w_M_chapter l1 g Q := by
  unfold w_M_chapter
  intro g1 e_1
  have I_2 : zk_I g1 := by rw [e_1]; exact zk_upd (L := (-2147483648)) (H := 2147483647) rfl rfl I ⟨by omega, by omega⟩
  have F_3 : zk_fr fr_M_chapter g g1 := by rw [e_1]; exact zk_fu (zk_f0 _) (Or.inr (Or.inl ⟨rfl, rfl⟩))
  refine ⟨⟨by omega, by omega⟩, ?_⟩
  refine ⟨fun c13 => ?_, fun c13 => ?_⟩
  · refine k_M_isIn I_2 ⟨by omega, by omega⟩ ⟨by omega, by omega⟩ ⟨by omega, by omega⟩ (fun v3 b_4 b_5 b_6 => ?_)
    refine ⟨fun c11 => ?_, fun c11 => ?_⟩
    · have m_7 : 0 ≤ (g1 214 58) ∧ (g1 214 58) ≤ 12 := I_2.1 214 58
      have m_8 : g1 214 58 = g 214 58 := by rw [e_1]; exact zi_u_ni (by decide)
      have m_9 : 0 ≤ (g 214 58) ∧ (g 214 58) ≤ 12 := I.1 214 58
      have z_13 : ∀ k : Int, 0 ≤ k ∧ k < 12 → (¬ ((-1) : Int) = -1 ∧ ¬ l1 = -1 ∧ k = g 214 58 → g1 248 k = l1) ∧ (¬ (¬ ((-1) : Int) = -1 ∧ ¬ l1 = -1 ∧ k = g 214 58) → g1 248 k = g 248 k) := by
        intro k hk
        have m_10 : 0 ≤ (g1 248 k) ∧ (g1 248 k) ≤ 60 := I_2.1 248 k
        have m_11 : g1 248 k = g 248 k := by rw [e_1]; exact zi_u_ne (by decide)
        have m_12 : 0 ≤ (g 248 k) ∧ (g 248 k) ≤ 60 := I.1 248 k
        omega
      exact hQ _ _ I_2 F_3 ⟨by omega, by omega⟩ (by omega) (by omega) (by omega) z_13
    · have m_14 : 0 ≤ (g1 214 58) ∧ (g1 214 58) ≤ 12 := I_2.1 214 58
      have m_15 : g1 214 58 = g 214 58 := by rw [e_1]; exact zi_u_ni (by decide)
      have m_16 : 0 ≤ (g 214 58) ∧ (g 214 58) ≤ 12 := I.1 214 58
      refine ⟨⟨by omega, by omega⟩, ?_⟩
      refine ⟨fun c10 => ?_, fun c10 => ?_⟩
      · refine ⟨⟨by omega, by omega⟩, ?_⟩
        intro g8 e_17
        have I_18 : zk_I g8 := by rw [e_17]; exact zk_upd (L := 0) (H := 60) rfl rfl I_2 ⟨by omega, by omega⟩
        have F_19 : zk_fr fr_M_chapter g g8 := by rw [e_17]; exact zk_fu F_3 (Or.inl rfl)
        have m_23 : 0 ≤ (g8 214 58) ∧ (g8 214 58) ≤ 12 := I_18.1 214 58
        have m_24 : g8 214 58 = g1 214 58 := by rw [e_17]; exact zi_u_ne (by decide)
        intro g9 e_20
        have I_21 : zk_I g9 := by rw [e_20]; exact zk_upd (L := 0) (H := 12) rfl rfl I_18 ⟨by omega, by omega⟩
        have F_22 : zk_fr fr_M_chapter g g9 := by rw [e_20]; exact zk_fu F_19 (Or.inr (Or.inr ⟨rfl, rfl⟩))
        have m_25 : 0 ≤ (g9 214 58) ∧ (g9 214 58) ≤ 12 := I_21.1 214 58
        have m_26 : g9 214 58 = (g8 214 58) + 1 := by rw [e_20]; exact zi_u_eq
        have z_34 : ∀ k : Int, 0 ≤ k ∧ k < 12 → (¬ (g9 214 58 : Int) = -1 ∧ ¬ l1 = -1 ∧ k = g 214 58 → g9 248 k = l1) ∧ (¬ (¬ (g9 214 58 : Int) = -1 ∧ ¬ l1 = -1 ∧ k = g 214 58) → g9 248 k = g 248 k) := by
          intro k hk
          have m_27 : 0 ≤ (g9 248 k) ∧ (g9 248 k) ≤ 60 := I_21.1 248 k
          have m_28 : g9 248 k = g8 248 k := by rw [e_20]; exact zi_u_ne (by decide)
          have m_29 : 0 ≤ (g8 248 k) ∧ (g8 248 k) ≤ 60 := I_18.1 248 k
          have m_30 : 0 ≤ (g1 248 k) ∧ (g1 248 k) ≤ 60 := I_2.1 248 k
          have m_31 : g1 248 k = g 248 k := by rw [e_1]; exact zi_u_ne (by decide)
          have m_32 : 0 ≤ (g 248 k) ∧ (g 248 k) ≤ 60 := I.1 248 k
          have m_33 : (k = g1 214 58 → g8 248 k = l1) ∧ (¬ k = g1 214 58 → g8 248 k = g1 248 k) := by rw [e_17]; exact zi_u_if
          omega
        exact hQ _ _ I_21 F_22 ⟨by omega, by omega⟩ (by omega) (by omega) (by omega) z_34
      · have z_38 : ∀ k : Int, 0 ≤ k ∧ k < 12 → (¬ ((-1) : Int) = -1 ∧ ¬ l1 = -1 ∧ k = g 214 58 → g1 248 k = l1) ∧ (¬ (¬ ((-1) : Int) = -1 ∧ ¬ l1 = -1 ∧ k = g 214 58) → g1 248 k = g 248 k) := by
          intro k hk
          have m_35 : 0 ≤ (g1 248 k) ∧ (g1 248 k) ≤ 60 := I_2.1 248 k
          have m_36 : g1 248 k = g 248 k := by rw [e_1]; exact zi_u_ne (by decide)
          have m_37 : 0 ≤ (g 248 k) ∧ (g 248 k) ≤ 60 := I.1 248 k
          omega
        exact hQ _ _ I_2 F_3 ⟨by omega, by omega⟩ (by omega) (by omega) (by omega) z_38
  · intro g12 e_39
    have I_40 : zk_I g12 := by rw [e_39]; exact zk_upd (L := 0) (H := 12) rfl rfl I_2 ⟨by omega, by omega⟩
    have F_41 : zk_fr fr_M_chapter g g12 := by rw [e_39]; exact zk_fu F_3 (Or.inr (Or.inr ⟨rfl, rfl⟩))
    have m_42 : 0 ≤ (g12 214 58) ∧ (g12 214 58) ≤ 12 := I_40.1 214 58
    have m_43 : g12 214 58 = 0 := by rw [e_39]; exact zi_u_eq
    have z_49 : ∀ k : Int, 0 ≤ k ∧ k < 12 → (¬ (0 : Int) = -1 ∧ ¬ l1 = -1 ∧ k = g 214 58 → g12 248 k = l1) ∧ (¬ (¬ (0 : Int) = -1 ∧ ¬ l1 = -1 ∧ k = g 214 58) → g12 248 k = g 248 k) := by
      intro k hk
      have m_44 : 0 ≤ (g12 248 k) ∧ (g12 248 k) ≤ 60 := I_40.1 248 k
      have m_45 : g12 248 k = g1 248 k := by rw [e_39]; exact zi_u_ne (by decide)
      have m_46 : 0 ≤ (g1 248 k) ∧ (g1 248 k) ≤ 60 := I_2.1 248 k
      have m_47 : g1 248 k = g 248 k := by rw [e_1]; exact zi_u_ne (by decide)
      have m_48 : 0 ≤ (g 248 k) ∧ (g 248 k) ≤ 60 := I.1 248 k
      omega
    exact hQ _ _ I_40 F_41 ⟨by omega, by omega⟩ (by omega) (by omega) (by omega) z_49
-- SpoutNews$Thought.storm(II)I
set_option maxRecDepth 100000 in
set_option maxHeartbeats 4000000 in
theorem k_Thought_storm {l0 : Int} {l1 : Int} {g : zi_M} {Q : Int → zi_M → Prop} (I : zk_I g) (p0 : 1 ≤ l0 ∧ l0 ≤ 6) (p1 : 0 ≤ l1) (hQ : ∀ v : Int, (v = (l0 * 13) + l1) → Q v g) : w_Thought_storm l0 l1 g Q := by
  unfold w_Thought_storm
  exact hQ _ (by intros; omega)
-- SpoutNews$Told.minutes(II)I
set_option maxRecDepth 100000 in
set_option maxHeartbeats 4000000 in
theorem k_Told_minutes_l5 {l1 : Int} {g : zi_M} (I : zk_I g) {l2 : Int} {x1 : Int} {K36 : Int → zi_M → Prop} {Q : Int → zi_M → Prop} (q2 : 0 ≤ l2 ∧ l2 ≤ 12) (hK36 : ∀ (k3 : Int), (0 ≤ k3 ∧ k3 ≤ 720) → (l2 ≤ g 36 12 → k3 = zSm (g 45) x1 l2) → K36 k3 g) (hQ : ∀ v : Int, (0 ≤ v ∧ v ≤ 720) → (l2 ≤ g 36 12 → v = zSm (g 45) l1 l2) → Q v g) : ∀ (n : Nat) {l3 : Int} {l4 : Int}, (0 ≤ l3 ∧ l3 ≤ 720) → (0 ≤ l4 ∧ l4 ≤ 12) → (l3 ≤ 60 * l4) → (x1 ≤ l4) → (l4 ≤ l2 ∨ l4 = x1) → (l3 = zSm (g 45) x1 l4) → 12 - l4 < (n : Int) → w_Told_minutes_l5 l2 K36 Q n l3 l4 g
  | 0, l3, l4, b0, b1, b2, b3, b4, b5, hm => by exfalso; omega
  | n + 1, l3, l4, b0, b1, b2, b3, b4, b5, hm => by
    unfold w_Told_minutes_l5
    refine ⟨⟨by omega, by omega⟩, ⟨by omega, by omega⟩, ?_⟩
    refine ⟨fun c6 => ?_, fun c6 => ?_⟩
    · have m_1 : 0 ≤ (g 36 12) ∧ (g 36 12) ≤ 12 := I.1 36 12
      exact hK36 _ ⟨by omega, by omega⟩ (by intro hv; first | exact zSm_x (by assumption) (by omega) (by omega) (by omega) | (exfalso; omega))
    · have m_2 : 0 ≤ (g 36 12) ∧ (g 36 12) ≤ 12 := I.1 36 12
      refine ⟨⟨by omega, by omega⟩, ?_⟩
      refine ⟨fun c5 => ?_, fun c5 => ?_⟩
      · exact hK36 _ ⟨by omega, by omega⟩ (by intro hv; first | exact zSm_x (by assumption) (by omega) (by omega) (by omega) | (exfalso; omega))
      · refine ⟨⟨by omega, by omega⟩, ?_⟩
        have m_3 : 0 ≤ (g 45 l4) ∧ (g 45 l4) ≤ 60 := I.1 45 l4
        exact k_Told_minutes_l5 I q2 hK36 hQ n ⟨by omega, by omega⟩ ⟨by omega, by omega⟩ (by omega) (by omega) (by omega) (by first | exact (zSm_0 (Int.le_refl _)).symm | exact zSm_st (by assumption) (by omega)) (by omega)
set_option maxRecDepth 100000 in
set_option maxHeartbeats 4000000 in
theorem k_Told_minutes {l1 : Int} {l2 : Int} {g : zi_M} {Q : Int → zi_M → Prop} (I : zk_I g) (p1 : 0 ≤ l1 ∧ l1 ≤ 12) (p2 : 0 ≤ l2 ∧ l2 ≤ 12) (hQ : ∀ v : Int, (0 ≤ v ∧ v ≤ 720) → (l2 ≤ g 36 12 → v = zSm (g 45) l1 l2) → Q v g) : w_Told_minutes l1 l2 g Q := by
  unfold w_Told_minutes
  refine ⟨((12 - l1 : Int).toNat + 1), k_Told_minutes_l5 (l2 := l2) (x1 := l1) I ⟨by omega, by omega⟩ (fun k7 b_4 b_5 => ?_) hQ ((12 - l1 : Int).toNat + 1) ⟨by omega, by omega⟩ ⟨by omega, by omega⟩ (by omega) (by omega) (by omega) (by first | exact (zSm_0 (Int.le_refl _)).symm | exact zSm_st (by assumption) (by omega)) (by omega)⟩
  exact hQ _ ⟨by omega, by omega⟩ (by assumption)
-- SpoutNews$Thought.greatestSum(LSpoutNews$Told;III)I
set_option maxRecDepth 100000 in
set_option maxHeartbeats 4000000 in
theorem k_Thought_greatestSum {l2 : Int} {l3 : Int} {l4 : Int} {g : zi_M} {Q : Int → zi_M → Prop} (I : zk_I g) (p2 : 2 ≤ l2 ∧ l2 ≤ 6) (p3 : 0 ≤ l3 ∧ l3 ≤ 12) (p4 : 1 ≤ l4 ∧ l4 ≤ 11) (hQ : ∀ v : Int, (0 ≤ v ∧ v ≤ 720) → (l4 ≤ g 36 12 → v = max (zSm (g 45) l3 l4) (g 189 ((l2 - 1) * 13 + l4))) → Q v g) : w_Thought_greatestSum l2 l3 l4 g Q := by
  unfold w_Thought_greatestSum
  have m_1 : 0 ≤ (g 36 12) ∧ (g 36 12) ≤ 12 := I.1 36 12
  refine k_Told_minutes I ⟨by omega, by omega⟩ ⟨by omega, by omega⟩ (fun v1 b_2 b_3 => ?_)
  refine k_Thought_storm I ⟨by omega, by omega⟩ (by omega) (fun v4 b_4 => ?_)
  refine ⟨⟨by omega, by omega⟩, ?_⟩
  have m_5 : 0 ≤ (g 189 v4) ∧ (g 189 v4) ≤ 720 := I.1 189 v4
  refine ⟨⟨by omega, by omega⟩, ⟨by omega, by omega⟩, ?_⟩
  exact hQ _ ⟨by omega, by omega⟩ (by exact zgs_l (by assumption) (by omega))
-- SpoutNews$Thought.readInStorms(LSpoutNews$Told;I)V
set_option maxRecDepth 100000 in
set_option maxHeartbeats 4000000 in
theorem k_Thought_readInStorms_l2 {l2 : Int} {K35 : zi_M → Prop} {Q : Int → zi_M → Prop} {g0 : zi_M} (hK35 : ∀ (g : zi_M), zk_I g → zk_fr fr_Thought_readInStorms g0 g → (zTb g 2 0) → K35 g) (hQ : ∀ g' : zi_M, zk_I g' → zk_fr fr_Thought_readInStorms g0 g' → (zTb g' (l2 + 1) 0) → Q 0 g') : ∀ (n : Nat) {l3 : Int} {g : zi_M}, zk_I g → zk_fr fr_Thought_readInStorms g0 g → (0 ≤ l3 ∧ l3 ≤ 13) → (zT1 g l3) → 13 - l3 < (n : Int) → w_Thought_readInStorms_l2 K35 Q n l3 g
  | 0, l3, g, I, F, b0, b1, hm => by exfalso; omega
  | n + 1, l3, g, I, F, b0, b1, hm => by
    unfold w_Thought_readInStorms_l2
    have m_1 : 0 ≤ (g 36 12) ∧ (g 36 12) ≤ 12 := I.1 36 12
    refine ⟨⟨by omega, by omega⟩, ⟨by omega, by omega⟩, ?_⟩
    refine ⟨fun c11 => ?_, fun c11 => ?_⟩
    · have m_2 : 0 ≤ (g 2 0) ∧ (g 2 0) ≤ 1 := I.1 2 0
      exact hK35 _ I F (by first | assumption | exact zT1_x (by assumption) (by assumption) (by omega))
    · refine k_Thought_storm I ⟨by omega, by omega⟩ (by omega) (fun v3 b_3 => ?_)
      refine k_Told_minutes I ⟨by omega, by omega⟩ ⟨by omega, by omega⟩ (fun v6 b_4 b_5 => ?_)
      refine ⟨⟨by omega, by omega⟩, ?_⟩
      intro g10 e_6
      have I_7 : zk_I g10 := by rw [e_6]; exact zk_upd (L := 0) (H := 720) rfl rfl I ⟨by omega, by omega⟩
      have F_8 : zk_fr fr_Thought_readInStorms g0 g10 := by rw [e_6]; exact zk_fu F rfl
      exact k_Thought_readInStorms_l2 hK35 hQ n I_7 F_8 ⟨by omega, by omega⟩ (by first | exact zT1_0 | exact zT1_st (by assumption) (by assumption) (by omega) (by assumption) (by omega)) (by omega)
set_option maxRecDepth 100000 in
set_option maxHeartbeats 4000000 in
theorem k_Thought_readInStorms_l73 {l2 : Int} {l3 : Int} {l4 : Int} {K109 : Int → zi_M → Prop} {Q : Int → zi_M → Prop} {g0 : zi_M} (q3 : 2 ≤ l3 ∧ l3 ≤ 6) (q4 : 0 ≤ l4 ∧ l4 ≤ 10) (hK109 : ∀ (k5 : Int) (g : zi_M), zk_I g → zk_fr fr_Thought_readInStorms g0 g → (0 ≤ k5 ∧ k5 ≤ 720) → (zTb g l3 l4) → (k5 = zDP (g 45) (g 36 12) l3.toNat l4) → K109 k5 g) (hQ : ∀ g' : zi_M, zk_I g' → zk_fr fr_Thought_readInStorms g0 g' → (zTb g' (l2 + 1) 0) → Q 0 g') : ∀ (n : Nat) {l5 : Int} {l6 : Int} {g : zi_M}, zk_I g → zk_fr fr_Thought_readInStorms g0 g → (0 ≤ l5 ∧ l5 ≤ 720) → (1 ≤ l6 ∧ l6 ≤ 12) → (l4 + 1 ≤ l6) → (l6 ≤ g 36 12 - l3 + 2) → (l4 ≤ g 36 12 - l3) → (zTb g l3 l4) → (l5 = zLb (g 45) (zDP (g 45) (g 36 12) (l3 - 1).toNat) l4 (zSm (g 45) 0 (g 36 12)) (l6 - l4 - 1).toNat) → 12 - l6 < (n : Int) → w_Thought_readInStorms_l73 l3 l4 K109 Q n l5 l6 g
  | 0, l5, l6, g, I, F, b0, b1, b2, b3, b4, b5, b6, hm => by exfalso; omega
  | n + 1, l5, l6, g, I, F, b0, b1, b2, b3, b4, b5, b6, hm => by
    unfold w_Thought_readInStorms_l73
    have m_15 : 0 ≤ (g 36 12) ∧ (g 36 12) ≤ 12 := I.1 36 12
    refine ⟨⟨by omega, by omega⟩, ⟨by omega, by omega⟩, ?_⟩
    refine ⟨fun c27 => ?_, fun c27 => ?_⟩
    · exact hK109 _ _ I F ⟨by omega, by omega⟩ (by assumption) (by exact zLb_x (by assumption) (by assumption) (by omega) (by omega) (by omega) (by omega))
    · refine k_Thought_greatestSum I ⟨by omega, by omega⟩ ⟨by omega, by omega⟩ ⟨by omega, by omega⟩ (fun v22 b_16 b_17 => ?_)
      refine ⟨⟨by omega, by omega⟩, ⟨by omega, by omega⟩, ?_⟩
      exact k_Thought_readInStorms_l73 q3 q4 hK109 hQ n I F ⟨by omega, by omega⟩ ⟨by omega, by omega⟩ (by omega) (by omega) (by omega) (by assumption) (by first | exact zLb_i (by assumption) | exact zLb_st (by assumption) (by assumption) (by assumption) (by omega) (by omega) (by omega) (by omega)) (by omega)
set_option maxRecDepth 100000 in
set_option maxHeartbeats 4000000 in
theorem k_Thought_readInStorms_l45 {l2 : Int} {l3 : Int} {K128 : zi_M → Prop} {Q : Int → zi_M → Prop} {g0 : zi_M} (q3 : 2 ≤ l3 ∧ l3 ≤ 6) (hK128 : ∀ (g : zi_M), zk_I g → zk_fr fr_Thought_readInStorms g0 g → (zTb g (l3 + 1) 0) → K128 g) (hQ : ∀ g' : zi_M, zk_I g' → zk_fr fr_Thought_readInStorms g0 g' → (zTb g' (l2 + 1) 0) → Q 0 g') : ∀ (n : Nat) {l4 : Int} {g : zi_M}, zk_I g → zk_fr fr_Thought_readInStorms g0 g → (0 ≤ l4 ∧ l4 ≤ 11) → (zTb g l3 l4) → 11 - l4 < (n : Int) → w_Thought_readInStorms_l45 l3 K128 Q n l4 g
  | 0, l4, g, I, F, b0, b1, hm => by exfalso; omega
  | n + 1, l4, g, I, F, b0, b1, hm => by
    unfold w_Thought_readInStorms_l45
    have m_12 : 0 ≤ (g 36 12) ∧ (g 36 12) ≤ 12 := I.1 36 12
    refine ⟨⟨by omega, by omega⟩, ⟨by omega, by omega⟩, ?_⟩
    refine ⟨fun c36 => ?_, fun c36 => ?_⟩
    · exact hK128 _ I F (by exact zTb_x (by assumption) (by omega))
    · refine k_Told_minutes I ⟨by omega, by omega⟩ ⟨by omega, by omega⟩ (fun v17 b_13 b_14 => ?_)
      refine ⟨((12 - (l4 + 1) : Int).toNat + 1), k_Thought_readInStorms_l73 (l3 := l3) (l4 := l4) ⟨by omega, by omega⟩ ⟨by omega, by omega⟩ (fun k28 g29 I_18 F_19 b_20 b_21 b_22 => ?_) hQ ((12 - (l4 + 1) : Int).toNat + 1) I F ⟨by omega, by omega⟩ ⟨by omega, by omega⟩ (by omega) (by omega) (by omega) (by assumption) (by first | exact zLb_i (by assumption) | exact zLb_st (by assumption) (by assumption) (by assumption) (by omega) (by omega) (by omega) (by omega)) (by omega)⟩
      refine k_Thought_storm I_18 ⟨by omega, by omega⟩ (by omega) (fun v30 b_23 => ?_)
      refine ⟨⟨by omega, by omega⟩, ?_⟩
      intro g34 e_24
      have I_25 : zk_I g34 := by rw [e_24]; exact zk_upd (L := 0) (H := 720) rfl rfl I_18 ⟨by omega, by omega⟩
      have F_26 : zk_fr fr_Thought_readInStorms g0 g34 := by rw [e_24]; exact zk_fu F_19 rfl
      exact k_Thought_readInStorms_l45 q3 hK128 hQ n I_25 F_26 ⟨by omega, by omega⟩ (by first | assumption | exact zTb_st (by assumption) (by assumption) (by assumption) (by omega) (by assumption) (by omega) (by omega)) (by omega)
set_option maxRecDepth 100000 in
set_option maxHeartbeats 4000000 in
theorem k_Thought_readInStorms_l37 {l2 : Int} {K134 : zi_M → Prop} {Q : Int → zi_M → Prop} {g0 : zi_M} (q2 : 1 ≤ l2 ∧ l2 ≤ 6) (hK134 : ∀ (g : zi_M), zk_I g → zk_fr fr_Thought_readInStorms g0 g → (zTb g (l2 + 1) 0) → K134 g) (hQ : ∀ g' : zi_M, zk_I g' → zk_fr fr_Thought_readInStorms g0 g' → (zTb g' (l2 + 1) 0) → Q 0 g') : ∀ (n : Nat) {l3 : Int} {g : zi_M}, zk_I g → zk_fr fr_Thought_readInStorms g0 g → (2 ≤ l3 ∧ l3 ≤ 7) → (l3 ≤ l2 + 1) → (zTb g l3 0) → 7 - l3 < (n : Int) → w_Thought_readInStorms_l37 l2 K134 Q n l3 g
  | 0, l3, g, I, F, b0, b1, b2, hm => by exfalso; omega
  | n + 1, l3, g, I, F, b0, b1, b2, hm => by
    unfold w_Thought_readInStorms_l37
    refine ⟨⟨by omega, by omega⟩, ⟨by omega, by omega⟩, ?_⟩
    refine ⟨fun c39 => ?_, fun c39 => ?_⟩
    · exact hK134 _ I F (by exact zTb_e (by assumption) (by omega))
    · refine ⟨((11 - 0 : Int).toNat + 1), k_Thought_readInStorms_l45 (l3 := l3) ⟨by omega, by omega⟩ (fun g37 I_27 F_28 b_29 => ?_) hQ ((11 - 0 : Int).toNat + 1) I F ⟨by omega, by omega⟩ (by first | assumption | exact zTb_st (by assumption) (by assumption) (by assumption) (by omega) (by assumption) (by omega) (by omega)) (by omega)⟩
      exact k_Thought_readInStorms_l37 q2 hK134 hQ n I_27 F_28 ⟨by omega, by omega⟩ (by omega) (by first | assumption | exact zT1_x (by assumption) (by assumption) (by omega)) (by omega)
set_option maxRecDepth 100000 in
set_option maxHeartbeats 4000000 in
theorem k_Thought_readInStorms {l2 : Int} {g : zi_M} {Q : Int → zi_M → Prop} (I : zk_I g) (p2 : 1 ≤ l2 ∧ l2 ≤ 6) (hQ : ∀ g' : zi_M, zk_I g' → zk_fr fr_Thought_readInStorms g g' → (zTb g' (l2 + 1) 0) → Q 0 g') : w_Thought_readInStorms l2 g Q := by
  unfold w_Thought_readInStorms
  refine ⟨((13 - 0 : Int).toNat + 1), k_Thought_readInStorms_l2 (fun g12 I_9 F_10 b_11 => ?_) hQ ((13 - 0 : Int).toNat + 1) I (zk_f0 _) ⟨by omega, by omega⟩ (by first | exact zT1_0 | exact zT1_st (by assumption) (by assumption) (by omega) (by assumption) (by omega)) (by omega)⟩
  refine ⟨((7 - 2 : Int).toNat + 1), k_Thought_readInStorms_l37 (l2 := l2) ⟨by omega, by omega⟩ (fun g40 I_30 F_31 b_32 => ?_) hQ ((7 - 2 : Int).toNat + 1) I_9 F_10 ⟨by omega, by omega⟩ (by omega) (by first | assumption | exact zT1_x (by assumption) (by assumption) (by omega)) (by omega)⟩
  exact hQ _ I_30 F_31 (by assumption)
-- SpoutNews$Thought.leastSum(I)I
set_option maxRecDepth 100000 in
set_option maxHeartbeats 4000000 in
theorem k_Thought_leastSum {l1 : Int} {g : zi_M} {Q : Int → zi_M → Prop} (I : zk_I g) (p1 : 1 ≤ l1 ∧ l1 ≤ 6) (hQ : ∀ v : Int, (0 ≤ v ∧ v ≤ 720) → (v = g 189 (l1 * 13)) → Q v g) : w_Thought_leastSum l1 g Q := by
  unfold w_Thought_leastSum
  refine k_Thought_storm I ⟨by omega, by omega⟩ (by omega) (fun v1 b_1 => ?_)
  refine ⟨⟨by omega, by omega⟩, ?_⟩
  have m_2 : 0 ≤ (g 189 v1) ∧ (g 189 v1) ≤ 720 := I.1 189 v1
  exact hQ _ ⟨by omega, by omega⟩ (by exact zeq_at (by omega))
-- SpoutNews$Thought.secondStorm(LSpoutNews$Told;I)I
set_option maxRecDepth 100000 in
set_option maxHeartbeats 4000000 in
theorem k_Thought_secondStorm_l2 {g : zi_M} (I : zk_I g) {l2 : Int} {K35 : Int → zi_M → Prop} {K43 : zi_M → Prop} {Q : Int → zi_M → Prop} (q2 : 1 ≤ l2 ∧ l2 ≤ 6) (hK35 : ∀ (k3 : Int), (1 ≤ k3 ∧ k3 ≤ 11) → (2 ≤ l2) → (k3 ≤ g 36 12 - l2 + 1) → (zSe g l2 k3) → (∀ j : Int, 1 ≤ j → j < k3 → ¬ zSe g l2 j) → K35 k3 g) (hK43 : (l2 < 2 ∨ ∀ j : Int, 1 ≤ j → j ≤ g 36 12 - l2 + 1 → ¬ zSe g l2 j) → K43 g) (hQ : ∀ v : Int, ((-1) ≤ v ∧ v ≤ 11) → (¬ v = -1 → (2 ≤ l2 ∧ 1 ≤ v ∧ v ≤ g 36 12 - l2 + 1) ∧ zSe g l2 v ∧ ∀ j : Int, 1 ≤ j → j < v → ¬ zSe g l2 j) → (v = -1 → l2 < 2 ∨ ∀ j : Int, 1 ≤ j → j ≤ g 36 12 - l2 + 1 → ¬ zSe g l2 j) → Q v g) : ∀ (n : Nat) {l3 : Int}, (1 ≤ l3 ∧ l3 ≤ 12) → (∀ j : Int, 1 ≤ j → j < l3 → ¬ zSe g l2 j) → 12 - l3 < (n : Int) → w_Thought_secondStorm_l2 l2 K35 K43 Q n l3 g
  | 0, l3, b0, b1, hm => by exfalso; omega
  | n + 1, l3, b0, b1, hm => by
    unfold w_Thought_secondStorm_l2
    refine ⟨⟨by omega, by omega⟩, ?_⟩
    refine ⟨fun c14 => ?_, fun c14 => ?_⟩
    · have m_1 : 0 ≤ (g 36 12) ∧ (g 36 12) ≤ 12 := I.1 36 12
      exact hK43 (by first | exact Or.inl (by omega) | exact Or.inr (zSe_e (by assumption) (by omega)))
    · have m_2 : 0 ≤ (g 36 12) ∧ (g 36 12) ≤ 12 := I.1 36 12
      refine ⟨⟨by omega, by omega⟩, ⟨by omega, by omega⟩, ?_⟩
      refine ⟨fun c13 => ?_, fun c13 => ?_⟩
      · exact hK43 (by first | exact Or.inl (by omega) | exact Or.inr (zSe_e (by assumption) (by omega)))
      · refine k_Thought_greatestSum I ⟨by omega, by omega⟩ ⟨by omega, by omega⟩ ⟨by omega, by omega⟩ (fun v4 b_3 b_4 => ?_)
        have m_5 : 0 ≤ (g 189 (l2 * 13)) ∧ (g 189 (l2 * 13)) ≤ 720 := I.1 189 (l2 * 13)
        refine k_Thought_leastSum I ⟨by omega, by omega⟩ (fun v7 b_6 b_7 => ?_)
        refine ⟨⟨by omega, by omega⟩, ⟨by omega, by omega⟩, ?_⟩
        refine ⟨fun c12 => ?_, fun c12 => ?_⟩
        · exact k_Thought_secondStorm_l2 I q2 hK35 hK43 hQ n ⟨by omega, by omega⟩ (by first | (intro j j1 j2; exfalso; omega) | exact zSe_st (by assumption) (by assumption) (by assumption) (by omega) (by assumption)) (by omega)
        · exact hK35 _ ⟨by omega, by omega⟩ (by omega) (by omega) (by exact zSe_f (by assumption) (by assumption) (by omega) (by assumption)) (by assumption)
set_option maxRecDepth 100000 in
set_option maxHeartbeats 4000000 in
theorem k_Thought_secondStorm {l2 : Int} {g : zi_M} {Q : Int → zi_M → Prop} (I : zk_I g) (p2 : 1 ≤ l2 ∧ l2 ≤ 6) (hQ : ∀ v : Int, ((-1) ≤ v ∧ v ≤ 11) → (¬ v = -1 → (2 ≤ l2 ∧ 1 ≤ v ∧ v ≤ g 36 12 - l2 + 1) ∧ zSe g l2 v ∧ ∀ j : Int, 1 ≤ j → j < v → ¬ zSe g l2 j) → (v = -1 → l2 < 2 ∨ ∀ j : Int, 1 ≤ j → j ≤ g 36 12 - l2 + 1 → ¬ zSe g l2 j) → Q v g) : w_Thought_secondStorm l2 g Q := by
  unfold w_Thought_secondStorm
  refine ⟨((12 - 1 : Int).toNat + 1), k_Thought_secondStorm_l2 (l2 := l2) I ⟨by omega, by omega⟩ (fun k15 b_8 b_9 b_10 b_11 b_12 => ?_) (fun b_13 => ?_) hQ ((12 - 1 : Int).toNat + 1) ⟨by omega, by omega⟩ (by first | (intro j j1 j2; exfalso; omega) | exact zSe_st (by assumption) (by assumption) (by assumption) (by omega) (by assumption)) (by omega)⟩
  · exact hQ _ ⟨by omega, by omega⟩ (by intro hv; first | (exfalso; omega) | exact ⟨⟨by omega, by omega, by omega⟩, by assumption, by assumption⟩) (by intro hv; first | assumption | (exfalso; omega))
  · exact hQ _ ⟨by omega, by omega⟩ (by intro hv; first | (exfalso; omega) | exact ⟨⟨by omega, by omega, by omega⟩, by assumption, by assumption⟩) (by intro hv; first | assumption | (exfalso; omega))
-- SpoutNews.read(II)I
theorem k_S_read {l1 : Int} {l2 : Int} {g : zi_M} {Q : Int → zi_M → Prop} (I : zk_I g) (p1 : (-2147483648) ≤ l1 ∧ l1 ≤ 2147483647) (p2 : (-2147483648) ≤ l2 ∧ l2 ≤ 2147483647) (hQ : ∀ (v : Int) (g' : zi_M), zk_I g' → zk_fr fr_S_read g g' → ((-1) ≤ v ∧ v ≤ 720) → (¬ ((1 ≤ l1 ∧ l1 ≤ 6 ∧ l1 ≤ g 36 12) ∧ (l2 = 0 ∨ l2 = 1)) → v = -1) → (1 ≤ l1 ∧ l1 ≤ 6 ∧ l1 ≤ g 36 12 → l2 = 0 → v = zDP (g 45) (g 36 12) l1.toNat 0) → (1 ≤ l1 ∧ l1 ≤ 6 ∧ l1 ≤ g 36 12 → l2 = 1 → l1 = 1 → v = -1) → (1 ≤ l1 ∧ l1 ≤ 6 ∧ l1 ≤ g 36 12 → l2 = 1 → 2 ≤ l1 → (1 ≤ v ∧ v ≤ g 36 12) ∧ zFs (g 45) (g 36 12) l1.toNat v ∧ ∀ j : Int, 1 ≤ j → j < v → ¬ zFs (g 45) (g 36 12) l1.toNat j) → Q v g') : w_S_read l1 l2 g Q := by
  have c12 : 0 ≤ g 36 12 ∧ g 36 12 ≤ 12 := I.1 36 12
  have b36 : (1 ≤ l1 ∧ l1 ≤ 6 ∧ l1 ≤ g 36 12) → (l2 = 0 ∨ l2 = 1) → w_S_read_b36 l1 l2 g Q := by
    intro ok h2
    unfold w_S_read_b36
    refine k_Thought_readInStorms I ⟨by omega, by omega⟩ (fun g5 I5 F5 T5 => ?_)
    have F4 : zk_fr fr_S_read g g5 := fun a i h => F5 a i h
    have e45 : g5 45 = g 45 := funext (fun i => F5 45 i (by unfold fr_Thought_readInStorms; decide))
    have e36 : g5 36 12 = g 36 12 := F5 36 12 (by unfold fr_Thought_readInStorms; decide)
    refine ⟨⟨by omega, by omega⟩, fun c => ?_, fun c => ?_⟩
    · refine k_Thought_secondStorm I5 ⟨by omega, by omega⟩ (fun v8 b5 d1 d2 => ?_)
      rw [e36] at d1 d2
      refine hQ _ _ I5 F4 ⟨by omega, by omega⟩ (fun h => absurd ⟨ok, h2⟩ h) (fun _ h => absurd h c) (fun _ _ h1 => ?_) (fun _ _ h1 => ?_)
      · by_cases q : v8 = -1
        · exact q
        · have := (d1 q).1.1
          exfalso; omega
      · by_cases q : v8 = -1
        · exfalso
          rcases d2 q with w | w
          · omega
          · obtain ⟨j, j1, j2, j3⟩ := zFs_ex (zf45 I) c12.2 (k := l1.toNat) (by omega) (by omega)
            exact w j j1 (by omega) ((zSe_Fs e45 e36 T5 h1 ok.2.2 j1 (by omega)).mpr j3)
        · obtain ⟨⟨a1, a2, a3⟩, a4, a5⟩ := d1 q
          exact ⟨⟨a2, by omega⟩, (zSe_Fs e45 e36 T5 h1 ok.2.2 a2 a3).mp a4, fun j j1 j2 w => a5 j j1 j2 ((zSe_Fs e45 e36 T5 h1 ok.2.2 j1 (by omega)).mpr w)⟩
    · refine k_Thought_leastSum I5 ⟨by omega, by omega⟩ (fun v11 b6 e6 => ?_)
      refine hQ _ _ I5 F4 ⟨by omega, by omega⟩ (fun h => absurd ⟨ok, h2⟩ h) (fun _ _ => ?_) (fun _ h => by omega) (fun _ h => by omega)
      have t := T5 l1 0 (by omega) (by decide) (by omega) (Or.inl (by omega))
      rw [Int.add_zero, e45, e36] at t
      rw [e6, t]
  have no : ¬ ((1 ≤ l1 ∧ l1 ≤ 6 ∧ l1 ≤ g 36 12) ∧ (l2 = 0 ∨ l2 = 1)) → Q (-1) g := fun h => hQ _ _ I (zk_f0 _) ⟨by omega, by omega⟩ (fun _ => rfl) (fun a b => absurd ⟨a, Or.inl b⟩ h) (fun _ _ _ => rfl) (fun a b => absurd ⟨a, Or.inr b⟩ h)
  unfold w_S_read
  exact ⟨⟨by omega, by omega⟩, fun c => no (by omega), fun c1 => ⟨fun c => no (by omega), fun c2 => ⟨⟨by omega, by omega⟩, fun c => no (by omega), fun c3 => ⟨⟨by omega, by omega⟩, fun c => b36 ⟨c1, c2, c3⟩ (Or.inl c), fun c => ⟨fun d => b36 ⟨c1, c2, c3⟩ (Or.inr d), fun d => no (by omega)⟩⟩⟩⟩⟩

-- SpoutNewsModel.minutesOf(II)I
theorem k_M_minutesOf_l5 {g : zi_M} {l1 l2 : Int} {K : Int → zi_M → Prop} {Q : Int → zi_M → Prop} (I : zk_I g) (p1 : 0 ≤ l1 ∧ l1 ≤ 12) (p2 : 1 ≤ l2 ∧ l2 ≤ 12) (hK : ∀ v, 0 ≤ v → v ≤ 720 → v = zmin g l1 l2 → K v g) :
    ∀ (n : Nat) (l3 l4 : Int), l1 ≤ l4 → (l4 ≤ l2 ∨ l4 = l1) → l3 = zmin g l1 l4 → 0 ≤ l3 → l3 ≤ 60 * (l4 - l1) → 12 - l4 < (n : Int) → w_M_minutesOf_l5 l2 K Q n l3 l4 g
  | 0, l3, l4, h1, h2, h3, h4, h5, hm => by exfalso; omega
  | n + 1, l3, l4, h1, h2, h3, h4, h5, hm => by
    unfold w_M_minutesOf_l5
    refine ⟨⟨by omega, by omega⟩, ⟨by omega, by omega⟩, fun h => hK l3 h4 (by omega) ?_, fun h => ⟨⟨by omega, by omega⟩, ?_⟩⟩
    · rcases h2 with q | q
      · rw [h3, show l4 = l2 by omega]
      · rw [h3, q, zmin_0 (Int.le_refl _), zmin_0 (by omega)]
    · have r : 0 ≤ g 248 l4 ∧ g 248 l4 ≤ 60 := I.1 248 l4
      exact k_M_minutesOf_l5 I p1 p2 hK n _ (l4 + 1) (by omega) (by omega) (by rw [zmin_s h1, h3]) (by omega) (by omega) (by omega)
theorem k_M_minutesOf {l1 : Int} {l2 : Int} {g : zi_M} {Q : Int → zi_M → Prop} (I : zk_I g) (p1 : 0 ≤ l1 ∧ l1 ≤ 12) (p2 : 1 ≤ l2 ∧ l2 ≤ 12) (hQ : ∀ v : Int, (0 ≤ v ∧ v ≤ 720) → (v = zmin g l1 l2) → (v = zSm (g 248) l1 l2) → Q v g) : w_M_minutesOf l1 l2 g Q := by
  unfold w_M_minutesOf
  exact ⟨13, k_M_minutesOf_l5 I p1 p2 (fun v h0 h1 h => hQ v ⟨h0, h1⟩ h (by rw [h, zmin_eq])) 13 0 l1 (Int.le_refl _) (Or.inr rfl) (zmin_0 (Int.le_refl _)).symm (by decide) (by omega) (by omega)⟩

-- SpoutNewsModel.findsRead(I)V
theorem k_M_findsRead_l50 {g : zi_M} {k l2 l3 : Int} {K : Int → zi_M → Prop} {Q : Int → zi_M → Prop} (I : zk_I g) (q2 : 0 ≤ l2 ∧ l2 ≤ 12) (q3 : 1 ≤ l3 ∧ l3 ≤ 6) (qk : l3 ≤ k) (hz : zMb g k l2) (hl : l2 ≤ g 214 58) (hK : ∀ v, 0 ≤ v → v ≤ 100000000 → v = zDP (g 248) (g 214 58) l3.toNat l2 → K v g) :
    ∀ (n : Nat) (l4 l5 : Int), 0 ≤ l4 → l4 ≤ 100000000 → l2 + 1 ≤ l5 → l5 ≤ g 214 58 + 1 → l4 = zLo (g 248) (zDP (g 248) (g 214 58) (l3 - 1).toNat) l2 (l5 - l2 - 1).toNat → 13 - l5 < (n : Int) → w_M_findsRead_l50 l2 l3 K Q n l4 l5 g
  | 0, l4, l5, h0, h1, h2, h3, h4, hm => by
    have c : 0 ≤ g 214 58 ∧ g 214 58 ≤ 12 := I.1 214 58
    exfalso; omega
  | n + 1, l4, l5, h0, h1, h2, h3, h4, hm => by
    have c : 0 ≤ g 214 58 ∧ g 214 58 ≤ 12 := I.1 214 58
    unfold w_M_findsRead_l50
    refine ⟨⟨by omega, by omega⟩, zk_rng I _ _, fun h => hK l4 h0 h1 (zDP_sx q3.1 ?_), fun h => ?_⟩
    · rw [h4, show l5 - l2 - 1 = g 214 58 - l2 by omega]
    · refine k_M_minutesOf I ⟨q2.1, by omega⟩ ⟨by omega, by omega⟩ (fun v9 r9 e8 e9 => ⟨⟨by omega, by omega⟩, ?_⟩)
      have rf : 0 ≤ g 249 (7 * l5 + l3 - 1) ∧ g 249 (7 * l5 + l3 - 1) ≤ 100000000 := I.1 249 _
      have ez := hz l5 (l3 - 1) (by omega) (by omega) (by omega) (by omega)
      rw [show 7 * l5 + (l3 - 1) = 7 * l5 + l3 - 1 by omega] at ez
      clear e8
      refine k_M_greater I ⟨by omega, by omega⟩ ⟨by omega, by omega⟩ (fun v13 a1 a2 => ?_)
      have e13 : v13 = max (zSm (g 248) l2 l5) (zDP (g 248) (g 214 58) (l3 - 1).toNat l5) := by rw [← e9, ← ez]; omega
      refine k_M_lesser I ⟨by omega, by omega⟩ ⟨by omega, by omega⟩ (fun v16 b1 b2 => ?_)
      exact k_M_findsRead_l50 I q2 q3 qk hz hl hK n v16 (l5 + 1) (by omega) (by omega) (by omega) (by omega) (zLo_st h4 e13 h2 (by omega)) (by omega)
theorem k_M_findsRead_l35 {g0 : zi_M} {l1 l2 : Int} {K : zi_M → Prop} {Q : Int → zi_M → Prop} (q1 : 1 ≤ l1 ∧ l1 ≤ 6) (q2 : 0 ≤ l2 ∧ l2 ≤ 12) (hK : ∀ g, zk_I g → zk_fr fr_M_findsRead g0 g → zMb g l1 (l2 + (-1)) → K g) :
    ∀ (n : Nat) (l3 : Int) (g : zi_M), zk_I g → zk_fr fr_M_findsRead g0 g → 1 ≤ l3 → l3 ≤ 7 → zMm g l1 l2 l3 → l2 ≤ g 214 58 → 7 - l3 < (n : Int) → w_M_findsRead_l35 l1 l2 K Q n l3 g
  | 0, l3, g, I, F, h0, h1, h2, h3, hm => by exfalso; omega
  | n + 1, l3, g, I, F, h0, h1, h2, h3, hm => by
    have c : 0 ≤ g 214 58 ∧ g 214 58 ≤ 12 := I.1 214 58
    unfold w_M_findsRead_l35
    refine ⟨⟨by omega, by omega⟩, ⟨by omega, by omega⟩, fun h => hK g I F (zMm_x h2 h), fun h => ⟨14, ?_⟩⟩
    refine k_M_findsRead_l50 I q2 ⟨h0, by omega⟩ (by omega) h2.1 h3 (fun v v0 v1 hv => ⟨⟨by omega, by omega⟩, ?_⟩) 14 100000000 (l2 + 1) (by decide) (by decide) (Int.le_refl _) (by omega) (by rw [show (l2 + 1 - l2 - 1).toNat = 0 by omega]; rfl) (by omega)
    intro g23 e23
    have I23 : zk_I g23 := by rw [e23]; exact zk_upd (L := 0) (H := 100000000) rfl rfl I ⟨v0, v1⟩
    have F23 : zk_fr fr_M_findsRead g0 g23 := by rw [e23]; exact zk_fu F rfl
    refine k_M_findsRead_l35 q1 q2 hK n (l3 + 1) g23 I23 F23 (by omega) (by omega) (zMm_st h2 e23 rfl hv ⟨by omega, by omega⟩ q1.2) (by rw [zv_58 e23]; exact h3) (by omega)
theorem k_M_findsRead_l5 {g0 : zi_M} {l1 : Int} {K : zi_M → Prop} {Q : Int → zi_M → Prop} (q1 : 1 ≤ l1 ∧ l1 ≤ 6) (hK : ∀ g, zk_I g → zk_fr fr_M_findsRead g0 g → zMb g l1 (-1) → K g) :
    ∀ (n : Nat) (l2 : Int) (g : zi_M), zk_I g → zk_fr fr_M_findsRead g0 g → -1 ≤ l2 → l2 ≤ 12 → l2 ≤ g 214 58 → zMb g l1 l2 → l2 + 1 < (n : Int) → w_M_findsRead_l5 l1 K Q n l2 g
  | 0, l2, g, I, F, h0, h1, h2, h3, hm => by exfalso; omega
  | n + 1, l2, g, I, F, h0, h1, h2, h3, hm => by
    unfold w_M_findsRead_l5
    have fin : 0 ≤ l2 → ∀ (v : Int) (g4 : zi_M), 0 ≤ v → v ≤ 100000000 → v = zDP (g 248) (g 214 58) 0 l2 → g4 = zi_u g 249 (7 * l2) v → (∃ f, w_M_findsRead_l35 l1 l2 (fun g26 => w_M_findsRead_l5 l1 K Q n (l2 + (-1)) g26) Q f 1 g4) := by
      intro hl v g4 v0 v1 ev e4
      have I4 : zk_I g4 := by rw [e4]; exact zk_upd (L := 0) (H := 100000000) rfl rfl I ⟨v0, v1⟩
      have F4 : zk_fr fr_M_findsRead g0 g4 := by rw [e4]; exact zk_fu F rfl
      refine ⟨7, k_M_findsRead_l35 q1 ⟨hl, h1⟩ (fun g' I' F' h' => ?_) 7 1 g4 I4 F4 (by decide) (by decide) (zMm_0 h3 e4 rfl ev q1.2) (by rw [zv_58 e4]; exact h2) (by decide)⟩
      have e58 : g' 214 58 = g 214 58 := (F' 214 58 (by unfold fr_M_findsRead; decide)).trans (F 214 58 (by unfold fr_M_findsRead; decide)).symm
      exact k_M_findsRead_l5 q1 hK n (l2 + (-1)) g' I' F' (by omega) (by omega) (by omega) h' (by omega)
    refine ⟨⟨by omega, by omega⟩, fun h => hK g I F (by rw [show (-1 : Int) = l2 by omega]; exact h3), fun h => ⟨zk_rng I _ _, fun c => ⟨⟨by omega, by omega⟩, fun g4 e4 => fin h _ g4 (by decide) (by decide) (by show (100000000 : Int) = if l2 = g 214 58 then 0 else 100000000; rw [if_neg c]) e4⟩, fun c => ⟨⟨by omega, by omega⟩, fun g4 e4 => fin h _ g4 (by decide) (by decide) (by show (0 : Int) = if l2 = g 214 58 then 0 else 100000000; rw [if_pos c]) e4⟩⟩⟩
theorem k_M_findsRead {l1 : Int} {g : zi_M} {Q : Int → zi_M → Prop} (I : zk_I g) (p1 : 1 ≤ l1 ∧ l1 ≤ 6) (hQ : ∀ g' : zi_M, zk_I g' → zk_fr fr_M_findsRead g g' → (zMb g' l1 (-1)) → Q 0 g') : w_M_findsRead l1 g Q := by
  unfold w_M_findsRead
  have c : 0 ≤ g 214 58 ∧ g 214 58 ≤ 12 := I.1 214 58
  exact ⟨14, k_M_findsRead_l5 p1 (fun g' I' F' h => hQ g' I' F' h) 14 (g 214 58) g I (zk_f0 _) (by omega) c.2 (Int.le_refl _) (fun a l h0 h1 => by exfalso; omega) (by omega)⟩

