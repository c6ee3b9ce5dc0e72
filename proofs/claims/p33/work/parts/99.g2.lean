-- drafts
-- M.onesOf
set_option maxRecDepth 100000 in
set_option maxHeartbeats 4000000 in
theorem y_M_onesOf_l4 {l1 : Int} {g : zi_M} (I : zk_I g) {x1 : Int} {K21 : Int → zi_M → Prop} {Q : Int → zi_M → Prop} (hK21 : ∀ (k2 : Int), (0 ≤ k2 ∧ k2 ≤ 65535) → (k2 = zpc x1 z16) → K21 k2 g) (hQ : ∀ v : Int, (0 ≤ v ∧ v ≤ 65535) → (v = zpc l1 z16) → Q v g) : ∀ (n : Nat) {l2 : Int} {l3 : Int}, (0 ≤ l2 ∧ l2 ≤ 65535) → (0 ≤ l3 ∧ l3 ≤ 65535) → (l2 + l3 ≤ 65535) → (l2 + zpc l3 z16 = zpc x1 z16) → l3 < (n : Int) → w_M_onesOf_l4 K21 Q n l2 l3 g
  | 0, l2, l3, b0, b1, b2, b3, hm => by exfalso; omega
  | n + 1, l2, l3, b0, b1, b2, b3, hm => by
    unfold w_M_onesOf_l4
    refine ⟨⟨by omega, by omega⟩, ?_⟩
    refine ⟨fun c2 => ?_, fun c2 => ?_⟩
    · exact hK21 _ ⟨by omega, by omega⟩ (by exact zpd_x (by assumption) (by assumption))
    · have m_1 := zi_r_and l3 (l3 - 1)
      try have m_2 := (zi_and_f l3 (l3 - 1)).2.1 ⟨by omega, by omega⟩
      try have m_3 := (zi_and_f l3 (l3 - 1)).2.2 ⟨by omega, by omega⟩
      exact y_M_onesOf_l4 I hK21 hQ n ⟨by omega, by omega⟩ ⟨by omega, by omega⟩ (by omega) (by first | exact Int.zero_add _ | exact zpd_st (by assumption) (by assumption) (by assumption)) (by omega)
set_option maxRecDepth 100000 in
set_option maxHeartbeats 4000000 in
theorem y_M_onesOf {l1 : Int} {g : zi_M} {Q : Int → zi_M → Prop} (I : zk_I g) (p1 : 0 ≤ l1 ∧ l1 ≤ 65535) (hQ : ∀ v : Int, (0 ≤ v ∧ v ≤ 65535) → (v = zpc l1 z16) → Q v g) : w_M_onesOf l1 g Q := by
  unfold w_M_onesOf
  refine ⟨((l1 : Int).toNat + 1), y_M_onesOf_l4 (x1 := l1) I (fun k3 b_4 b_5 => ?_) hQ ((l1 : Int).toNat + 1) ⟨by omega, by omega⟩ ⟨by omega, by omega⟩ (by omega) (by first | exact Int.zero_add _ | exact zpd_st (by assumption) (by assumption) (by assumption)) (by omega)⟩
  exact hQ _ ⟨by omega, by omega⟩ (by assumption)
-- M.besideAll
set_option maxRecDepth 100000 in
set_option maxHeartbeats 4000000 in
theorem y_M_besideAll_l4 {g : zi_M} (I : zk_I g) {l1 : Int} {K34 : Int → zi_M → Prop} {Q : Int → zi_M → Prop} (q1 : 0 ≤ l1 ∧ l1 ≤ 1023) (hK34 : ∀ (k2 : Int), (0 ≤ k2 ∧ k2 ≤ 1023) → (zqN (g 242) l1 10 k2) → K34 k2 g) (hQ : ∀ v : Int, (0 ≤ v ∧ v ≤ 1023) → (zqN (g 242) l1 10 v) → Q v g) : ∀ (n : Nat) {l2 : Int} {l3 : Int}, (0 ≤ l2 ∧ l2 ≤ 1023) → (0 ≤ l3 ∧ l3 ≤ 10) → (zqN (g 242) l1 l3 l2) → 10 - l3 < (n : Int) → w_M_besideAll_l4 l1 K34 Q n l2 l3 g
  | 0, l2, l3, b0, b1, b2, hm => by exfalso; omega
  | n + 1, l2, l3, b0, b1, b2, hm => by
    unfold w_M_besideAll_l4
    refine ⟨⟨by omega, by omega⟩, ?_⟩
    refine ⟨fun c7 => ?_, fun c7 => ?_⟩
    · exact hK34 _ ⟨by omega, by omega⟩ (by rw [show (10 : Int) = l3 by omega]; assumption)
    · have m_3 := zi_r_shr (l1) (l3)
      try have m_4 := (zi_shr_f (l1) (l3)).2 ⟨by omega, by omega⟩
      have m_5 := zi_r_and (zi_shr l1 l3) 1
      try have m_6 := (zi_and_f (zi_shr l1 l3) 1).2.1 ⟨by omega, by omega⟩
      try have m_7 := (zi_and_f (zi_shr l1 l3) 1).2.2 ⟨by omega, by omega⟩
      refine k_M_has I ⟨by omega, by omega⟩ ⟨by omega, by omega⟩ (fun v2 b_1 b_2 => ?_)
      refine ⟨fun c6 => ?_, fun c6 => ?_⟩
      · exact y_M_besideAll_l4 I q1 hK34 hQ n ⟨by omega, by omega⟩ ⟨by omega, by omega⟩ (by first | exact zqN_0 | exact zqN_a (by assumption) (by assumption) (by assumption) (by assumption) (by omega) (by omega) | exact zqN_b (by assumption) (by assumption) (by assumption) (by assumption) (by omega) (by omega) (by assumption) (by assumption)) (by omega)
      · refine ⟨⟨by omega, by omega⟩, ?_⟩
        have m_8 : 0 ≤ (g 242 l3) ∧ (g 242 l3) ≤ 1023 := I.1 242 l3
        first | have m_9 := (zi_or_f l2 (g 242 l3)).2.1 ⟨by omega, by omega, by omega, by omega⟩ | have m_9 := (zi_or_f l2 (g 242 l3)).2.2.1 ⟨by omega, by omega, by omega, by omega⟩ | have m_9 := (zi_or_f l2 (g 242 l3)).2.2.2.1 ⟨by omega, by omega, by omega, by omega⟩ | have m_9 := (zi_or_f l2 (g 242 l3)).2.2.2.2.1 ⟨by omega, by omega, by omega, by omega⟩ | have m_9 := (zi_or_f l2 (g 242 l3)).2.2.2.2.2 ⟨by omega, by omega, by omega, by omega⟩ | have m_9 := zi_r_or l2 (g 242 l3)
        exact y_M_besideAll_l4 I q1 hK34 hQ n ⟨by omega, by omega⟩ ⟨by omega, by omega⟩ (by first | exact zqN_0 | exact zqN_a (by assumption) (by assumption) (by assumption) (by assumption) (by omega) (by omega) | exact zqN_b (by assumption) (by assumption) (by assumption) (by assumption) (by omega) (by omega) (by assumption) (by assumption)) (by omega)
set_option maxRecDepth 100000 in
set_option maxHeartbeats 4000000 in
theorem y_M_besideAll {l1 : Int} {g : zi_M} {Q : Int → zi_M → Prop} (I : zk_I g) (p1 : 0 ≤ l1 ∧ l1 ≤ 1023) (hQ : ∀ v : Int, (0 ≤ v ∧ v ≤ 1023) → (zqN (g 242) l1 10 v) → Q v g) : w_M_besideAll l1 g Q := by
  unfold w_M_besideAll
  refine ⟨((10 - 0 : Int).toNat + 1), y_M_besideAll_l4 (l1 := l1) I ⟨by omega, by omega⟩ (fun k8 b_10 b_11 => ?_) hQ ((10 - 0 : Int).toNat + 1) ⟨by omega, by omega⟩ ⟨by omega, by omega⟩ (by first | exact zqN_0 | exact zqN_a (by assumption) (by assumption) (by assumption) (by assumption) (by omega) (by omega) | exact zqN_b (by assumption) (by assumption) (by assumption) (by assumption) (by omega) (by omega) (by assumption) (by assumption)) (by omega)⟩
  exact hQ _ ⟨by omega, by omega⟩ (by assumption)
-- M.sideFrom
set_option maxRecDepth 100000 in
set_option maxHeartbeats 4000000 in
theorem y_M_sideFrom_l10 {l1 : Int} {l2 : Int} {g : zi_M} (I : zk_I g) {x1 : Int} {K42 : Int → Int → zi_M → Prop} {Q : Int → zi_M → Prop} (hK42 : ∀ (k3 : Int) (k4 : Int), (0 ≤ k3 ∧ k3 ≤ 1023) → (0 ≤ k4 ∧ k4 ≤ 1023) → (zqR (zqM (g 242)) x1 10 k3 k4) → K42 k3 k4 g) (hQ : ∀ v : Int, (0 ≤ v ∧ v ≤ 1023) → (l2 = 0 → zqG (zqM (g 242)) → zqS (zqM (g 242)) 1 l1 v) → (¬ l2 = 0 → zqG (zqM (g 242)) → zqS (zqM (g 242)) 0 l1 v) → Q v g) : ∀ (n : Nat) {l3 : Int} {l4 : Int} {l5 : Int}, (0 ≤ l3 ∧ l3 ≤ 1023) → (0 ≤ l4 ∧ l4 ≤ 1023) → (0 ≤ l5 ∧ l5 ≤ 10) → (zqR (zqM (g 242)) x1 l5.toNat l3 l4) → 10 - l5 < (n : Int) → w_M_sideFrom_l10 K42 Q n l3 l4 l5 g
  | 0, l3, l4, l5, b0, b1, b2, b3, hm => by exfalso; omega
  | n + 1, l3, l4, l5, b0, b1, b2, b3, hm => by
    unfold w_M_sideFrom_l10
    refine ⟨⟨by omega, by omega⟩, ?_⟩
    refine ⟨fun c8 => ?_, fun c8 => ?_⟩
    · exact hK42 _ _ ⟨by omega, by omega⟩ ⟨by omega, by omega⟩ (by rw [show (10 : Nat) = l5.toNat by omega]; assumption)
    · refine y_M_besideAll I ⟨by omega, by omega⟩ (fun v2 b_1 b_2 => ?_)
      first | have m_3 := (zi_or_f l4 v2).2.1 ⟨by omega, by omega, by omega, by omega⟩ | have m_3 := (zi_or_f l4 v2).2.2.1 ⟨by omega, by omega, by omega, by omega⟩ | have m_3 := (zi_or_f l4 v2).2.2.2.1 ⟨by omega, by omega, by omega, by omega⟩ | have m_3 := (zi_or_f l4 v2).2.2.2.2.1 ⟨by omega, by omega, by omega, by omega⟩ | have m_3 := (zi_or_f l4 v2).2.2.2.2.2 ⟨by omega, by omega, by omega, by omega⟩ | have m_3 := zi_r_or l4 v2
      refine y_M_besideAll I ⟨by omega, by omega⟩ (fun v5 b_4 b_5 => ?_)
      first | have m_6 := (zi_or_f l3 v5).2.1 ⟨by omega, by omega, by omega, by omega⟩ | have m_6 := (zi_or_f l3 v5).2.2.1 ⟨by omega, by omega, by omega, by omega⟩ | have m_6 := (zi_or_f l3 v5).2.2.2.1 ⟨by omega, by omega, by omega, by omega⟩ | have m_6 := (zi_or_f l3 v5).2.2.2.2.1 ⟨by omega, by omega, by omega, by omega⟩ | have m_6 := (zi_or_f l3 v5).2.2.2.2.2 ⟨by omega, by omega, by omega, by omega⟩ | have m_6 := zi_r_or l3 v5
      exact y_M_sideFrom_l10 I hK42 hQ n ⟨by omega, by omega⟩ ⟨by omega, by omega⟩ ⟨by omega, by omega⟩ (by first | exact zqR_st b3 (by assumption) (by assumption) (by omega) (by assumption) (by assumption) (by assumption) (by assumption) | exact zqR_0 (by assumption)) (by omega)
set_option maxRecDepth 100000 in
set_option maxHeartbeats 4000000 in
theorem y_M_sideFrom {l1 : Int} {l2 : Int} {g : zi_M} {Q : Int → zi_M → Prop} (I : zk_I g) (p1 : 0 ≤ l1 ∧ l1 ≤ 9) (p2 : 0 ≤ l2 ∧ l2 ≤ 1) (hQ : ∀ v : Int, (0 ≤ v ∧ v ≤ 1023) → (l2 = 0 → zqG (zqM (g 242)) → zqS (zqM (g 242)) 1 l1 v) → (¬ l2 = 0 → zqG (zqM (g 242)) → zqS (zqM (g 242)) 0 l1 v) → Q v g) : w_M_sideFrom l1 l2 g Q := by
  unfold w_M_sideFrom
  have m_10 := zi_r_shl 1 l1
  try have m_11 := (zi_shl_f l1).2.1 ⟨by omega, by omega⟩
  first | have m_12 := (zi_shl_f l1).2.2.1 ⟨by omega, by omega⟩ | have m_13 := (zi_shl_f l1).2.2.2.1 ⟨by omega, by omega⟩ | have m_14 := (zi_shl_f l1).2.2.2.2.1 ⟨by omega, by omega⟩ | have m_15 := (zi_shl_f l1).2.2.2.2.2.1 ⟨by omega, by omega⟩ | have m_16 := (zi_shl_f l1).2.2.2.2.2.2 ⟨by omega, by omega⟩ | skip
  refine ⟨((10 - 0 : Int).toNat + 1), y_M_sideFrom_l10 (x1 := l1) I (fun k9 k10 b_7 b_8 b_9 => ?_) hQ ((10 - 0 : Int).toNat + 1) ⟨by omega, by omega⟩ ⟨by omega, by omega⟩ ⟨by omega, by omega⟩ (by first | exact zqR_st b3 (by assumption) (by assumption) (by omega) (by assumption) (by assumption) (by assumption) (by assumption) | exact zqR_0 (by assumption)) (by omega)⟩
  refine ⟨⟨by omega, by omega⟩, ?_⟩
  refine ⟨fun c13 => ?_, fun c13 => ?_⟩
  · exact hQ _ ⟨by omega, by omega⟩ (by intro hl; first | (exfalso; omega) | exact zqS_o (by assumption) (by assumption)) (by intro hl; first | (exfalso; omega) | exact zqS_e (by assumption) (by assumption))
  · exact hQ _ ⟨by omega, by omega⟩ (by intro hl; first | (exfalso; omega) | exact zqS_o (by assumption) (by assumption)) (by intro hl; first | (exfalso; omega) | exact zqS_e (by assumption) (by assumption))
-- M.parts
set_option maxRecDepth 100000 in
set_option maxHeartbeats 4000000 in
theorem y_M_parts_b101 {l1 : Int} {l2 : Int} {l3 : Int} {l4 : Int} {l5 : Int} {l6 : Int} {l7 : Int} {H : Int → Int → Int → Int → zi_M → Prop} {K99 : zi_M → Prop} {K128 : Int → Int → zi_M → Prop} {Q : Int → zi_M → Prop} {g : zi_M} {g0 : zi_M} (I : zk_I g) (F : zk_fr fr_M_parts g0 g) (p1 : (-2147483648) ≤ l1 ∧ l1 ≤ 2147483647) (p2 : 0 ≤ l2 ∧ l2 ≤ 1023) (p3 : 1 ≤ l3 ∧ l3 ≤ 10) (p4 : 0 ≤ l4 ∧ l4 ≤ 700000) (p5 : 0 ≤ l5 ∧ l5 ≤ 9) (p6 : 0 ≤ l6 ∧ l6 ≤ 1023) (p7 : 0 ≤ l7 ∧ l7 ≤ 1023) (ix0 : l3 ≤ l5 + 1) (ix1 : l4 ≤ 65535 * l5) (ix2 : zqG (zqM (g0 242)) → zqPb (zqM (g0 242)) l1 l2 l3 l4 l5 l6 l7) (M : Int) (hM : 10 - l5 ≤ M) (hH : ∀ (m2 : Int) (m3 : Int) (m4 : Int) (m5 : Int) (g : zi_M), zk_I g → zk_fr fr_M_parts g0 g → (0 ≤ m2 ∧ m2 ≤ 1023) → (0 ≤ m3 ∧ m3 ≤ 10) → (0 ≤ m4 ∧ m4 ≤ 700000) → (0 ≤ m5 ∧ m5 ≤ 10) → (m3 ≤ m5) → (m4 ≤ 65535 * m5) → (zqG (zqM (g0 242)) → zqP (zqM (g0 242)) l1 m2 m3 m4 m5) → 10 - m5 < M → H m2 m3 m4 m5 g) (hK99 : ∀ (g : zi_M), zk_I g → zk_fr fr_M_parts g0 g → (l1 = 0) → (zqG (zqM (g0 242)) → ¬ zqB (zqM (g0 242))) → K99 g) (hK128 : ∀ (k3 : Int) (k4 : Int) (g : zi_M), zk_I g → zk_fr fr_M_parts g0 g → (0 ≤ k3 ∧ k3 ≤ 10) → (0 ≤ k4 ∧ k4 ≤ 700000) → (zqG (zqM (g0 242)) → zqF (zqM (g0 242)) l1 k3 k4) → K128 k3 k4 g) (hQ : ∀ (v : Int) (g' : zi_M), zk_I g' → zk_fr fr_M_parts g0 g' → ((-1) ≤ v ∧ v ≤ 700000) → (zqG (zqM (g0 242)) → zqO (zqM (g0 242)) l1 v) → Q v g') : w_M_parts_b101 l1 l2 l3 l4 l5 l6 l7 g H K99 K128 Q := by
  unfold w_M_parts_b101
  refine y_M_onesOf I ⟨by omega, by omega⟩ (fun v17 b_24 b_25 => ?_)
  refine y_M_onesOf I ⟨by omega, by omega⟩ (fun v20 b_26 b_27 => ?_)
  refine k_M_greater I ⟨by omega, by omega⟩ ⟨by omega, by omega⟩ (fun v23 b_28 b_29 => ?_)
  exact hH _ _ _ _ _ I F ⟨by omega, by omega⟩ ⟨by omega, by omega⟩ ⟨by omega, by omega⟩ ⟨by omega, by omega⟩ (by omega) (by omega) (by first | exact zqP_im (zM_row F (by intro i; unfold fr_M_parts; omega)) b6 (by omega) (by assumption) | exact zqP_d b6 (by assumption) (by assumption) (by assumption) (by omega) (by omega) | exact zqP_s ix2 (by omega) (by assumption) (by assumption) (by assumption) (by assumption) (by assumption) (by assumption) | exact zqP_0) (by omega)
set_option maxRecDepth 100000 in
set_option maxHeartbeats 4000000 in
theorem y_M_parts_l27 {l1 : Int} {K99 : zi_M → Prop} {K128 : Int → Int → zi_M → Prop} {Q : Int → zi_M → Prop} {g0 : zi_M} (q1 : (-2147483648) ≤ l1 ∧ l1 ≤ 2147483647) (hK99 : ∀ (g : zi_M), zk_I g → zk_fr fr_M_parts g0 g → (l1 = 0) → (zqG (zqM (g0 242)) → ¬ zqB (zqM (g0 242))) → K99 g) (hK128 : ∀ (k3 : Int) (k4 : Int) (g : zi_M), zk_I g → zk_fr fr_M_parts g0 g → (0 ≤ k3 ∧ k3 ≤ 10) → (0 ≤ k4 ∧ k4 ≤ 700000) → (zqG (zqM (g0 242)) → zqF (zqM (g0 242)) l1 k3 k4) → K128 k3 k4 g) (hQ : ∀ (v : Int) (g' : zi_M), zk_I g' → zk_fr fr_M_parts g0 g' → ((-1) ≤ v ∧ v ≤ 700000) → (zqG (zqM (g0 242)) → zqO (zqM (g0 242)) l1 v) → Q v g') : ∀ (n : Nat) {l2 : Int} {l3 : Int} {l4 : Int} {l5 : Int} {g : zi_M}, zk_I g → zk_fr fr_M_parts g0 g → (0 ≤ l2 ∧ l2 ≤ 1023) → (0 ≤ l3 ∧ l3 ≤ 10) → (0 ≤ l4 ∧ l4 ≤ 700000) → (0 ≤ l5 ∧ l5 ≤ 10) → (l3 ≤ l5) → (l4 ≤ 65535 * l5) → (zqG (zqM (g0 242)) → zqP (zqM (g0 242)) l1 l2 l3 l4 l5) → 10 - l5 < (n : Int) → w_M_parts_l27 l1 K99 K128 Q n l2 l3 l4 l5 g
  | 0, l2, l3, l4, l5, g, I, F, b0, b1, b2, b3, b4, b5, b6, hm => by exfalso; omega
  | n + 1, l2, l3, l4, l5, g, I, F, b0, b1, b2, b3, b4, b5, b6, hm => by
    unfold w_M_parts_l27
    refine ⟨⟨by omega, by omega⟩, ?_⟩
    refine ⟨fun c31 => ?_, fun c31 => ?_⟩
    · exact hK128 _ _ _ I F ⟨by omega, by omega⟩ ⟨by omega, by omega⟩ (by exact zqP_e (by assumption) (by omega))
    · refine ⟨⟨by omega, by omega⟩, ?_⟩
      have m_7 : 0 ≤ (g 242 l5) ∧ (g 242 l5) ≤ 1023 := I.1 242 l5
      refine ⟨⟨by omega, by omega⟩, ?_⟩
      refine ⟨fun c30 => ?_, fun c30 => ?_⟩
      · exact y_M_parts_l27 q1 hK99 hK128 hQ n I F ⟨by omega, by omega⟩ ⟨by omega, by omega⟩ ⟨by omega, by omega⟩ ⟨by omega, by omega⟩ (by omega) (by omega) (by first | exact zqP_im (zM_row F (by intro i; unfold fr_M_parts; omega)) b6 (by omega) (by assumption) | exact zqP_d b6 (by assumption) (by assumption) (by assumption) (by omega) (by omega) | exact zqP_s ix2 (by omega) (by assumption) (by assumption) (by assumption) (by assumption) (by assumption) (by assumption) | exact zqP_0) (by omega)
      · have m_10 := zi_r_shr (l2) (l5)
        try have m_11 := (zi_shr_f (l2) (l5)).2 ⟨by omega, by omega⟩
        have m_12 := zi_r_and (zi_shr l2 l5) 1
        try have m_13 := (zi_and_f (zi_shr l2 l5) 1).2.1 ⟨by omega, by omega⟩
        try have m_14 := (zi_and_f (zi_shr l2 l5) 1).2.2 ⟨by omega, by omega⟩
        refine k_M_has I ⟨by omega, by omega⟩ ⟨by omega, by omega⟩ (fun v8 b_8 b_9 => ?_)
        refine ⟨fun c29 => ?_, fun c29 => ?_⟩
        · refine y_M_sideFrom I ⟨by omega, by omega⟩ ⟨by omega, by omega⟩ (fun v11 b_15 b_16 b_17 => ?_)
          refine y_M_sideFrom I ⟨by omega, by omega⟩ ⟨by omega, by omega⟩ (fun v14 b_18 b_19 b_20 => ?_)
          have m_21 := zi_r_and v11 v14
          try have m_22 := (zi_and_f v11 v14).2.1 ⟨by omega, by omega⟩
          try have m_23 := (zi_and_f v11 v14).2.2 ⟨by omega, by omega⟩
          refine ⟨fun c28 => ?_, fun c28 => ?_⟩
          · first | have m_30 := (zi_or_f l2 v11).2.1 ⟨by omega, by omega, by omega, by omega⟩ | have m_30 := (zi_or_f l2 v11).2.2.1 ⟨by omega, by omega, by omega, by omega⟩ | have m_30 := (zi_or_f l2 v11).2.2.2.1 ⟨by omega, by omega, by omega, by omega⟩ | have m_30 := (zi_or_f l2 v11).2.2.2.2.1 ⟨by omega, by omega, by omega, by omega⟩ | have m_30 := (zi_or_f l2 v11).2.2.2.2.2 ⟨by omega, by omega, by omega, by omega⟩ | have m_30 := zi_r_or l2 v11
            first | have m_31 := (zi_or_f (zi_or l2 v11) v14).2.1 ⟨by omega, by omega, by omega, by omega⟩ | have m_31 := (zi_or_f (zi_or l2 v11) v14).2.2.1 ⟨by omega, by omega, by omega, by omega⟩ | have m_31 := (zi_or_f (zi_or l2 v11) v14).2.2.2.1 ⟨by omega, by omega, by omega, by omega⟩ | have m_31 := (zi_or_f (zi_or l2 v11) v14).2.2.2.2.1 ⟨by omega, by omega, by omega, by omega⟩ | have m_31 := (zi_or_f (zi_or l2 v11) v14).2.2.2.2.2 ⟨by omega, by omega, by omega, by omega⟩ | have m_31 := zi_r_or (zi_or l2 v11) v14
            exact y_M_parts_b101 I F ⟨by omega, by omega⟩ ⟨by omega, by omega⟩ ⟨by omega, by omega⟩ ⟨by omega, by omega⟩ ⟨by omega, by omega⟩ ⟨by omega, by omega⟩ ⟨by omega, by omega⟩ (by omega) (by omega) (by exact zqP_bm (zM_row F (by intro i; unfold fr_M_parts; omega)) b6 (by assumption) (by assumption) (by assumption) (by assumption) (by assumption) (by omega) (by omega) (by assumption) (by assumption) (by assumption) (by assumption) (by first | exact Or.inl (by assumption) | exact Or.inr (by assumption))) (n : Int) (by omega) (fun _ _ _ _ _ I F b0 b1 b2 b3 b4 b5 b6 hm => y_M_parts_l27 q1 hK99 hK128 hQ n I F b0 b1 b2 b3 b4 b5 b6 hm) hK99 hK128 hQ
          · refine ⟨⟨by omega, by omega⟩, ?_⟩
            refine ⟨fun c27 => ?_, fun c27 => ?_⟩
            · first | have m_32 := (zi_or_f l2 v11).2.1 ⟨by omega, by omega, by omega, by omega⟩ | have m_32 := (zi_or_f l2 v11).2.2.1 ⟨by omega, by omega, by omega, by omega⟩ | have m_32 := (zi_or_f l2 v11).2.2.2.1 ⟨by omega, by omega, by omega, by omega⟩ | have m_32 := (zi_or_f l2 v11).2.2.2.2.1 ⟨by omega, by omega, by omega, by omega⟩ | have m_32 := (zi_or_f l2 v11).2.2.2.2.2 ⟨by omega, by omega, by omega, by omega⟩ | have m_32 := zi_r_or l2 v11
              first | have m_33 := (zi_or_f (zi_or l2 v11) v14).2.1 ⟨by omega, by omega, by omega, by omega⟩ | have m_33 := (zi_or_f (zi_or l2 v11) v14).2.2.1 ⟨by omega, by omega, by omega, by omega⟩ | have m_33 := (zi_or_f (zi_or l2 v11) v14).2.2.2.1 ⟨by omega, by omega, by omega, by omega⟩ | have m_33 := (zi_or_f (zi_or l2 v11) v14).2.2.2.2.1 ⟨by omega, by omega, by omega, by omega⟩ | have m_33 := (zi_or_f (zi_or l2 v11) v14).2.2.2.2.2 ⟨by omega, by omega, by omega, by omega⟩ | have m_33 := zi_r_or (zi_or l2 v11) v14
              exact y_M_parts_b101 I F ⟨by omega, by omega⟩ ⟨by omega, by omega⟩ ⟨by omega, by omega⟩ ⟨by omega, by omega⟩ ⟨by omega, by omega⟩ ⟨by omega, by omega⟩ ⟨by omega, by omega⟩ (by omega) (by omega) (by exact zqP_bm (zM_row F (by intro i; unfold fr_M_parts; omega)) b6 (by assumption) (by assumption) (by assumption) (by assumption) (by assumption) (by omega) (by omega) (by assumption) (by assumption) (by assumption) (by assumption) (by first | exact Or.inl (by assumption) | exact Or.inr (by assumption))) (n : Int) (by omega) (fun _ _ _ _ _ I F b0 b1 b2 b3 b4 b5 b6 hm => y_M_parts_l27 q1 hK99 hK128 hQ n I F b0 b1 b2 b3 b4 b5 b6 hm) hK99 hK128 hQ
            · exact hK99 _ I F (by omega) (by exact zqP_xm (zM_row F (by intro i; unfold fr_M_parts; omega)) (by assumption) (by assumption) (by assumption) (by assumption) (by assumption))
        · exact y_M_parts_l27 q1 hK99 hK128 hQ n I F ⟨by omega, by omega⟩ ⟨by omega, by omega⟩ ⟨by omega, by omega⟩ ⟨by omega, by omega⟩ (by omega) (by omega) (by first | exact zqP_im (zM_row F (by intro i; unfold fr_M_parts; omega)) b6 (by omega) (by assumption) | exact zqP_d b6 (by assumption) (by assumption) (by assumption) (by omega) (by omega) | exact zqP_s ix2 (by omega) (by assumption) (by assumption) (by assumption) (by assumption) (by assumption) (by assumption) | exact zqP_0) (by omega)
set_option maxRecDepth 100000 in
set_option maxHeartbeats 4000000 in
theorem y_M_parts {l1 : Int} {g : zi_M} {Q : Int → zi_M → Prop} (I : zk_I g) (p1 : (-2147483648) ≤ l1 ∧ l1 ≤ 2147483647) (hQ : ∀ (v : Int) (g' : zi_M), zk_I g' → zk_fr fr_M_parts g g' → ((-1) ≤ v ∧ v ≤ 700000) → (zqG (zqM (g 242)) → zqO (zqM (g 242)) l1 v) → Q v g') : w_M_parts l1 g Q := by
  unfold w_M_parts
  intro g1 e_1
  have I_2 : zk_I g1 := by rw [e_1]; exact zk_upd (L := (-2147483648)) (H := 2147483647) rfl rfl I ⟨by omega, by omega⟩
  have F_3 : zk_fr fr_M_parts g g1 := by rw [e_1]; exact zk_fu (zk_f0 _) ⟨rfl, rfl⟩
  refine k_M_isIn I_2 ⟨by omega, by omega⟩ ⟨by omega, by omega⟩ ⟨by omega, by omega⟩ (fun v2 b_4 b_5 b_6 => ?_)
  refine ⟨fun c39 => ?_, fun c39 => ?_⟩
  · refine ⟨((10 - 0 : Int).toNat + 1), y_M_parts_l27 (l1 := l1) ⟨by omega, by omega⟩ (fun g32 I_34 F_35 b_36 b_37 => ?_) (fun k33 k34 g35 I_38 F_39 b_40 b_41 b_42 => ?_) hQ ((10 - 0 : Int).toNat + 1) I_2 F_3 ⟨by omega, by omega⟩ ⟨by omega, by omega⟩ ⟨by omega, by omega⟩ ⟨by omega, by omega⟩ (by omega) (by omega) (by first | exact zqP_im (zM_row F (by intro i; unfold fr_M_parts; omega)) b6 (by omega) (by assumption) | exact zqP_d b6 (by assumption) (by assumption) (by assumption) (by omega) (by omega) | exact zqP_s ix2 (by omega) (by assumption) (by assumption) (by assumption) (by assumption) (by assumption) (by assumption) | exact zqP_0) (by omega)⟩
    · exact hQ _ _ I_34 F_35 ⟨by omega, by omega⟩ (by first | exact zqO_a (by assumption) (by assumption) | exact zqO_b (by assumption) (by assumption) (by omega) | exact zqO_c (by assumption) (by assumption) | exact zqO_d (by omega) (by omega))
    · refine ⟨⟨by omega, by omega⟩, ?_⟩
      refine ⟨fun c37 => ?_, fun c37 => ?_⟩
      · exact hQ _ _ I_38 F_39 ⟨by omega, by omega⟩ (by first | exact zqO_a (by assumption) (by assumption) | exact zqO_b (by assumption) (by assumption) (by omega) | exact zqO_c (by assumption) (by assumption) | exact zqO_d (by omega) (by omega))
      · exact hQ _ _ I_38 F_39 ⟨by omega, by omega⟩ (by first | exact zqO_a (by assumption) (by assumption) | exact zqO_b (by assumption) (by assumption) (by omega) | exact zqO_c (by assumption) (by assumption) | exact zqO_d (by omega) (by omega))
  · exact hQ _ _ I_2 F_3 ⟨by omega, by omega⟩ (by first | exact zqO_a (by assumption) (by assumption) | exact zqO_b (by assumption) (by assumption) (by omega) | exact zqO_c (by assumption) (by assumption) | exact zqO_d (by omega) (by omega))
