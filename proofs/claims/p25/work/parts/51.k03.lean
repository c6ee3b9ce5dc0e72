-- by program (wip/gen/mkz.py)
-- SpoutNewsModel.isSpout(I)Z
set_option maxRecDepth 100000 in
set_option maxHeartbeats 4000000 in
theorem k_M_isSpout {l1 : Int} {g : zi_M} {Q : Int → zi_M → Prop} (I : zk_I g) (p1 : (-2147483648) ≤ l1 ∧ l1 ≤ 2147483647) (hQ : ∀ v : Int, (l1 < 0 → v = 0) → (0 ≤ l1 → (g 214 6) ≤ l1 → v = 0) → (0 ≤ l1 → l1 < (g 214 6) → v = 1) → Q v g) : w_M_isSpout l1 g Q := by
  unfold w_M_isSpout
  refine ⟨⟨by omega, by omega⟩, ?_⟩
  refine ⟨fun c4 => ?_, fun c4 => ?_⟩
  · have m_1 : 0 ≤ (g 214 6) ∧ (g 214 6) ≤ 10 := I.1 214 6
    exact hQ _ (by intros; omega) (by intros; omega) (by intros; omega)
  · have m_2 : 0 ≤ (g 214 6) ∧ (g 214 6) ≤ 10 := I.1 214 6
    refine ⟨⟨by omega, by omega⟩, ?_⟩
    refine ⟨fun c3 => ?_, fun c3 => ?_⟩
    · exact hQ _ (by intros; omega) (by intros; omega) (by intros; omega)
    · exact hQ _ (by intros; omega) (by intros; omega) (by intros; omega)
-- SpoutNewsModel.isSitter(I)Z
set_option maxRecDepth 100000 in
set_option maxHeartbeats 4000000 in
theorem k_M_isSitter {l1 : Int} {g : zi_M} {Q : Int → zi_M → Prop} (I : zk_I g) (p1 : (-2147483648) ≤ l1 ∧ l1 ≤ 2147483647) (hQ : ∀ v : Int, (l1 < 0 → v = 0) → (0 ≤ l1 → (g 214 7) ≤ l1 → v = 0) → (0 ≤ l1 → l1 < (g 214 7) → v = 1) → Q v g) : w_M_isSitter l1 g Q := by
  unfold w_M_isSitter
  refine ⟨⟨by omega, by omega⟩, ?_⟩
  refine ⟨fun c4 => ?_, fun c4 => ?_⟩
  · have m_1 : 0 ≤ (g 214 7) ∧ (g 214 7) ≤ 8 := I.1 214 7
    exact hQ _ (by intros; omega) (by intros; omega) (by intros; omega)
  · have m_2 : 0 ≤ (g 214 7) ∧ (g 214 7) ≤ 8 := I.1 214 7
    refine ⟨⟨by omega, by omega⟩, ?_⟩
    refine ⟨fun c3 => ?_, fun c3 => ?_⟩
    · exact hQ _ (by intros; omega) (by intros; omega) (by intros; omega)
    · exact hQ _ (by intros; omega) (by intros; omega) (by intros; omega)
-- SpoutNewsModel.canSet(III)Z
set_option maxRecDepth 100000 in
set_option maxHeartbeats 4000000 in
theorem k_M_canSet {l1 : Int} {l2 : Int} {l3 : Int} {g : zi_M} {Q : Int → zi_M → Prop} (I : zk_I g) (p1 : (-2147483648) ≤ l1 ∧ l1 ≤ 2147483647) (p2 : (-2147483648) ≤ l2 ∧ l2 ≤ 2147483647) (p3 : (-2147483648) ≤ l3 ∧ l3 ≤ 2147483647) (hQ : ∀ v : Int, (0 ≤ v ∧ v ≤ 1) → (¬ v = 0 ∧ (l1 = 0) → 0 ≤ l3 ∧ l3 ≤ 9) → (¬ v = 0 ∧ (l1 = 1) → 0 ≤ l2 ∧ l2 ≤ 9 ∧ 0 ≤ l3 ∧ l3 ≤ 99) → (¬ v = 0 ∧ (l1 = 2) → 0 ≤ l2 ∧ l2 ≤ 9 ∧ 0 ≤ l3 ∧ l3 ≤ 999) → (¬ v = 0 ∧ (l1 < 0 ∨ 2 < l1) → 0 ≤ l2 ∧ l2 ≤ 7 ∧ 0 ≤ l3 ∧ l3 ≤ 65535) → (zPs (g 214 6) (g 214 7) l1 l2 l3 → ¬ v = 0) → (¬ zPs (g 214 6) (g 214 7) l1 l2 l3 → v = 0) → Q v g) : w_M_canSet l1 l2 l3 g Q := by
  unfold w_M_canSet
  refine ⟨⟨by omega, by omega⟩, ?_⟩
  refine ⟨fun c31 => ?_, fun c31 => ?_⟩
  · refine ⟨fun c27 => ?_, fun c27 => ?_⟩
    · refine k_M_isIn I ⟨by omega, by omega⟩ ⟨by omega, by omega⟩ ⟨by omega, by omega⟩ (fun v2 b_1 b_2 b_3 => ?_)
      refine ⟨fun c18 => ?_, fun c18 => ?_⟩
      · exact hQ _ ⟨by omega, by omega⟩ (by omega) (by omega) (by omega) (by omega) (by intro hv; unfold zPs at hv; omega) (by intro hv; unfold zPs at hv; omega)
      · have m_7 : 0 ≤ (g 214 6) ∧ (g 214 6) ≤ 10 := I.1 214 6
        refine k_M_isSpout I ⟨by omega, by omega⟩ (fun v5 b_4 b_5 b_6 => ?_)
        refine ⟨fun c17 => ?_, fun c17 => ?_⟩
        · exact hQ _ ⟨by omega, by omega⟩ (by omega) (by omega) (by omega) (by omega) (by intro hv; unfold zPs at hv; omega) (by intro hv; unfold zPs at hv; omega)
        · refine ⟨fun c16 => ?_, fun c16 => ?_⟩
          · refine k_M_isIn I ⟨by omega, by omega⟩ ⟨by omega, by omega⟩ ⟨by omega, by omega⟩ (fun v8 b_8 b_9 b_10 => ?_)
            refine ⟨fun c11 => ?_, fun c11 => ?_⟩
            · exact hQ _ ⟨by omega, by omega⟩ (by omega) (by omega) (by omega) (by omega) (by intro hv; unfold zPs at hv; omega) (by intro hv; unfold zPs at hv; omega)
            · exact hQ _ ⟨by omega, by omega⟩ (by omega) (by omega) (by omega) (by omega) (by intro hv; unfold zPs at hv; omega) (by intro hv; unfold zPs at hv; omega)
          · refine k_M_isIn I ⟨by omega, by omega⟩ ⟨by omega, by omega⟩ ⟨by omega, by omega⟩ (fun v12 b_11 b_12 b_13 => ?_)
            refine ⟨fun c15 => ?_, fun c15 => ?_⟩
            · exact hQ _ ⟨by omega, by omega⟩ (by omega) (by omega) (by omega) (by omega) (by intro hv; unfold zPs at hv; omega) (by intro hv; unfold zPs at hv; omega)
            · exact hQ _ ⟨by omega, by omega⟩ (by omega) (by omega) (by omega) (by omega) (by intro hv; unfold zPs at hv; omega) (by intro hv; unfold zPs at hv; omega)
    · have m_17 : 0 ≤ (g 214 7) ∧ (g 214 7) ≤ 8 := I.1 214 7
      refine k_M_isSitter I ⟨by omega, by omega⟩ (fun v19 b_14 b_15 b_16 => ?_)
      refine ⟨fun c26 => ?_, fun c26 => ?_⟩
      · exact hQ _ ⟨by omega, by omega⟩ (by omega) (by omega) (by omega) (by omega) (by intro hv; unfold zPs at hv; omega) (by intro hv; unfold zPs at hv; omega)
      · refine k_M_isIn I ⟨by omega, by omega⟩ ⟨by omega, by omega⟩ ⟨by omega, by omega⟩ (fun v22 b_18 b_19 b_20 => ?_)
        refine ⟨fun c25 => ?_, fun c25 => ?_⟩
        · exact hQ _ ⟨by omega, by omega⟩ (by omega) (by omega) (by omega) (by omega) (by intro hv; unfold zPs at hv; omega) (by intro hv; unfold zPs at hv; omega)
        · exact hQ _ ⟨by omega, by omega⟩ (by omega) (by omega) (by omega) (by omega) (by intro hv; unfold zPs at hv; omega) (by intro hv; unfold zPs at hv; omega)
  · refine k_M_isIn I ⟨by omega, by omega⟩ ⟨by omega, by omega⟩ ⟨by omega, by omega⟩ (fun v28 b_21 b_22 b_23 => ?_)
    exact hQ _ ⟨by omega, by omega⟩ (by omega) (by omega) (by omega) (by omega) (by intro hv; unfold zPs at hv; omega) (by intro hv; unfold zPs at hv; omega)
-- SpoutNewsModel.set(III)Z
set_option maxRecDepth 100000 in
set_option maxHeartbeats 4000000 in
theorem k_M_set_b55 {l1 : Int} {l2 : Int} {l3 : Int} {Q : Int → zi_M → Prop} {g : zi_M} {g0 : zi_M} (I : zk_I g) (F : zk_fr fr_M_set g0 g) (p1 : (-2147483648) ≤ l1 ∧ l1 ≤ 2147483647) (p2 : (-2147483648) ≤ l2 ∧ l2 ≤ 2147483647) (p3 : (-2147483648) ≤ l3 ∧ l3 ≤ 2147483647) (ix0 : (l1 = 0) → 0 ≤ l3 ∧ l3 ≤ 9) (ix1 : (l1 = 1) → 0 ≤ l2 ∧ l2 ≤ 9 ∧ 0 ≤ l3 ∧ l3 ≤ 99) (ix2 : (l1 = 2) → 0 ≤ l2 ∧ l2 ≤ 9 ∧ 0 ≤ l3 ∧ l3 ≤ 999) (ix3 : (l1 < 0 ∨ 2 < l1) → 0 ≤ l2 ∧ l2 ≤ 7 ∧ 0 ≤ l3 ∧ l3 ≤ 65535) (ix4 : zPs (g0 214 6) (g0 214 7) l1 l2 l3) (ix5 : g 214 6 = g0 214 6) (ix6 : g 214 7 = g0 214 7) (ix7 : ∀ k : Int, (l1 = 1 ∧ k = l2 → g 220 k = l3) ∧ (¬ (l1 = 1 ∧ k = l2) → g 220 k = g0 220 k)) (ix8 : zMt2 l1 l2 l3 g0 g) (hQ : ∀ (v : Int) (g' : zi_M), zk_I g' → zk_fr fr_M_set g0 g' → (0 ≤ v ∧ v ≤ 1) → (zPs (g0 214 6) (g0 214 7) l1 l2 l3 → v = 1) → (¬ zPs (g0 214 6) (g0 214 7) l1 l2 l3 → v = 0) → (∀ k : Int, 0 ≤ k ∧ k < 10 → (¬ v = 0 ∧ l1 = 1 ∧ k = l2 → g' 220 k = l3) ∧ (¬ (¬ v = 0 ∧ l1 = 1 ∧ k = l2) → g' 220 k = g0 220 k)) → (¬ v = 0 → zMt3 l1 l2 l3 g0 g') → (v = 0 → ∀ k : Int, g' 215 k = g0 215 k) → (¬ v = 0 → g' 214 3 = 0) → (v = 0 → g' 214 3 = g0 214 3) → Q v g') : w_M_set_b55 l1 l2 l3 g Q := by
  unfold w_M_set_b55
  refine ⟨⟨by omega, by omega⟩, ?_⟩
  refine ⟨fun c13 => ?_, fun c13 => ?_⟩
  · intro g9 e_17
    have I_18 : zk_I g9 := by rw [e_17]; exact zk_upd (L := 0) (H := 6) rfl rfl I ⟨by omega, by omega⟩
    have F_19 : zk_fr fr_M_set g0 g9 := by rw [e_17]; exact zk_fu F (Or.inr (Or.inr (Or.inl ⟨rfl, rfl⟩)))
    have z_24 : ∀ k : Int, 0 ≤ k ∧ k < 10 → (¬ (1 : Int) = 0 ∧ l1 = 1 ∧ k = l2 → g9 220 k = l3) ∧ (¬ (¬ (1 : Int) = 0 ∧ l1 = 1 ∧ k = l2) → g9 220 k = g0 220 k) := by
      intro k hk
      have m_20 : 0 ≤ (g9 220 k) ∧ (g9 220 k) ≤ 99 := I_18.1 220 k
      have m_21 : g9 220 k = g 220 k := by rw [e_17]; exact zi_u_ne (by decide)
      have m_22 : 0 ≤ (g 220 k) ∧ (g 220 k) ≤ 99 := I.1 220 k
      have m_23 := ix7 k
      omega
    have m_25 : 0 ≤ (g9 214 3) ∧ (g9 214 3) ≤ 6 := I_18.1 214 3
    have m_26 : g9 214 3 = 0 := by rw [e_17]; exact zi_u_eq
    exact hQ _ _ I_18 F_19 ⟨by omega, by omega⟩ (by intro hv; first | rfl | exact absurd (by assumption) hv | exact zP_1 (by assumption) (by omega) (by omega) (by omega) hv | exact zP_2 (by assumption) (by omega) (by omega) (by omega) hv) (by intro hv; first | rfl | exact absurd (by assumption) hv | exact zP_1 (by assumption) (by omega) (by omega) (by omega) hv | exact zP_2 (by assumption) (by omega) (by omega) (by omega) hv) z_24 (by first | (intro hv; exact absurd rfl hv) | exact fun _ => zMt_f (by assumption) (by omega) (by assumption) | exact fun _ => zMt_g (by assumption) (by assumption) (by omega) (by assumption)) (by first | (intro hv; exfalso; omega) | exact fun _ => zMt_0 (l1 := 0) (l2 := 0) (l3 := 0) (by assumption)) (by omega) (by omega)
  · refine ⟨⟨by omega, by omega⟩, ?_⟩
    intro g11 e_27
    have I_28 : zk_I g11 := by rw [e_27]; exact zk_upd (zk_nl236 (i := 236 + l2) (by omega)).1 (zk_nl236 (i := 236 + l2) (by omega)).2 I ⟨by omega, by omega⟩
    have F_29 : zk_fr fr_M_set g0 g11 := by rw [e_27]; exact zk_fu F (Or.inr (Or.inr (Or.inr (Or.inr (Or.inl ⟨rfl, by omega, by omega⟩)))))
    intro g12 e_30
    have I_31 : zk_I g12 := by rw [e_30]; exact zk_upd (L := 0) (H := 6) rfl rfl I_28 ⟨by omega, by omega⟩
    have F_32 : zk_fr fr_M_set g0 g12 := by rw [e_30]; exact zk_fu F_29 (Or.inr (Or.inr (Or.inl ⟨rfl, rfl⟩)))
    have z_39 : ∀ k : Int, 0 ≤ k ∧ k < 10 → (¬ (1 : Int) = 0 ∧ l1 = 1 ∧ k = l2 → g12 220 k = l3) ∧ (¬ (¬ (1 : Int) = 0 ∧ l1 = 1 ∧ k = l2) → g12 220 k = g0 220 k) := by
      intro k hk
      have m_33 : 0 ≤ (g12 220 k) ∧ (g12 220 k) ≤ 99 := I_31.1 220 k
      have m_34 : g12 220 k = g11 220 k := by rw [e_30]; exact zi_u_ne (by decide)
      have m_35 : 0 ≤ (g11 220 k) ∧ (g11 220 k) ≤ 99 := I_28.1 220 k
      have m_36 : g11 220 k = g 220 k := by rw [e_27]; exact zi_u_ne (by decide)
      have m_37 : 0 ≤ (g 220 k) ∧ (g 220 k) ≤ 99 := I.1 220 k
      have m_38 := ix7 k
      omega
    have m_40 : 0 ≤ (g12 214 3) ∧ (g12 214 3) ≤ 6 := I_31.1 214 3
    have m_41 : g12 214 3 = 0 := by rw [e_30]; exact zi_u_eq
    exact hQ _ _ I_31 F_32 ⟨by omega, by omega⟩ (by intro hv; first | rfl | exact absurd (by assumption) hv | exact zP_1 (by assumption) (by omega) (by omega) (by omega) hv | exact zP_2 (by assumption) (by omega) (by omega) (by omega) hv) (by intro hv; first | rfl | exact absurd (by assumption) hv | exact zP_1 (by assumption) (by omega) (by omega) (by omega) hv | exact zP_2 (by assumption) (by omega) (by omega) (by omega) hv) z_39 (by first | (intro hv; exact absurd rfl hv) | exact fun _ => zMt_f (by assumption) (by omega) (by assumption) | exact fun _ => zMt_g (by assumption) (by assumption) (by omega) (by assumption)) (by first | (intro hv; exfalso; omega) | exact fun _ => zMt_0 (l1 := 0) (l2 := 0) (l3 := 0) (by assumption)) (by omega) (by omega)
set_option maxRecDepth 100000 in
set_option maxHeartbeats 4000000 in
theorem k_M_set_b40 {l1 : Int} {l2 : Int} {l3 : Int} {Q : Int → zi_M → Prop} {g : zi_M} {g0 : zi_M} (I : zk_I g) (F : zk_fr fr_M_set g0 g) (p1 : (-2147483648) ≤ l1 ∧ l1 ≤ 2147483647) (p2 : (-2147483648) ≤ l2 ∧ l2 ≤ 2147483647) (p3 : (-2147483648) ≤ l3 ∧ l3 ≤ 2147483647) (ix0 : (l1 = 0) → 0 ≤ l3 ∧ l3 ≤ 9) (ix1 : (l1 = 1) → 0 ≤ l2 ∧ l2 ≤ 9 ∧ 0 ≤ l3 ∧ l3 ≤ 99) (ix2 : (l1 = 2) → 0 ≤ l2 ∧ l2 ≤ 9 ∧ 0 ≤ l3 ∧ l3 ≤ 999) (ix3 : (l1 < 0 ∨ 2 < l1) → 0 ≤ l2 ∧ l2 ≤ 7 ∧ 0 ≤ l3 ∧ l3 ≤ 65535) (ix4 : zPs (g0 214 6) (g0 214 7) l1 l2 l3) (ix5 : g 214 6 = g0 214 6) (ix6 : g 214 7 = g0 214 7) (ix7 : ∀ k : Int, (l1 = 1 ∧ k = l2 → g 220 k = l3) ∧ (¬ (l1 = 1 ∧ k = l2) → g 220 k = g0 220 k)) (ix8 : zMt1 l1 l3 g0 g) (hQ : ∀ (v : Int) (g' : zi_M), zk_I g' → zk_fr fr_M_set g0 g' → (0 ≤ v ∧ v ≤ 1) → (zPs (g0 214 6) (g0 214 7) l1 l2 l3 → v = 1) → (¬ zPs (g0 214 6) (g0 214 7) l1 l2 l3 → v = 0) → (∀ k : Int, 0 ≤ k ∧ k < 10 → (¬ v = 0 ∧ l1 = 1 ∧ k = l2 → g' 220 k = l3) ∧ (¬ (¬ v = 0 ∧ l1 = 1 ∧ k = l2) → g' 220 k = g0 220 k)) → (¬ v = 0 → zMt3 l1 l2 l3 g0 g') → (v = 0 → ∀ k : Int, g' 215 k = g0 215 k) → (¬ v = 0 → g' 214 3 = 0) → (v = 0 → g' 214 3 = g0 214 3) → Q v g') : w_M_set_b40 l1 l2 l3 g Q := by
  unfold w_M_set_b40
  refine ⟨⟨by omega, by omega⟩, ?_⟩
  refine ⟨fun c16 => ?_, fun c16 => ?_⟩
  · have m_42 : 0 ≤ (g 214 6) ∧ (g 214 6) ≤ 10 := I.1 214 6
    have m_43 : 0 ≤ (g 214 7) ∧ (g 214 7) ≤ 8 := I.1 214 7
    exact k_M_set_b55 I F ⟨by omega, by omega⟩ ⟨by omega, by omega⟩ ⟨by omega, by omega⟩ (by omega) (by omega) (by omega) (by omega) (by first | assumption | exact zPs_of (by assumption) (by omega) (by omega) (by omega)) (by omega) (by omega) (by first | assumption | exact rw_no (by assumption) (by omega) | exact rw_st (by assumption) (by assumption) (by omega) | exact rw_kp (by assumption) (by assumption) (by decide)) (by first | exact zMt_d (by assumption) (by omega) | exact zMt_e (by assumption) (by assumption) (by omega)) hQ
  · refine ⟨⟨by omega, by omega⟩, ?_⟩
    intro g15 e_44
    have I_45 : zk_I g15 := by rw [e_44]; exact zk_upd (zk_nl16 (i := 16 + l2) (by omega)).1 (zk_nl16 (i := 16 + l2) (by omega)).2 I ⟨by omega, by omega⟩
    have F_46 : zk_fr fr_M_set g0 g15 := by rw [e_44]; exact zk_fu F (Or.inr (Or.inr (Or.inr (Or.inl ⟨rfl, by omega, by omega⟩))))
    have m_47 : 0 ≤ (g15 214 6) ∧ (g15 214 6) ≤ 10 := I_45.1 214 6
    have m_48 : g15 214 6 = g 214 6 := by rw [e_44]; exact zi_u_ne (by decide)
    have m_49 : 0 ≤ (g 214 6) ∧ (g 214 6) ≤ 10 := I.1 214 6
    have m_50 : 0 ≤ (g15 214 7) ∧ (g15 214 7) ≤ 8 := I_45.1 214 7
    have m_51 : g15 214 7 = g 214 7 := by rw [e_44]; exact zi_u_ne (by decide)
    have m_52 : 0 ≤ (g 214 7) ∧ (g 214 7) ≤ 8 := I.1 214 7
    exact k_M_set_b55 I_45 F_46 ⟨by omega, by omega⟩ ⟨by omega, by omega⟩ ⟨by omega, by omega⟩ (by omega) (by omega) (by omega) (by omega) (by first | assumption | exact zPs_of (by assumption) (by omega) (by omega) (by omega)) (by omega) (by omega) (by first | assumption | exact rw_no (by assumption) (by omega) | exact rw_st (by assumption) (by assumption) (by omega) | exact rw_kp (by assumption) (by assumption) (by decide)) (by first | exact zMt_d (by assumption) (by omega) | exact zMt_e (by assumption) (by assumption) (by omega)) hQ
set_option maxRecDepth 100000 in
set_option maxHeartbeats 4000000 in
theorem k_M_set_b28 {l1 : Int} {l2 : Int} {l3 : Int} {Q : Int → zi_M → Prop} {g : zi_M} {g0 : zi_M} (I : zk_I g) (F : zk_fr fr_M_set g0 g) (p1 : (-2147483648) ≤ l1 ∧ l1 ≤ 2147483647) (p2 : (-2147483648) ≤ l2 ∧ l2 ≤ 2147483647) (p3 : (-2147483648) ≤ l3 ∧ l3 ≤ 2147483647) (ix0 : (l1 = 0) → 0 ≤ l3 ∧ l3 ≤ 9) (ix1 : (l1 = 1) → 0 ≤ l2 ∧ l2 ≤ 9 ∧ 0 ≤ l3 ∧ l3 ≤ 99) (ix2 : (l1 = 2) → 0 ≤ l2 ∧ l2 ≤ 9 ∧ 0 ≤ l3 ∧ l3 ≤ 999) (ix3 : (l1 < 0 ∨ 2 < l1) → 0 ≤ l2 ∧ l2 ≤ 7 ∧ 0 ≤ l3 ∧ l3 ≤ 65535) (ix4 : zPs (g0 214 6) (g0 214 7) l1 l2 l3) (ix5 : g 214 6 = g0 214 6) (ix6 : g 214 7 = g0 214 7) (ix7 : ∀ k : Int, g 220 k = g0 220 k) (ix8 : zMt1 l1 l3 g0 g) (hQ : ∀ (v : Int) (g' : zi_M), zk_I g' → zk_fr fr_M_set g0 g' → (0 ≤ v ∧ v ≤ 1) → (zPs (g0 214 6) (g0 214 7) l1 l2 l3 → v = 1) → (¬ zPs (g0 214 6) (g0 214 7) l1 l2 l3 → v = 0) → (∀ k : Int, 0 ≤ k ∧ k < 10 → (¬ v = 0 ∧ l1 = 1 ∧ k = l2 → g' 220 k = l3) ∧ (¬ (¬ v = 0 ∧ l1 = 1 ∧ k = l2) → g' 220 k = g0 220 k)) → (¬ v = 0 → zMt3 l1 l2 l3 g0 g') → (v = 0 → ∀ k : Int, g' 215 k = g0 215 k) → (¬ v = 0 → g' 214 3 = 0) → (v = 0 → g' 214 3 = g0 214 3) → Q v g') : w_M_set_b28 l1 l2 l3 g Q := by
  unfold w_M_set_b28
  refine ⟨⟨by omega, by omega⟩, ?_⟩
  refine ⟨fun c19 => ?_, fun c19 => ?_⟩
  · have m_53 : 0 ≤ (g 214 6) ∧ (g 214 6) ≤ 10 := I.1 214 6
    have m_54 : 0 ≤ (g 214 7) ∧ (g 214 7) ≤ 8 := I.1 214 7
    exact k_M_set_b40 I F ⟨by omega, by omega⟩ ⟨by omega, by omega⟩ ⟨by omega, by omega⟩ (by omega) (by omega) (by omega) (by omega) (by first | assumption | exact zPs_of (by assumption) (by omega) (by omega) (by omega)) (by omega) (by omega) (by first | assumption | exact rw_no (by assumption) (by omega) | exact rw_st (by assumption) (by assumption) (by omega) | exact rw_kp (by assumption) (by assumption) (by decide)) (by first | assumption | exact zMt_c (by assumption) (by assumption)) hQ
  · refine ⟨⟨by omega, by omega⟩, ?_⟩
    intro g18 e_55
    have I_56 : zk_I g18 := by rw [e_55]; exact zk_upd (L := 0) (H := 99) rfl rfl I ⟨by omega, by omega⟩
    have F_57 : zk_fr fr_M_set g0 g18 := by rw [e_55]; exact zk_fu F (Or.inl rfl)
    have m_58 : 0 ≤ (g18 214 6) ∧ (g18 214 6) ≤ 10 := I_56.1 214 6
    have m_59 : g18 214 6 = g 214 6 := by rw [e_55]; exact zi_u_ne (by decide)
    have m_60 : 0 ≤ (g 214 6) ∧ (g 214 6) ≤ 10 := I.1 214 6
    have m_61 : 0 ≤ (g18 214 7) ∧ (g18 214 7) ≤ 8 := I_56.1 214 7
    have m_62 : g18 214 7 = g 214 7 := by rw [e_55]; exact zi_u_ne (by decide)
    have m_63 : 0 ≤ (g 214 7) ∧ (g 214 7) ≤ 8 := I.1 214 7
    exact k_M_set_b40 I_56 F_57 ⟨by omega, by omega⟩ ⟨by omega, by omega⟩ ⟨by omega, by omega⟩ (by omega) (by omega) (by omega) (by omega) (by first | assumption | exact zPs_of (by assumption) (by omega) (by omega) (by omega)) (by omega) (by omega) (by first | assumption | exact rw_no (by assumption) (by omega) | exact rw_st (by assumption) (by assumption) (by omega) | exact rw_kp (by assumption) (by assumption) (by decide)) (by first | assumption | exact zMt_c (by assumption) (by assumption)) hQ
set_option maxRecDepth 100000 in
set_option maxHeartbeats 4000000 in
theorem k_M_set {l1 : Int} {l2 : Int} {l3 : Int} {g : zi_M} {Q : Int → zi_M → Prop} (I : zk_I g) (p1 : (-2147483648) ≤ l1 ∧ l1 ≤ 2147483647) (p2 : (-2147483648) ≤ l2 ∧ l2 ≤ 2147483647) (p3 : (-2147483648) ≤ l3 ∧ l3 ≤ 2147483647) (hQ : ∀ (v : Int) (g' : zi_M), zk_I g' → zk_fr fr_M_set g g' → (0 ≤ v ∧ v ≤ 1) → (zPs (g 214 6) (g 214 7) l1 l2 l3 → v = 1) → (¬ zPs (g 214 6) (g 214 7) l1 l2 l3 → v = 0) → (∀ k : Int, 0 ≤ k ∧ k < 10 → (¬ v = 0 ∧ l1 = 1 ∧ k = l2 → g' 220 k = l3) ∧ (¬ (¬ v = 0 ∧ l1 = 1 ∧ k = l2) → g' 220 k = g 220 k)) → (¬ v = 0 → zMt3 l1 l2 l3 g g') → (v = 0 → ∀ k : Int, g' 215 k = g 215 k) → (¬ v = 0 → g' 214 3 = 0) → (v = 0 → g' 214 3 = g 214 3) → Q v g') : w_M_set l1 l2 l3 g Q := by
  unfold w_M_set
  intro g1 e_1
  have I_2 : zk_I g1 := by rw [e_1]; exact zk_upd (L := (-2147483648)) (H := 2147483647) rfl rfl I ⟨by omega, by omega⟩
  have F_3 : zk_fr fr_M_set g g1 := by rw [e_1]; exact zk_fu (zk_f0 _) (Or.inr (Or.inl ⟨rfl, rfl⟩))
  have m_4 : 0 ≤ (g1 214 6) ∧ (g1 214 6) ≤ 10 := I_2.1 214 6
  have m_5 : g1 214 6 = g 214 6 := by rw [e_1]; exact zi_u_ni (by decide)
  have m_6 : 0 ≤ (g 214 6) ∧ (g 214 6) ≤ 10 := I.1 214 6
  have m_7 : 0 ≤ (g1 214 7) ∧ (g1 214 7) ≤ 8 := I_2.1 214 7
  have m_8 : g1 214 7 = g 214 7 := by rw [e_1]; exact zi_u_ni (by decide)
  have m_9 : 0 ≤ (g 214 7) ∧ (g 214 7) ≤ 8 := I.1 214 7
  refine k_M_canSet I_2 ⟨by omega, by omega⟩ ⟨by omega, by omega⟩ ⟨by omega, by omega⟩ (fun v2 b_10 b_11 b_12 b_13 b_14 b_15 b_16 => ?_)
  refine ⟨fun c22 => ?_, fun c22 => ?_⟩
  · refine ⟨⟨by omega, by omega⟩, ?_⟩
    refine ⟨fun c21 => ?_, fun c21 => ?_⟩
    · exact k_M_set_b28 I_2 F_3 ⟨by omega, by omega⟩ ⟨by omega, by omega⟩ ⟨by omega, by omega⟩ (by omega) (by omega) (by omega) (by omega) (by first | assumption | exact zPs_of (by assumption) (by omega) (by omega) (by omega)) (by omega) (by omega) (by first | assumption | (intro k; rfl) | (intro k; exact eqn_u (by assumption) (by decide) k) | (intro k; exact eqn_u2 (by assumption) (by assumption) (by decide) (by decide) k)) (by first | exact zMt_a (by assumption) (by omega) | exact zMt_b (by assumption) (by assumption) (by omega)) hQ
    · intro g20 e_64
      have I_65 : zk_I g20 := by rw [e_64]; exact zk_upd (zk_nl3 (i := 3) (by omega)).1 (zk_nl3 (i := 3) (by omega)).2 I_2 ⟨by omega, by omega⟩
      have F_66 : zk_fr fr_M_set g g20 := by rw [e_64]; exact zk_fu F_3 (Or.inr (Or.inr (Or.inr (Or.inr (Or.inr ⟨rfl, by omega, by omega⟩)))))
      have m_67 : 0 ≤ (g20 214 6) ∧ (g20 214 6) ≤ 10 := I_65.1 214 6
      have m_68 : g20 214 6 = g1 214 6 := by rw [e_64]; exact zi_u_ne (by decide)
      have m_69 : 0 ≤ (g20 214 7) ∧ (g20 214 7) ≤ 8 := I_65.1 214 7
      have m_70 : g20 214 7 = g1 214 7 := by rw [e_64]; exact zi_u_ne (by decide)
      exact k_M_set_b28 I_65 F_66 ⟨by omega, by omega⟩ ⟨by omega, by omega⟩ ⟨by omega, by omega⟩ (by omega) (by omega) (by omega) (by omega) (by first | assumption | exact zPs_of (by assumption) (by omega) (by omega) (by omega)) (by omega) (by omega) (by first | assumption | (intro k; rfl) | (intro k; exact eqn_u (by assumption) (by decide) k) | (intro k; exact eqn_u2 (by assumption) (by assumption) (by decide) (by decide) k)) (by first | exact zMt_a (by assumption) (by omega) | exact zMt_b (by assumption) (by assumption) (by omega)) hQ
  · have z_74 : ∀ k : Int, 0 ≤ k ∧ k < 10 → (¬ (0 : Int) = 0 ∧ l1 = 1 ∧ k = l2 → g1 220 k = l3) ∧ (¬ (¬ (0 : Int) = 0 ∧ l1 = 1 ∧ k = l2) → g1 220 k = g 220 k) := by
      intro k hk
      have m_71 : 0 ≤ (g1 220 k) ∧ (g1 220 k) ≤ 99 := I_2.1 220 k
      have m_72 : g1 220 k = g 220 k := by rw [e_1]; exact zi_u_ne (by decide)
      have m_73 : 0 ≤ (g 220 k) ∧ (g 220 k) ≤ 99 := I.1 220 k
      omega
    have m_75 : 0 ≤ (g1 214 3) ∧ (g1 214 3) ≤ 6 := I_2.1 214 3
    have m_76 : g1 214 3 = g 214 3 := by rw [e_1]; exact zi_u_ni (by decide)
    have m_77 : 0 ≤ (g 214 3) ∧ (g 214 3) ≤ 6 := I.1 214 3
    exact hQ _ _ I_2 F_3 ⟨by omega, by omega⟩ (by intro hv; first | rfl | exact absurd (by assumption) hv | exact zP_1 (by assumption) (by omega) (by omega) (by omega) hv | exact zP_2 (by assumption) (by omega) (by omega) (by omega) hv) (by intro hv; first | rfl | exact absurd (by assumption) hv | exact zP_1 (by assumption) (by omega) (by omega) (by omega) hv | exact zP_2 (by assumption) (by omega) (by omega) (by omega) hv) z_74 (by first | (intro hv; exact absurd rfl hv) | exact fun _ => zMt_f (by assumption) (by omega) (by assumption) | exact fun _ => zMt_g (by assumption) (by assumption) (by omega) (by assumption)) (by first | (intro hv; exfalso; omega) | exact fun _ => zMt_0 (l1 := 0) (l2 := 0) (l3 := 0) (by assumption)) (by omega) (by omega)
-- SpoutNews$World.countOfWho(I)I
set_option maxRecDepth 100000 in
set_option maxHeartbeats 4000000 in
theorem k_World_countOfWho {r0 : Nat} (hr0 : zs_sh r0 = some (10, 20)) {l1 : Int} {g : zi_M} {Q : Int → zi_M → Prop} (I : zk_I g) (p1 : (-2147483648) ≤ l1 ∧ l1 ≤ 2147483647) (hQ : ∀ v : Int, ((l1 = 0 ∨ l1 = 1 ∨ l1 = 6) → v = g r0 11) → ((l1 = 2 ∨ l1 = 7) → v = 6) → ((l1 = 3 ∨ l1 = 4 ∨ l1 = 5) → v = g r0 8) → (¬ l1 = 0 → ¬ l1 = 1 → ¬ l1 = 2 → ¬ l1 = 3 → ¬ l1 = 4 → ¬ l1 = 5 → ¬ l1 = 6 → ¬ l1 = 7 → v = 0) → (v = zCw (g r0 8) (g r0 11) l1) → Q v g) : w_World_countOfWho r0 l1 g Q := by
  unfold w_World_countOfWho
  refine ⟨⟨by omega, by omega⟩, ?_⟩
  refine ⟨fun c2 => ?_, fun c2 => ?_, fun c2 => ?_, fun c2 => ?_, fun c2 => ?_, fun c2 => ?_, fun c2 => ?_, fun c2 => ?_, fun c2 => ?_⟩
  · have m_1 := zk_c10_11 hr0 I
    have m_2 := zk_c10_8 hr0 I
    exact hQ _ (by intros; omega) (by intros; omega) (by intros; omega) (by intros; omega) (by have hw := zCw_f (g r0 8) (g r0 11) l1; omega)
  · have m_3 := zk_c10_11 hr0 I
    have m_4 := zk_c10_8 hr0 I
    exact hQ _ (by intros; omega) (by intros; omega) (by intros; omega) (by intros; omega) (by have hw := zCw_f (g r0 8) (g r0 11) l1; omega)
  · have m_5 := zk_c10_11 hr0 I
    have m_6 := zk_c10_8 hr0 I
    exact hQ _ (by intros; omega) (by intros; omega) (by intros; omega) (by intros; omega) (by have hw := zCw_f (g r0 8) (g r0 11) l1; omega)
  · have m_7 := zk_c10_11 hr0 I
    have m_8 := zk_c10_8 hr0 I
    exact hQ _ (by intros; omega) (by intros; omega) (by intros; omega) (by intros; omega) (by have hw := zCw_f (g r0 8) (g r0 11) l1; omega)
  · have m_9 := zk_c10_8 hr0 I
    have m_10 := zk_c10_11 hr0 I
    exact hQ _ (by intros; omega) (by intros; omega) (by intros; omega) (by intros; omega) (by have hw := zCw_f (g r0 8) (g r0 11) l1; omega)
  · have m_11 := zk_c10_8 hr0 I
    have m_12 := zk_c10_11 hr0 I
    exact hQ _ (by intros; omega) (by intros; omega) (by intros; omega) (by intros; omega) (by have hw := zCw_f (g r0 8) (g r0 11) l1; omega)
  · have m_13 := zk_c10_8 hr0 I
    have m_14 := zk_c10_11 hr0 I
    exact hQ _ (by intros; omega) (by intros; omega) (by intros; omega) (by intros; omega) (by have hw := zCw_f (g r0 8) (g r0 11) l1; omega)
  · have m_15 := zk_c10_11 hr0 I
    have m_16 := zk_c10_8 hr0 I
    exact hQ _ (by intros; omega) (by intros; omega) (by intros; omega) (by intros; omega) (by have hw := zCw_f (g r0 8) (g r0 11) l1; omega)
  · have m_17 := zk_c10_11 hr0 I
    have m_18 := zk_c10_8 hr0 I
    exact hQ _ (by intros; omega) (by intros; omega) (by intros; omega) (by intros; omega) (by have hw := zCw_f (g r0 8) (g r0 11) l1; omega)
-- SpoutNews$World.countOfWhat(I)I
set_option maxRecDepth 100000 in
set_option maxHeartbeats 4000000 in
theorem k_World_countOfWhat {r0 : Nat} (hr0 : zs_sh r0 = some (10, 20)) {l1 : Int} {g : zi_M} {Q : Int → zi_M → Prop} (I : zk_I g) (p1 : (-2147483648) ≤ l1 ∧ l1 ≤ 2147483647) (hQ : ∀ v : Int, ((l1 = 0 ∨ l1 = 2) → v = g r0 8) → ((l1 = 6) → v = 16) → (¬ l1 = 0 → ¬ l1 = 2 → ¬ l1 = 6 → v = (-1)) → (v = zCt (g r0 8) l1) → Q v g) : w_World_countOfWhat r0 l1 g Q := by
  unfold w_World_countOfWhat
  refine ⟨⟨by omega, by omega⟩, ?_⟩
  refine ⟨fun c2_0 c2_1 c2_2 => ?_, fun c2 => ?_, fun c2 => ?_, fun c2 => ?_⟩
  · have m_1 := zk_c10_8 hr0 I
    exact hQ _ (by intros; omega) (by intros; omega) (by intros; omega) (by have hw := zCt_f (g r0 8) l1; omega)
  · have m_2 := zk_c10_8 hr0 I
    exact hQ _ (by intros; omega) (by intros; omega) (by intros; omega) (by have hw := zCt_f (g r0 8) l1; omega)
  · have m_3 := zk_c10_8 hr0 I
    exact hQ _ (by intros; omega) (by intros; omega) (by intros; omega) (by have hw := zCt_f (g r0 8) l1; omega)
  · have m_4 := zk_c10_8 hr0 I
    exact hQ _ (by intros; omega) (by intros; omega) (by intros; omega) (by have hw := zCt_f (g r0 8) l1; omega)
