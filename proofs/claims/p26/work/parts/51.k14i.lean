-- part
-- SpoutNewsModel.again(I)I
noncomputable def fr_M_again (a : Nat) (i : Int) : Prop := (a = 214 ∧ i = 0)
set_option maxRecDepth 100000 in
set_option maxHeartbeats 4000000 in
theorem k_M_again_l42 {l1 : Int} {K73 : Int → zi_M → Prop} {Q : Int → zi_M → Prop} {g0 : zi_M} (hK73 : ∀ (k2 : Int) (g : zi_M), zk_I g → zk_fr fr_M_again g0 g → ((-2147483648) ≤ k2 ∧ k2 ≤ 2147483647) → (k2 = zal (fun w => zco (fun i => i + g 243 i) z17 0 w 0) z16) → (zst (fun i => i + g 243 i) z16 = 65535) → K73 k2 g) (hQ : ∀ (v : Int) (g' : zi_M), zk_I g' → zk_fr fr_M_again g0 g' → ((-2147483648) ≤ v ∧ v ≤ 2147483647) → (l1 = -1 → zst (fun i => i + g0 243 i) z16 = 65535 → v = zal (fun w => zco (fun i => i + g0 243 i) z17 0 w 0) z16) → (l1 = -1 → ¬ zst (fun i => i + g0 243 i) z16 = 65535 → v = -1) → (0 ≤ l1 → l1 ≤ 15 → v = zco (fun i => i + g0 243 i) z17 0 l1 0) → (l1 < -1 ∨ 15 < l1 → v = -1) → Q v g') : ∀ (n : Nat) {l2 : Int} {l3 : Int} {g : zi_M}, zk_I g → zk_fr fr_M_again g0 g → ((-2147483648) ≤ l2 ∧ l2 ≤ 2147483647) → (0 ≤ l3 ∧ l3 ≤ 16) → (l2 = zal (fun w => zco (fun i => i + g 243 i) z17 0 w 0) l3.toNat) → (1 ≤ l2 ∧ l2.toNat ∣ 720720) → (zst (fun i => i + g 243 i) z16 = 65535) → 16 - l3 < (n : Int) → w_M_again_l42 K73 Q n l2 l3 g
  | 0, l2, l3, g, I, F, b0, b1, b2, b3, b4, hm => by exfalso; omega
  | n + 1, l2, l3, g, I, F, b0, b1, b2, b3, b4, hm => by
    unfold w_M_again_l42
    refine ⟨⟨by omega, by omega⟩, ?_⟩
    refine ⟨fun c22 => ?_, fun c22 => ?_⟩
    · exact hK73 _ _ I F ⟨by omega, by omega⟩ (by exact zal_e b2 (by rw [z16_e]; omega)) (by exact b4)
    · refine k_M_comingFrom I ⟨by omega, by omega⟩ (fun v10 b_10 b_11 b_12 => ?_)
      refine k_M_common I ⟨by omega, by omega⟩ ⟨by omega, by omega⟩ (fun v13 b_13 b_14 b_15 => ?_)
      refine ⟨⟨by omega, by omega⟩, ⟨by omega, by omega⟩, (by omega), ?_⟩
      refine k_M_comingFrom I ⟨by omega, by omega⟩ (fun v19 b_16 b_17 b_18 => ?_)
      have m_19 := zi_tdiv_f l2 v13
      have m_20 := zi_r_w ((Int.tdiv l2 v13) * v19)
      exact k_M_again_l42 hK73 hQ n I F ⟨by omega, by omega⟩ ⟨by omega, by omega⟩ (by first | exact zal_mst (by assumption) b2 b3 (by assumption) (by assumption) (by omega) (by omega) | exact zal_1) (by first | exact zal_msd (f := (fun w => zco (fun i => i + g 243 i) z17 0 w 0)) (i := l3) (by assumption) b3 (by assumption) (by assumption) (by omega) | exact ⟨by decide, by decide⟩) (by first | exact b4 | omega) (by omega)
set_option maxRecDepth 100000 in
set_option maxHeartbeats 4000000 in
theorem k_M_again {l1 : Int} {g : zi_M} {Q : Int → zi_M → Prop} (I : zk_I g) (p1 : (-2147483648) ≤ l1 ∧ l1 ≤ 2147483647) (hQ : ∀ (v : Int) (g' : zi_M), zk_I g' → zk_fr fr_M_again g g' → ((-2147483648) ≤ v ∧ v ≤ 2147483647) → (l1 = -1 → zst (fun i => i + g 243 i) z16 = 65535 → v = zal (fun w => zco (fun i => i + g 243 i) z17 0 w 0) z16) → (l1 = -1 → ¬ zst (fun i => i + g 243 i) z16 = 65535 → v = -1) → (0 ≤ l1 → l1 ≤ 15 → v = zco (fun i => i + g 243 i) z17 0 l1 0) → (l1 < -1 ∨ 15 < l1 → v = -1) → Q v g') : w_M_again l1 g Q := by
  unfold w_M_again
  intro g1 e_1
  have I_2 : zk_I g1 := by rw [e_1]; exact zk_upd (L := (-2147483648)) (H := 2147483647) rfl rfl I ⟨by omega, by omega⟩
  have F_3 : zk_fr fr_M_again g g1 := by rw [e_1]; exact zk_fu (zk_f0 _) ⟨rfl, rfl⟩
  refine k_M_isIn I_2 ⟨by omega, by omega⟩ ⟨by omega, by omega⟩ ⟨by omega, by omega⟩ (fun v2 b_4 b_5 b_6 => ?_)
  refine ⟨fun c31 => ?_, fun c31 => ?_⟩
  · refine ⟨⟨by omega, by omega⟩, ?_⟩
    refine ⟨fun c30 => ?_, fun c30 => ?_⟩
    · refine k_M_isOneToOne I_2 (fun v6 b_7 b_8 b_9 => ?_)
      refine ⟨fun c26 => ?_, fun c26 => ?_⟩
      · refine ⟨((16 - 0 : Int).toNat + 1), k_M_again_l42 (fun k23 g24 I_21 F_22 b_23 b_24 b_25 => ?_) hQ ((16 - 0 : Int).toNat + 1) I_2 F_3 ⟨by omega, by omega⟩ ⟨by omega, by omega⟩ (by first | exact zal_mst (by assumption) b2 b3 (by assumption) (by assumption) (by omega) (by omega) | exact zal_1) (by first | exact zal_msd (f := (fun w => zco (fun i => i + g 243 i) z17 0 w 0)) (i := l3) (by assumption) b3 (by assumption) (by assumption) (by omega) | exact ⟨by decide, by decide⟩) (by first | exact b4 | omega) (by omega)⟩
        exact hQ _ _ I_21 F_22 ⟨by omega, by omega⟩ (by intro hv; first | (exfalso; omega) | (rw [← zM_row (a := 243) (by assumption : zk_fr fr_M_again g g24) (by intro i; unfold fr_M_again; omega)]; intro h9; first | assumption | (exfalso; omega))) (by intro hv; first | (exfalso; omega) | (rw [← zM_row (a := 243) (by assumption : zk_fr fr_M_again g g24) (by intro i; unfold fr_M_again; omega)]; intro h9; first | rfl | exact absurd (by assumption) h9)) (by intro h0 h1; first | (exfalso; omega) | (rw [← zM_row (a := 243) (by assumption : zk_fr fr_M_again g g24) (by intro i; unfold fr_M_again; omega)]; assumption)) (by omega)
      · exact hQ _ _ I_2 F_3 ⟨by omega, by omega⟩ (by intro hv; first | (exfalso; omega) | (rw [← zM_row (a := 243) (by assumption : zk_fr fr_M_again g g1) (by intro i; unfold fr_M_again; omega)]; intro h9; first | assumption | (exfalso; omega))) (by intro hv; first | (exfalso; omega) | (rw [← zM_row (a := 243) (by assumption : zk_fr fr_M_again g g1) (by intro i; unfold fr_M_again; omega)]; intro h9; first | rfl | exact absurd (by assumption) h9)) (by intro h0 h1; first | (exfalso; omega) | (rw [← zM_row (a := 243) (by assumption : zk_fr fr_M_again g g1) (by intro i; unfold fr_M_again; omega)]; assumption)) (by omega)
    · refine k_M_comingFrom I_2 ⟨by omega, by omega⟩ (fun v27 b_26 b_27 b_28 => ?_)
      exact hQ _ _ I_2 F_3 ⟨by omega, by omega⟩ (by intro hv; first | (exfalso; omega) | (rw [← zM_row (a := 243) (by assumption : zk_fr fr_M_again g g1) (by intro i; unfold fr_M_again; omega)]; intro h9; first | assumption | (exfalso; omega))) (by intro hv; first | (exfalso; omega) | (rw [← zM_row (a := 243) (by assumption : zk_fr fr_M_again g g1) (by intro i; unfold fr_M_again; omega)]; intro h9; first | rfl | exact absurd (by assumption) h9)) (by intro h0 h1; first | (exfalso; omega) | (rw [← zM_row (a := 243) (by assumption : zk_fr fr_M_again g g1) (by intro i; unfold fr_M_again; omega)]; assumption)) (by omega)
  · exact hQ _ _ I_2 F_3 ⟨by omega, by omega⟩ (by intro hv; first | (exfalso; omega) | (rw [← zM_row (a := 243) (by assumption : zk_fr fr_M_again g g1) (by intro i; unfold fr_M_again; omega)]; intro h9; first | assumption | (exfalso; omega))) (by intro hv; first | (exfalso; omega) | (rw [← zM_row (a := 243) (by assumption : zk_fr fr_M_again g g1) (by intro i; unfold fr_M_again; omega)]; intro h9; first | rfl | exact absurd (by assumption) h9)) (by intro h0 h1; first | (exfalso; omega) | (rw [← zM_row (a := 243) (by assumption : zk_fr fr_M_again g g1) (by intro i; unfold fr_M_again; omega)]; assumption)) (by omega)
