-- by program (wip/gen/mkz.py)
-- SpoutNewsModel.rest(II)I
set_option maxRecDepth 100000 in
set_option maxHeartbeats 4000000 in
theorem k_M_rest {l1 : Int} {l2 : Int} {g : zi_M} {Q : Int → zi_M → Prop} (I : zk_I g) (p1 : (-2147483648) ≤ l1 ∧ l1 ≤ 2147483647) (p2 : (-2147483648) ≤ l2 ∧ l2 ≤ 2147483647) (hQ : ∀ v : Int, (¬ l2 = 0 → v = Int.tmod l1 l2) → (l2 = 0 → v = l1) → Q v g) : w_M_rest l1 l2 g Q := by
  unfold w_M_rest
  refine ⟨⟨by omega, by omega⟩, ?_⟩
  refine ⟨fun c4 => ?_, fun c4 => ?_⟩
  · refine ⟨⟨by omega, by omega⟩, (by omega), ?_⟩
    have m_1 := zi_tmod_f l1 l2
    exact hQ _ (by intros; omega) (by intros; omega)
  · have m_2 := zi_tmod_f l1 l2
    exact hQ _ (by intros; omega) (by intros; omega)
-- SpoutNewsModel.common(II)I
set_option maxRecDepth 100000 in
set_option maxHeartbeats 4000000 in
theorem k_M_common_l5 {l1 : Int} {l2 : Int} {g : zi_M} (I : zk_I g) {x1 : Int} {x2 : Int} {K29 : Int → zi_M → Prop} {Q : Int → zi_M → Prop} (hK29 : ∀ (k3 : Int), ((-2147483648) ≤ k3 ∧ k3 ≤ 2147483647) → (¬ k3 = 0) → (1 ≤ x1 → 1 ≤ x2 → k3 = ((Nat.gcd x1.toNat x2.toNat : Nat) : Int)) → K29 k3 g) (hQ : ∀ v : Int, ((-2147483648) ≤ v ∧ v ≤ 2147483647) → (¬ v = 0) → (1 ≤ l1 → 1 ≤ l2 → v = ((Nat.gcd l1.toNat l2.toNat : Nat) : Int)) → Q v g) : ∀ (n : Nat) {l3 : Int} {l4 : Int}, ((-2147483648) ≤ l3 ∧ l3 ≤ 2147483647) → ((-2147483648) ≤ l4 ∧ l4 ≤ 2147483647) → (¬ l4 = 0 ∨ ¬ l3 = 0) → (zgc x1 x2 l3 l4) → max l4 (-l4) < (n : Int) → w_M_common_l5 K29 Q n l3 l4 g
  | 0, l3, l4, b0, b1, b2, b3, hm => by exfalso; omega
  | n + 1, l3, l4, b0, b1, b2, b3, hm => by
    unfold w_M_common_l5
    refine ⟨⟨by omega, by omega⟩, ?_⟩
    refine ⟨fun c5 => ?_, fun c5 => ?_⟩
    · exact hK29 _ ⟨by omega, by omega⟩ (by omega) (by exact zgc_x b3 (by omega))
    · have hz := zi_tmod_abs l3 l4 (by omega)
      have m_3 := zi_tmod_f (l3) (l4)
      refine k_M_rest I ⟨by omega, by omega⟩ ⟨by omega, by omega⟩ (fun v2 b_1 b_2 => ?_)
      exact k_M_common_l5 I hK29 hQ n ⟨by omega, by omega⟩ ⟨by omega, by omega⟩ (by omega) (by first | exact zgc_st b3 (by assumption) (by assumption) | exact zgc_0) (by omega)
set_option maxRecDepth 100000 in
set_option maxHeartbeats 4000000 in
theorem k_M_common {l1 : Int} {l2 : Int} {g : zi_M} {Q : Int → zi_M → Prop} (I : zk_I g) (p1 : (-2147483648) ≤ l1 ∧ l1 ≤ 2147483647) (p2 : 1 ≤ l2 ∧ l2 ≤ 65535) (hQ : ∀ v : Int, ((-2147483648) ≤ v ∧ v ≤ 2147483647) → (¬ v = 0) → (1 ≤ l1 → 1 ≤ l2 → v = ((Nat.gcd l1.toNat l2.toNat : Nat) : Int)) → Q v g) : w_M_common l1 l2 g Q := by
  unfold w_M_common
  refine ⟨((max l2 (-l2) : Int).toNat + 1), k_M_common_l5 (x1 := l1) (x2 := l2) I (fun k6 b_4 b_5 b_6 => ?_) hQ ((max l2 (-l2) : Int).toNat + 1) ⟨by omega, by omega⟩ ⟨by omega, by omega⟩ (by omega) (by first | exact zgc_st b3 (by assumption) (by assumption) | exact zgc_0) (by omega)⟩
  exact hQ _ ⟨by omega, by omega⟩ (by omega) (by assumption)
-- SpoutNewsModel.again(I)I
set_option maxRecDepth 100000 in
set_option maxHeartbeats 4000000 in
theorem k_M_again_l42 {l1 : Int} {K73 : Int → zi_M → Prop} {Q : Int → zi_M → Prop} {g0 : zi_M} (hK73 : ∀ (k2 : Int) (g : zi_M), zk_I g → zk_fr fr_M_again g0 g → ((-2147483648) ≤ k2 ∧ k2 ≤ 2147483647) → (k2 = zal (fun w => zco (fun i => i + g 243 i) z17 0 w 0) z16) → (zst (fun i => i + g 243 i) z16 = 65535) → K73 k2 g) (hQ : ∀ (v : Int) (g' : zi_M), zk_I g' → zk_fr fr_M_again g0 g' → ((-2147483648) ≤ v ∧ v ≤ 2147483647) → (l1 = -1 → zst (fun i => i + g0 243 i) z16 = 65535 → v = zal (fun w => zco (fun i => i + g0 243 i) z17 0 w 0) z16) → (l1 = -1 → ¬ zst (fun i => i + g0 243 i) z16 = 65535 → v = -1) → (0 ≤ l1 → l1 ≤ 15 → v = zco (fun i => i + g0 243 i) z17 0 l1 0) → (l1 < -1 ∨ 15 < l1 → v = -1) → Q v g') : ∀ (n : Nat) {l2 : Int} {l3 : Int} {g : zi_M}, zk_I g → zk_fr fr_M_again g0 g → ((-2147483648) ≤ l2 ∧ l2 ≤ 2147483647) → (0 ≤ l3 ∧ l3 ≤ 16) → (l2 = zal (fun w => zco (fun i => i + g 243 i) z17 0 w 0) l3.toNat) → (1 ≤ l2 ∧ l2.toNat ∣ 720720) → (zst (fun i => i + g 243 i) z16 = 65535) → 16 - l3 < (n : Int) → w_M_again_l42 K73 Q n l2 l3 g
  | 0, l2, l3, g, I, F, b0, b1, b2, b3, b4, hm => by exfalso; omega
  | n + 1, l2, l3, g, I, F, b0, b1, b2, b3, b4, hm => by
    unfold w_M_again_l42
    refine ⟨⟨by omega, by omega⟩, ?_⟩
    refine ⟨fun c22 => ?_, fun c22 => ?_⟩
    · exact hK73 _ _ I F ⟨by omega, by omega⟩ (by exact zal_e b2 (by rw [z16_e]; omega)) (by exact b4)
    · refine k_M_comingFrom I ⟨by omega, by omega⟩ (fun v10 b_10 b_11 b_12 => ?_)
      refine k_M_common I ⟨by omega, by omega⟩ ⟨by omega, by omega⟩ (fun v13 b_13 b_14 b_15 => ?_)
      refine ⟨⟨by omega, by omega⟩, ⟨by omega, by omega⟩, (by omega), ?_⟩
      refine k_M_comingFrom I ⟨by omega, by omega⟩ (fun v19 b_16 b_17 b_18 => ?_)
      have m_19 := zi_tdiv_f l2 v13
      have m_20 := zi_r_w ((Int.tdiv l2 v13) * v19)
      exact k_M_again_l42 hK73 hQ n I F ⟨by omega, by omega⟩ ⟨by omega, by omega⟩ (by first | exact zal_mst (by assumption) b2 b3 (by assumption) (by assumption) (by omega) (by omega) | exact zal_1) (by first | exact zal_msd (f := (fun w => zco (fun i => i + g 243 i) z17 0 w 0)) (i := l3) (by assumption) b3 (by assumption) (by assumption) (by omega) | exact ⟨by decide, by decide⟩) (by first | exact b4 | omega) (by omega)
set_option maxRecDepth 100000 in
set_option maxHeartbeats 4000000 in
theorem k_M_again {l1 : Int} {g : zi_M} {Q : Int → zi_M → Prop} (I : zk_I g) (p1 : (-2147483648) ≤ l1 ∧ l1 ≤ 2147483647) (hQ : ∀ (v : Int) (g' : zi_M), zk_I g' → zk_fr fr_M_again g g' → ((-2147483648) ≤ v ∧ v ≤ 2147483647) → (l1 = -1 → zst (fun i => i + g 243 i) z16 = 65535 → v = zal (fun w => zco (fun i => i + g 243 i) z17 0 w 0) z16) → (l1 = -1 → ¬ zst (fun i => i + g 243 i) z16 = 65535 → v = -1) → (0 ≤ l1 → l1 ≤ 15 → v = zco (fun i => i + g 243 i) z17 0 l1 0) → (l1 < -1 ∨ 15 < l1 → v = -1) → Q v g') : w_M_again l1 g Q := by
  unfold w_M_again
  intro g1 e_1
  have I_2 : zk_I g1 := by rw [e_1]; exact zk_upd (L := (-2147483648)) (H := 2147483647) rfl rfl I ⟨by omega, by omega⟩
  have F_3 : zk_fr fr_M_again g g1 := by rw [e_1]; exact zk_fu (zk_f0 _) ⟨rfl, rfl⟩
  refine k_M_isIn I_2 ⟨by omega, by omega⟩ ⟨by omega, by omega⟩ ⟨by omega, by omega⟩ (fun v2 b_4 b_5 b_6 => ?_)
  refine ⟨fun c31 => ?_, fun c31 => ?_⟩
  · refine ⟨⟨by omega, by omega⟩, ?_⟩
    refine ⟨fun c30 => ?_, fun c30 => ?_⟩
    · refine k_M_isOneToOne I_2 (fun v6 b_7 b_8 b_9 => ?_)
      refine ⟨fun c26 => ?_, fun c26 => ?_⟩
      · refine ⟨((16 - 0 : Int).toNat + 1), k_M_again_l42 (fun k23 g24 I_21 F_22 b_23 b_24 b_25 => ?_) hQ ((16 - 0 : Int).toNat + 1) I_2 F_3 ⟨by omega, by omega⟩ ⟨by omega, by omega⟩ (by first | exact zal_mst (by assumption) b2 b3 (by assumption) (by assumption) (by omega) (by omega) | exact zal_1) (by first | exact zal_msd (f := (fun w => zco (fun i => i + g 243 i) z17 0 w 0)) (i := l3) (by assumption) b3 (by assumption) (by assumption) (by omega) | exact ⟨by decide, by decide⟩) (by first | exact b4 | omega) (by omega)⟩
        exact hQ _ _ I_21 F_22 ⟨by omega, by omega⟩ (by intro hv; first | (exfalso; omega) | (rw [← zM_row (a := 243) (by assumption : zk_fr fr_M_again g g24) (by intro i; unfold fr_M_again; omega)]; intro h9; first | assumption | (exfalso; omega))) (by intro hv; first | (exfalso; omega) | (rw [← zM_row (a := 243) (by assumption : zk_fr fr_M_again g g24) (by intro i; unfold fr_M_again; omega)]; intro h9; first | rfl | exact absurd (by assumption) h9)) (by intro h0 h1; first | (exfalso; omega) | (rw [← zM_row (a := 243) (by assumption : zk_fr fr_M_again g g24) (by intro i; unfold fr_M_again; omega)]; assumption)) (by omega)
      · exact hQ _ _ I_2 F_3 ⟨by omega, by omega⟩ (by intro hv; first | (exfalso; omega) | (rw [← zM_row (a := 243) (by assumption : zk_fr fr_M_again g g1) (by intro i; unfold fr_M_again; omega)]; intro h9; first | assumption | (exfalso; omega))) (by intro hv; first | (exfalso; omega) | (rw [← zM_row (a := 243) (by assumption : zk_fr fr_M_again g g1) (by intro i; unfold fr_M_again; omega)]; intro h9; first | rfl | exact absurd (by assumption) h9)) (by intro h0 h1; first | (exfalso; omega) | (rw [← zM_row (a := 243) (by assumption : zk_fr fr_M_again g g1) (by intro i; unfold fr_M_again; omega)]; assumption)) (by omega)
    · refine k_M_comingFrom I_2 ⟨by omega, by omega⟩ (fun v27 b_26 b_27 b_28 => ?_)
      exact hQ _ _ I_2 F_3 ⟨by omega, by omega⟩ (by intro hv; first | (exfalso; omega) | (rw [← zM_row (a := 243) (by assumption : zk_fr fr_M_again g g1) (by intro i; unfold fr_M_again; omega)]; intro h9; first | assumption | (exfalso; omega))) (by intro hv; first | (exfalso; omega) | (rw [← zM_row (a := 243) (by assumption : zk_fr fr_M_again g g1) (by intro i; unfold fr_M_again; omega)]; intro h9; first | rfl | exact absurd (by assumption) h9)) (by intro h0 h1; first | (exfalso; omega) | (rw [← zM_row (a := 243) (by assumption : zk_fr fr_M_again g g1) (by intro i; unfold fr_M_again; omega)]; assumption)) (by omega)
  · exact hQ _ _ I_2 F_3 ⟨by omega, by omega⟩ (by intro hv; first | (exfalso; omega) | (rw [← zM_row (a := 243) (by assumption : zk_fr fr_M_again g g1) (by intro i; unfold fr_M_again; omega)]; intro h9; first | assumption | (exfalso; omega))) (by intro hv; first | (exfalso; omega) | (rw [← zM_row (a := 243) (by assumption : zk_fr fr_M_again g g1) (by intro i; unfold fr_M_again; omega)]; intro h9; first | rfl | exact absurd (by assumption) h9)) (by intro h0 h1; first | (exfalso; omega) | (rw [← zM_row (a := 243) (by assumption : zk_fr fr_M_again g g1) (by intro i; unfold fr_M_again; omega)]; assumption)) (by omega)
-- SpoutNews.isRow(I)Z
theorem k_S_isRow_a {l0 : Int} {g : zi_M} {Q : Int → zi_M → Prop} (p0 : (-2147483648) ≤ l0 ∧ l0 ≤ 2147483647) {r1 r2 r3 r4 d0 d1 d2 d3 : Int} (e0 : Int.tdiv l0 10 = r1) (f0 : Int.tmod l0 10 = d0) (e1 : Int.tdiv r1 10 = r2) (f1 : Int.tmod r1 10 = d1) (e2 : Int.tdiv r2 10 = r3) (f2 : Int.tmod r2 10 = d2) (e3 : Int.tdiv r3 10 = r4) (f3 : Int.tmod r3 10 = d3)
    (b1 : zi_r r1) (b2 : zi_r r2) (b3 : zi_r r3) (b4 : zi_r r4) (c0 : zi_r d0) (c1 : zi_r d1) (c2 : zi_r d2) (c3 : zi_r d3)
    (bad0 : d0 < 0 ∨ 4 ≤ d0 → Q 0 g) (bad1 : d1 < 0 ∨ 4 ≤ d1 → Q 0 g) (bad2 : d2 < 0 ∨ 4 ≤ d2 → Q 0 g) (bad3 : d3 < 0 ∨ 4 ≤ d3 → Q 0 g) (fin : 0 ≤ d0 → 0 ≤ d1 → 0 ≤ d2 → 0 ≤ d3 → d0 < 4 → d1 < 4 → d2 < 4 → d3 < 4 → (¬ r4 = 0 → Q 0 g) ∧ (r4 = 0 → (¬ zbits d0 d1 d2 d3 = 15 → Q 0 g) ∧ (zbits d0 d1 d2 d3 = 15 → Q 1 g))) : w_S_isRow l0 g Q := by
  unfold w_S_isRow
  refine ⟨5, ?_⟩
  unfold w_S_isRow_l6
  rw [e0, f0]
  refine ⟨⟨by decide, by decide⟩, fun q => absurd q (by decide), fun _ => ⟨p0, c0, fun q => bad0 (Or.inl q), fun g0 => ⟨fun u0 => ?_, fun q => bad0 (Or.inr q)⟩⟩⟩
  unfold w_S_isRow_l6
  rw [e1, f1]
  refine ⟨⟨by decide, by decide⟩, fun q => absurd q (by decide), fun _ => ⟨b1, c1, fun q => bad1 (Or.inl q), fun g1 => ⟨fun u1 => ?_, fun q => bad1 (Or.inr q)⟩⟩⟩
  unfold w_S_isRow_l6
  rw [e2, f2]
  refine ⟨⟨by decide, by decide⟩, fun q => absurd q (by decide), fun _ => ⟨b2, c2, fun q => bad2 (Or.inl q), fun g2 => ⟨fun u2 => ?_, fun q => bad2 (Or.inr q)⟩⟩⟩
  unfold w_S_isRow_l6
  rw [e3, f3]
  refine ⟨⟨by decide, by decide⟩, fun q => absurd q (by decide), fun _ => ⟨b3, c3, fun q => bad3 (Or.inl q), fun g3 => ⟨fun u3 => ?_, fun q => bad3 (Or.inr q)⟩⟩⟩
  unfold w_S_isRow_l6
  have ff := fin g0 g1 g2 g3 u0 u1 u2 u3
  exact ⟨⟨by decide, by decide⟩, fun _ => ⟨b4, ff.1, fun z => ⟨zi_r_or _ _, (ff.2 z).1, (ff.2 z).2⟩⟩, fun q => absurd q (by decide)⟩
theorem k_S_isRow {l0 : Int} {g : zi_M} {Q : Int → zi_M → Prop} (I : zk_I g) (p0 : (-2147483648) ≤ l0 ∧ l0 ≤ 2147483647) (hQ : ∀ v : Int, (0 ≤ v ∧ v ≤ 1) → ((zrow l0 → v = 1) ∧ (¬ zrow l0 → v = 0)) → Q v g) : w_S_isRow l0 g Q := by
  have bad : ¬ zrow l0 → Q 0 g := fun n => hQ 0 ⟨by decide, by decide⟩ ⟨fun q => absurd q n, fun _ => rfl⟩
  have good : zrow l0 → Q 1 g := fun q => hQ 1 ⟨by decide, by decide⟩ ⟨fun _ => rfl, fun n => absurd q n⟩
  obtain ⟨r1, d0, e0, f0, g0, h0, k0⟩ := zi_tdv l0
  obtain ⟨r2, d1, e1, f1, g1, h1, k1⟩ := zi_tdv r1
  obtain ⟨r3, d2, e2, f2, g2, h2, k2⟩ := zi_tdv r2
  obtain ⟨r4, d3, e3, f3, g3, h3, k3⟩ := zi_tdv r3
  by_cases hn : 0 ≤ l0
  · have a0 := h0 hn
    have a1 := h1 a0.2.2
    have a2 := h2 a1.2.2
    have a3 := h3 a2.2.2
    clear h0 k0 h1 k1 h2 k2 h3 k3
    have x0 : l0 % 10 = d0 := by omega
    have x1 : l0 / 10 % 10 = d1 := by omega
    have x2 : l0 / 100 % 10 = d2 := by omega
    have x3 : l0 / 1000 = 10 * r4 + d3 := by omega
    have zr : zrow l0 → d0 ≤ 3 ∧ d1 ≤ 3 ∧ d2 ≤ 3 ∧ 10 * r4 + d3 ≤ 3 := by
      intro h
      obtain ⟨_, h2⟩ := h
      unfold zj_row at h2
      rw [x0, x1, x2, x3] at h2
      exact ⟨h2.2.2.2.1.2, h2.2.2.1.2, h2.2.1.2, h2.1.2⟩
    refine k_S_isRow_a p0 e0 f0 e1 f1 e2 f2 e3 f3 ⟨by omega, by omega⟩ ⟨by omega, by omega⟩ ⟨by omega, by omega⟩ ⟨by omega, by omega⟩ ⟨by omega, by omega⟩ ⟨by omega, by omega⟩ ⟨by omega, by omega⟩ ⟨by omega, by omega⟩ (fun q => bad (fun z => by have := zr z; omega)) (fun q => bad (fun z => by have := zr z; omega)) (fun q => bad (fun z => by have := zr z; omega)) (fun q => bad (fun z => by have := zr z; omega)) ?_
    intro m0 m1 m2 m3 u0 u1 u2 u3
    have hb := zbits_i (a := d0) (b := d1) (c := d2) (d := d3) ⟨m0, by omega⟩ ⟨m1, by omega⟩ ⟨m2, by omega⟩ ⟨m3, by omega⟩
    refine ⟨fun n => bad (fun z => by have := zr z; omega), fun z0 => ⟨fun n => bad (fun z => n ?_), fun e => good ?_⟩⟩
    · obtain ⟨_, hz⟩ := z
      unfold zj_row at hz
      rw [x0, x1, x2, x3, z0] at hz
      obtain ⟨_, _, _, _, y1, y2, y3, y4, y5, y6⟩ := hz
      exact hb.2 ⟨fun q => y6 q.symm, fun q => y5 q.symm, fun q => y3 (by omega), fun q => y4 q.symm, fun q => y2 (by omega), fun q => y1 (by omega)⟩
    · obtain ⟨y1, y2, y3, y4, y5, y6⟩ := hb.1 e
      refine ⟨⟨hn, by omega⟩, ?_⟩
      unfold zj_row
      rw [x0, x1, x2, x3, z0]
      exact ⟨⟨by omega, by omega⟩, ⟨m2, by omega⟩, ⟨m1, by omega⟩, ⟨m0, by omega⟩, fun q => y6 (by omega), fun q => y5 (by omega), fun q => y3 (by omega), fun q => y4 q.symm, fun q => y2 q.symm, fun q => y1 q.symm⟩
  · have nz : ¬ zrow l0 := fun z => hn z.1.1
    have b := bad nz
    have a0 := k0 (by omega)
    have s1 : r1 ≤ 0 ∧ -9 ≤ d1 ∧ d1 ≤ 9 ∧ r2 ≤ 0 ∧ (0 ≤ d1 → d1 = 0 ∨ r1 = 0) := by
      by_cases q : 0 ≤ r1
      · have := h1 q; omega
      · have := k1 (by omega); omega
    have s2 : -9 ≤ d2 ∧ d2 ≤ 9 ∧ r3 ≤ 0 := by
      by_cases q : 0 ≤ r2
      · have := h2 q; omega
      · have := k2 (by omega); omega
    have s3 : -9 ≤ d3 ∧ d3 ≤ 9 ∧ r4 ≤ 0 := by
      by_cases q : 0 ≤ r3
      · have := h3 q; omega
      · have := k3 (by omega); omega
    refine k_S_isRow_a p0 e0 f0 e1 f1 e2 f2 e3 f3 ⟨by omega, by omega⟩ ⟨by omega, by omega⟩ ⟨by omega, by omega⟩ ⟨by omega, by omega⟩ ⟨by omega, by omega⟩ ⟨by omega, by omega⟩ ⟨by omega, by omega⟩ ⟨by omega, by omega⟩ (fun _ => b) (fun _ => b) (fun _ => b) (fun _ => b) ?_
    intro m0 m1 m2 m3 u0 u1 u2 u3
    refine ⟨fun _ => b, fun z0 => ⟨fun _ => b, fun _ => ?_⟩⟩
    exfalso
    clear b bad good hQ h0 k0 e0 f0 e1 f1 e2 f2 e3 f3
    have w3 : r3 = 0 := by
      by_cases q : 0 ≤ r3
      · omega
      · have := k3 (by omega); omega
    have w2 : r2 = 0 := by
      by_cases q : 0 ≤ r2
      · omega
      · have := k2 (by omega); omega
    have w1 : r1 = 0 := by
      by_cases q : 0 ≤ r1
      · omega
      · have := k1 (by omega); omega
    omega

-- SpoutNews.mason(IZI)Z
-- KEEPS: offers go out
noncomputable def zpl (r : Int → Int) (m : Int) : Int := if r 0 = m then 0 else if r 1 = m then 1 else if r 2 = m then 2 else if r 3 = m then 3 else 4
noncomputable def zpm (r : Int → Int) : Prop := zj_row (r 0) (r 1) (r 2) (r 3)
theorem zpl_in {r : Int → Int} {m : Int} (h : zpm r) (hm : 0 ≤ m ∧ m ≤ 3) : (0 ≤ zpl r m ∧ zpl r m ≤ 3) ∧ r (zpl r m) = m := by
  unfold zpm zj_row at h
  unfold zpl
  by_cases a : r 0 = m
  · rw [if_pos a]; exact ⟨by decide, a⟩
  · rw [if_neg a]
    by_cases b : r 1 = m
    · rw [if_pos b]; exact ⟨by decide, b⟩
    · rw [if_neg b]
      by_cases c : r 2 = m
      · rw [if_pos c]; exact ⟨by decide, c⟩
      · rw [if_neg c]
        have d : r 3 = m := by
          generalize r 0 = x at *
          generalize r 1 = y at *
          generalize r 2 = z at *
          generalize r 3 = w at *
          omega
        rw [if_pos d]; exact ⟨by decide, d⟩
theorem zpl_ne {r : Int → Int} {m n : Int} (h : zpm r) (hm : 0 ≤ m ∧ m ≤ 3) (hn : 0 ≤ n ∧ n ≤ 3) (ne : ¬ m = n) : ¬ zpl r m = zpl r n := fun e => by
  have h1 := (zpl_in h hm).2
  have h2 := (zpl_in h hn).2
  rw [e, h2] at h1
  exact ne h1.symm
theorem zpl_c {r t : Int → Int} {m : Int} (e : ∀ k : Int, 0 ≤ k → k ≤ 3 → r k = t k) : zpl r m = zpl t m := by
  unfold zpl
  rw [e 0 (by decide) (by decide), e 1 (by decide) (by decide), e 2 (by decide) (by decide), e 3 (by decide) (by decide)]
theorem zpm_r {r : Int → Int} (h : zpm r) {k : Int} (hk : 0 ≤ k ∧ k ≤ 3) : 0 ≤ r k ∧ r k ≤ 3 := by
  unfold zpm zj_row at h
  by_cases a : k = 0
  · rw [a]; omega
  · by_cases b : k = 1
    · rw [b]; omega
    · by_cases c : k = 2
      · rw [c]; omega
      · rw [show k = 3 by omega]; omega
theorem zpm_on {r : Int → Int} (h : zpm r) {s : Int} (hs : 0 ≤ s ∧ s ≤ 3) : ∃ k : Int, 0 ≤ k ∧ k ≤ 3 ∧ r k = s := ⟨zpl r s, (zpl_in h hs).1.1, (zpl_in h hs).1.2, (zpl_in h hs).2⟩
/-- a mason whom no stone has -/
noncomputable def zfr (K : Int → Int) (m : Int) : Prop := ∀ s : Int, 0 ≤ s → s ≤ 3 → ¬ K s = m + 1
theorem zfr_4 {K : Int → Int} {m : Int} : zfr K m ↔ (¬ K 0 = m + 1 ∧ ¬ K 1 = m + 1 ∧ ¬ K 2 = m + 1 ∧ ¬ K 3 = m + 1) := by
  constructor
  · intro h
    exact ⟨h 0 (by decide) (by decide), h 1 (by decide) (by decide), h 2 (by decide) (by decide), h 3 (by decide) (by decide)⟩
  · intro h s s0 s1
    by_cases a : s = 0
    · rw [a]; exact h.1
    · by_cases b : s = 1
      · rw [b]; exact h.2.1
      · by_cases c : s = 2
        · rw [c]; exact h.2.2.1
        · rw [show s = 3 by omega]; exact h.2.2.2
theorem zfr_no {K : Int → Int} {m : Int} (h : ¬ zfr K m) : ∃ s : Int, 0 ≤ s ∧ s ≤ 3 ∧ K s = m + 1 := by
  refine Classical.byContradiction (fun n => h (fun s s0 s1 e => n ⟨s, s0, s1, e⟩))
noncomputable def zfm (K : Int → Int) : Int :=
  if ¬ K 0 = 0 + 1 ∧ ¬ K 1 = 0 + 1 ∧ ¬ K 2 = 0 + 1 ∧ ¬ K 3 = 0 + 1 then 0 else
  if ¬ K 0 = 1 + 1 ∧ ¬ K 1 = 1 + 1 ∧ ¬ K 2 = 1 + 1 ∧ ¬ K 3 = 1 + 1 then 1 else
  if ¬ K 0 = 2 + 1 ∧ ¬ K 1 = 2 + 1 ∧ ¬ K 2 = 2 + 1 ∧ ¬ K 3 = 2 + 1 then 2 else
  if ¬ K 0 = 3 + 1 ∧ ¬ K 1 = 3 + 1 ∧ ¬ K 2 = 3 + 1 ∧ ¬ K 3 = 3 + 1 then 3 else -1
theorem zfm_all (K : Int → Int) : (zfm K = -1 ∧ ∀ m : Int, 0 ≤ m → m ≤ 3 → ¬ zfr K m) ∨ ((0 ≤ zfm K ∧ zfm K ≤ 3) ∧ zfr K (zfm K) ∧ ∀ j : Int, 0 ≤ j → j < zfm K → ¬ zfr K j) := by
  have e0 := zfr_4 (K := K) (m := 0)
  have e1 := zfr_4 (K := K) (m := 1)
  have e2 := zfr_4 (K := K) (m := 2)
  have e3 := zfr_4 (K := K) (m := 3)
  unfold zfm
  by_cases a : zfr K 0
  · rw [if_pos (e0.1 a)]
    exact Or.inr ⟨by decide, a, fun j h0 h1 => by exfalso; omega⟩
  · rw [if_neg (fun z => a (e0.2 z))]
    by_cases b : zfr K 1
    · rw [if_pos (e1.1 b)]
      exact Or.inr ⟨by decide, b, fun j h0 h1 => by rw [show j = 0 by omega]; exact a⟩
    · rw [if_neg (fun z => b (e1.2 z))]
      by_cases c : zfr K 2
      · rw [if_pos (e2.1 c)]
        refine Or.inr ⟨by decide, c, fun j h0 h1 => ?_⟩
        by_cases q : j = 0
        · rw [q]; exact a
        · rw [show j = 1 by omega]; exact b
      · rw [if_neg (fun z => c (e2.2 z))]
        by_cases d : zfr K 3
        · rw [if_pos (e3.1 d)]
          refine Or.inr ⟨by decide, d, fun j h0 h1 => ?_⟩
          by_cases q : j = 0
          · rw [q]; exact a
          · by_cases q1 : j = 1
            · rw [q1]; exact b
            · rw [show j = 2 by omega]; exact c
        · rw [if_neg (fun z => d (e3.2 z))]
          refine Or.inl ⟨rfl, fun m h0 h1 => ?_⟩
          by_cases q : m = 0
          · rw [q]; exact a
          · by_cases q1 : m = 1
            · rw [q1]; exact b
            · by_cases q2 : m = 2
              · rw [q2]; exact c
              · rw [show m = 3 by omega]; exact d
theorem zfm_is {K : Int → Int} {m : Int} (h0 : 0 ≤ m ∧ m ≤ 3) (h1 : zfr K m) (h2 : ∀ j : Int, 0 ≤ j → j < m → ¬ zfr K j) : zfm K = m := by
  rcases zfm_all K with h | h
  · exact absurd h1 (h.2 m h0.1 h0.2)
  · obtain ⟨a, b, c⟩ := h
    by_cases q : zfm K < m
    · exact absurd b (h2 _ a.1 q)
    · by_cases q2 : m < zfm K
      · exact absurd h1 (c m h0.1 q2)
      · omega
theorem zfm_no {K : Int → Int} (h : ∀ m : Int, 0 ≤ m → m ≤ 3 → ¬ zfr K m) : zfm K = -1 := by
  rcases zfm_all K with a | a
  · exact a.1
  · exact absurd a.2.1 (h _ a.1.1 a.1.2)
theorem zfm_c {K L : Int → Int} (e : ∀ s : Int, 0 ≤ s → s ≤ 3 → K s = L s) : zfm K = zfm L := by
  unfold zfm
  rw [e 0 (by decide) (by decide), e 1 (by decide) (by decide), e 2 (by decide) (by decide), e 3 (by decide) (by decide)]
-- one offer
noncomputable def zsK (D R : Int → Int → Int) (K O : Int → Int) : Int → Int := if K (D (zfm K) (O (zfm K))) = 0 ∨ zpl (R (D (zfm K) (O (zfm K)))) (zfm K) < zpl (R (D (zfm K) (O (zfm K)))) (K (D (zfm K) (O (zfm K))) - 1) then zup K (D (zfm K) (O (zfm K))) (zfm K + 1) else K
noncomputable def zsO (K O : Int → Int) : Int → Int := zup O (zfm K) (O (zfm K) + 1)
noncomputable def zru (D R : Int → Int → Int) : Nat → (Int → Int) × (Int → Int)
  | 0 => (fun _ => 0, fun _ => 0)
  | n + 1 => (zsK D R (zru D R n).1 (zru D R n).2, zsO (zru D R n).1 (zru D R n).2)
noncomputable def zgo (D R : Int → Int → Int) (k : Nat) : Prop := ∀ j : Nat, j < k → ¬ zfm (zru D R j).1 = -1
noncomputable def zEnd (D R : Int → Int → Int) (k : Nat) : Prop := zgo D R k ∧ zfm (zru D R k).1 = -1
theorem zEnd_u {D R : Int → Int → Int} {k j : Nat} (h1 : zEnd D R k) (h2 : zEnd D R j) : k = j := by
  rcases Nat.lt_trichotomy k j with q | q | q
  · exact absurd h1.2 (h2.1 k q)
  · exact q
  · exact absurd h2.2 (h1.1 j q)
noncomputable def zpD (D : Int → Int → Int) : Prop := ∀ m : Int, 0 ≤ m → m ≤ 3 → zpm (D m)
/-- what holds all the way -/
noncomputable def zki (D : Int → Int → Int) (K O : Int → Int) (n : Int) : Prop := (∀ s : Int, 0 ≤ s → s ≤ 3 → 0 ≤ K s ∧ K s ≤ 4) ∧ (∀ m : Int, 0 ≤ m → m ≤ 3 → 0 ≤ O m ∧ O m ≤ 4) ∧ O 0 + O 1 + O 2 + O 3 = n ∧ (∀ s t : Int, 0 ≤ s → s ≤ 3 → 0 ≤ t → t ≤ 3 → ¬ s = t → ¬ K s = 0 → ¬ K s = K t) ∧ (∀ m j : Int, 0 ≤ m → m ≤ 3 → 0 ≤ j → j < O m → ¬ K (D m j) = 0)
theorem zki_0 {D : Int → Int → Int} : zki D (fun _ => 0) (fun _ => 0) 0 := ⟨fun _ _ _ => ⟨Int.le_refl 0, (by decide : (0 : Int) ≤ 4)⟩, fun _ _ _ => ⟨Int.le_refl 0, (by decide : (0 : Int) ≤ 4)⟩, rfl, fun _ _ _ _ _ _ _ h => absurd rfl h, fun m j _ _ h0 h1 => by exfalso; dsimp only at h1; omega⟩
theorem zki_3 {D : Int → Int → Int} {K O : Int → Int} {n m : Int} (hD : zpD D) (h : zki D K O n) (hm : 0 ≤ m ∧ m ≤ 3) (fr : zfr K m) : O m ≤ 3 := by
  obtain ⟨kb, ob, -, hd, ho⟩ := h
  refine Classical.byContradiction (fun n4 => ?_)
  have all : ∀ s : Int, 0 ≤ s → s ≤ 3 → ¬ K s = 0 := by
    intro s s0 s1
    obtain ⟨k, k0, k1, kk⟩ := zpm_on (hD m hm.1 hm.2) ⟨s0, s1⟩
    have := ho m k hm.1 hm.2 k0 (by omega)
    rw [kk] at this
    exact this
  obtain ⟨i, j, hij, hj, e⟩ := zk_ph 3 (fun i => let v := K (i : Int); if v < m + 1 then v - 1 else v - 2) (by
    intro i hi
    have fi := fr i (by omega) (by omega)
    have ni := all i (by omega) (by omega)
    have ki := kb i (by omega) (by omega)
    simp only
    split <;> omega)
  have fi := fr i (by omega) (by omega)
  have fj := fr j (by omega) (by omega)
  have ni := all i (by omega) (by omega)
  have dij := hd i j (by omega) (by omega) (by omega) (by omega) (by omega) ni
  simp only at e
  split at e <;> split at e <;> omega
theorem zki_st {D R : Int → Int → Int} {K O : Int → Int} {n : Int} (hD : zpD D) (h : zki D K O n) (hm : ¬ zfm K = -1) : zki D (zsK D R K O) (zsO K O) (n + 1) := by
  rcases zfm_all K with q | q
  · exact absurd q.1 hm
  obtain ⟨m0, fr, -⟩ := q
  have o3 := zki_3 hD h m0 fr
  obtain ⟨kb, ob, sm, hd, ho⟩ := h
  unfold zsK zsO
  generalize zfm K = m at *
  have om := ob m m0.1 m0.2
  have sb := zpm_r (hD m m0.1 m0.2) (k := O m) ⟨om.1, o3⟩
  have u246 : zup O m (O m + 1) m = O m + 1 := zup_e
  have v246 : ∀ i : Int, ¬ i = m → zup O m (O m + 1) i = O i := fun i hi => zup_n hi
  have hO : ∀ i : Int, 0 ≤ i → i ≤ 3 → 0 ≤ zup O m (O m + 1) i ∧ zup O m (O m + 1) i ≤ 4 := fun i i0 i1 => by
    by_cases q : i = m
    · rw [q, u246]; omega
    · rw [v246 i q]; exact ob i i0 i1
  have hS : zup O m (O m + 1) 0 + zup O m (O m + 1) 1 + zup O m (O m + 1) 2 + zup O m (O m + 1) 3 = n + 1 := by
    by_cases q0 : m = 0
    · rw [q0] at u246 v246 ⊢; rw [u246, v246 1 (by decide), v246 2 (by decide), v246 3 (by decide)]; omega
    · by_cases q1 : m = 1
      · rw [q1] at u246 v246 ⊢; rw [u246, v246 0 (by decide), v246 2 (by decide), v246 3 (by decide)]; omega
      · by_cases q2 : m = 2
        · rw [q2] at u246 v246 ⊢; rw [u246, v246 0 (by decide), v246 1 (by decide), v246 3 (by decide)]; omega
        · have q3 : m = 3 := by omega
          rw [q3] at u246 v246 ⊢; rw [u246, v246 0 (by decide), v246 1 (by decide), v246 2 (by decide)]; omega
  have es : D m (O m) = D m (O m) := rfl
  generalize hs : D m (O m) = s at *
  split
  · refine ⟨fun t t0 t1 => ?_, hO, hS, fun a b a0 a1 b0 b1 ne nz => ?_, fun m' j h1 h2 h3 h4 => ?_⟩
    · by_cases q : t = s
      · rw [q, zup_e]; omega
      · rw [zup_n q]; exact kb t t0 t1
    · by_cases q : a = s
      · rw [q, zup_e, zup_n (fun e => ne (q.trans e.symm))]
        exact fun e => fr b b0 b1 e.symm
      · rw [zup_n q] at nz ⊢
        by_cases q2 : b = s
        · rw [q2, zup_e]; exact fr a a0 a1
        · rw [zup_n q2]; exact hd a b a0 a1 b0 b1 ne nz
    · by_cases q : D m' j = s
      · rw [q, zup_e]; omega
      · rw [zup_n q]
        refine ho m' j h1 h2 h3 ?_
        by_cases qm : m' = m
        · rw [qm, u246] at h4
          by_cases qj : j = O m
          · exfalso; apply q; rw [qm, qj]; exact hs
          · rw [qm]; omega
        · rw [v246 m' qm] at h4; exact h4
  · rename_i nc
    have nz : ¬ K s = 0 := fun z => nc (Or.inl z)
    refine ⟨kb, hO, hS, hd, fun m' j h1 h2 h3 h4 => ?_⟩
    by_cases qm : m' = m
    · rw [qm, u246] at h4
      by_cases qj : j = O m
      · rw [qm, qj, hs]; exact nz
      · rw [qm]; exact ho m j m0.1 m0.2 h3 (by omega)
    · rw [v246 m' qm] at h4; exact ho m' j h1 h2 h3 h4
theorem zki_run {D R : Int → Int → Int} (hD : zpD D) : ∀ k : Nat, zgo D R k → zki D (zru D R k).1 (zru D R k).2 (k : Int)
  | 0, _ => zki_0
  | k + 1, h => by
    have ih := zki_run hD k (fun j hj => h j (by omega))
    exact zki_st hD ih (h k (by omega))
theorem zki_16 {D : Int → Int → Int} {K O : Int → Int} {n : Int} (hD : zpD D) (h : zki D K O n) (hn : 16 ≤ n) : zfm K = -1 := by
  rcases zfm_all K with q | q
  · exact q.1
  · exfalso
    obtain ⟨m0, fr, -⟩ := q
    have o3 := zki_3 hD h m0 fr
    obtain ⟨kb, ob, sm, hd, ho⟩ := h
    have a0 := ob 0 (by decide) (by decide)
    have a1 := ob 1 (by decide) (by decide)
    have a2 := ob 2 (by decide) (by decide)
    have a3 := ob 3 (by decide) (by decide)
    generalize zfm K = m at *
    by_cases q0 : m = 0
    · rw [q0] at o3; omega
    · by_cases q1 : m = 1
      · rw [q1] at o3; omega
      · by_cases q2 : m = 2
        · rw [q2] at o3; omega
        · rw [show m = 3 by omega] at o3; omega
/-- the run asks no more than rows -/
theorem zru_c {D R D' R' : Int → Int → Int} (hD : zpD D) (e : ∀ m j : Int, 0 ≤ m → m ≤ 3 → 0 ≤ j → j ≤ 3 → D m j = D' m j) (e2 : ∀ m j : Int, 0 ≤ m → m ≤ 3 → 0 ≤ j → j ≤ 3 → R m j = R' m j) : ∀ k : Nat, zgo D R k → zru D R k = zru D' R' k
  | 0, _ => rfl
  | k + 1, h => by
    have hg : zgo D R k := fun j hj => h j (by omega)
    have ih := zru_c hD e e2 k hg
    have hi := zki_run hD k hg
    have hn := h k (by omega)
    show (zsK D R (zru D R k).1 (zru D R k).2, zsO (zru D R k).1 (zru D R k).2) = (zsK D' R' (zru D' R' k).1 (zru D' R' k).2, zsO (zru D' R' k).1 (zru D' R' k).2)
    rw [← ih]
    generalize (zru D R k).1 = K at *
    generalize (zru D R k).2 = O at *
    rcases zfm_all K with q | q
    · exact absurd q.1 hn
    obtain ⟨m0, fr, -⟩ := q
    have o3 := zki_3 hD hi m0 fr
    have om := hi.2.1 _ m0.1 m0.2
    have sb := zpm_r (hD _ m0.1 m0.2) (k := O (zfm K)) ⟨om.1, o3⟩
    have es := e _ _ m0.1 m0.2 om.1 o3
    congr 1
    unfold zsK
    rw [← es]
    have er : ∀ x : Int, zpl (R (D (zfm K) (O (zfm K)))) x = zpl (R' (D (zfm K) (O (zfm K)))) x := fun x => zpl_c (fun j j0 j1 => e2 _ j sb.1 sb.2 j0 j1)
    rw [er, er]
theorem zEnd_c {D R D' R' : Int → Int → Int} (hD : zpD D) (e : ∀ m j : Int, 0 ≤ m → m ≤ 3 → 0 ≤ j → j ≤ 3 → D m j = D' m j) (e2 : ∀ m j : Int, 0 ≤ m → m ≤ 3 → 0 ≤ j → j ≤ 3 → R m j = R' m j) {k : Nat} (h : zEnd D R k) : zEnd D' R' k :=
  ⟨fun j hj => by rw [← zru_c hD e e2 j (fun i hi => h.1 i (by omega))]; exact h.1 j hj, by rw [← zru_c hD e e2 k h.1]; exact h.2⟩
theorem zno_st {f : Int → Int} {i x : Int} (h : ∀ j : Int, 0 ≤ j → j < i → ¬ f j = x) (hn : ¬ f i = x) : ∀ j : Int, 0 ≤ j → j < i + 1 → ¬ f j = x := fun j j0 j1 => by
  by_cases q : j = i
  · rw [q]; exact hn
  · exact h j j0 (by omega)
theorem zno_e {f : Int → Int} {i n x : Int} (h : ∀ j : Int, 0 ≤ j → j < i → ¬ f j = x) (hi : n < i) : ∀ j : Int, 0 ≤ j → j ≤ n → ¬ f j = x := fun j j0 j1 => h j j0 (by omega)
noncomputable def zrw (f : Int → Int) (a : Int) : Int → Int := fun i => f (a * 4 + i)
noncomputable def zrx (f : Int → Int) (a : Int) : Int → Int := fun k => f (4 * a + k) + k
noncomputable def zRx (f : Int → Int) (s : Int) : Int → Int := zrx f (4 + s)
theorem zpl_x {r : Int → Int} {m k : Int} (h : ∀ j : Int, 0 ≤ j → j < k → ¬ r j = m) (e : r k = m) (hk : 0 ≤ k ∧ k ≤ 3) : k = zpl r m := by
  unfold zpl
  by_cases a : k = 0
  · rw [a] at e; rw [if_pos e]; exact a
  · rw [if_neg (h 0 (by decide) (by omega))]
    by_cases b : k = 1
    · rw [b] at e; rw [if_pos e]; exact b
    · rw [if_neg (h 1 (by decide) (by omega))]
      by_cases c : k = 2
      · rw [c] at e; rw [if_pos e]; exact c
      · rw [if_neg (h 2 (by decide) (by omega))]
        have d : k = 3 := by omega
        rw [d] at e; rw [if_pos e]; exact d
theorem zpl_4 {r : Int → Int} {m k : Int} (h : ∀ j : Int, 0 ≤ j → j < k → ¬ r j = m) (hk : 4 ≤ k) : 4 = zpl r m := by
  unfold zpl
  rw [if_neg (h 0 (by decide) (by omega)), if_neg (h 1 (by decide) (by omega)), if_neg (h 2 (by decide) (by omega)), if_neg (h 3 (by decide) (by omega))]
theorem zpm_x {f : Int → Int} {i : Int} (h : zj_row (f (4 * i)) (f (4 * i + 1) + 1) (f (4 * i + 2) + 2) (f (4 * i + 3) + 3)) : zpm (zrx f i) := by
  unfold zpm zrx
  rw [Int.add_zero, Int.add_zero]
  exact h
theorem zpD_x {g : zi_M} (I : zk_I g) : zpD (zrx (g 244)) := fun m h0 h1 => zpm_x (I.2.rows m h0 (by omega))
theorem zpD_X {g : zi_M} (I : zk_I g) : zpD (zRx (g 244)) := fun m h0 h1 => zpm_x (I.2.rows (4 + m) (by omega) (by omega))
/-- what one offer of the class does: stones of masons (A), masons of stones (B), refusals (C) -/
noncomputable def zof (r A B C A' B' C' : Int → Int) (m s : Int) : Prop := (¬ B s = -1 ∧ zpl r (B s) < zpl r m → A' = A ∧ B' = B ∧ C' = zup C m (C m + 1)) ∧ (¬ (¬ B s = -1 ∧ zpl r (B s) < zpl r m) → B' = zup B s m ∧ (B s = -1 → A' = zup A m s ∧ C' = C) ∧ (¬ B s = -1 → A' = zup (zup A (B s) (-1)) m s ∧ C' = zup C (B s) (C (B s) + 1)))
noncomputable def zrl (K O A B C : Int → Int) : Prop := (∀ s : Int, 0 ≤ s → s ≤ 3 → B s + 1 = K s) ∧ (∀ m : Int, 0 ≤ m → m ≤ 3 → (zfr K m → A m = -1 ∧ C m = O m) ∧ (¬ zfr K m → (0 ≤ A m ∧ A m ≤ 3) ∧ K (A m) = m + 1 ∧ C m + 1 = O m))
theorem zrl_st {D R : Int → Int → Int} {K O A B C A' B' C' : Int → Int} {n m : Int} (hD : zpD D) (hR : zpD R) (I : zki D K O n) (h : zrl K O A B C) (em : zfm K = m) (hm : ¬ m = -1) (hp : zof (R (D m (C m))) A B C A' B' C' m (D m (C m))) : zrl (zsK D R K O) (zsO K O) A' B' C' := by
  rcases zfm_all K with q | q
  · exact absurd (em.symm.trans q.1) hm
  obtain ⟨m0, fr, -⟩ := q
  rw [em] at m0 fr
  have o3 := zki_3 hD I m0 fr
  have om := I.2.1 m m0.1 m0.2
  obtain ⟨b1, b2⟩ := h
  have fm := (b2 m m0.1 m0.2).1 fr
  have sb := zpm_r (hD m m0.1 m0.2) (k := O m) ⟨om.1, o3⟩
  unfold zsK zsO
  rw [em]
  rw [fm.2] at hp
  have hrs := hR (D m (O m)) sb.1 sb.2
  generalize R (D m (O m)) = r at *
  generalize D m (O m) = s at *
  have ks := b1 s sb.1 sb.2
  have kb := I.1 s sb.1 sb.2
  obtain ⟨kb', ob, sm, hd, ho⟩ := I
  have frs := fr s sb.1 sb.2
  by_cases rf : ¬ B s = -1 ∧ zpl r (B s) < zpl r m
  · obtain ⟨e1, e2, e3⟩ := hp.1 rf
    have nc : ¬ (K s = 0 ∨ zpl r m < zpl r (K s - 1)) := by
      rw [show K s - 1 = B s by omega]
      omega
    rw [if_neg nc, e1, e2, e3]
    refine ⟨b1, fun x x0 x1 => ?_⟩
    by_cases qx : x = m
    · rw [qx, zup_e, zup_e]
      exact ⟨fun _ => ⟨fm.1, by omega⟩, fun z => absurd fr z⟩
    · rw [zup_n qx, zup_n qx]
      exact b2 x x0 x1
  · obtain ⟨e2, e3, e4⟩ := hp.2 rf
    have yc : K s = 0 ∨ zpl r m < zpl r (K s - 1) := by
      by_cases z : B s = -1
      · exact Or.inl (by omega)
      · right
        rw [show K s - 1 = B s by omega]
        have := zpl_ne hrs m0 (n := B s) ⟨by omega, by omega⟩ (by omega)
        omega
    rw [if_pos yc, e2]
    refine ⟨fun t t0 t1 => ?_, fun x x0 x1 => ?_⟩
    · by_cases q : t = s
      · rw [q, zup_e, zup_e]
      · rw [zup_n q, zup_n q]; exact b1 t t0 t1
    · -- the others stay as they are
      have oth : ¬ x = m → ¬ K s = x + 1 → ((zfr (zup K s (m + 1)) x → A x = -1 ∧ C x = O x) ∧ (¬ zfr (zup K s (m + 1)) x → (0 ≤ A x ∧ A x ≤ 3) ∧ zup K s (m + 1) (A x) = x + 1 ∧ C x + 1 = O x)) := by
        intro nm ns
        have iff : zfr (zup K s (m + 1)) x ↔ zfr K x := by
          constructor
          · intro z t t0 t1
            by_cases q : t = s
            · rw [q]; exact ns
            · have := z t t0 t1
              rw [zup_n q] at this
              exact this
          · intro z t t0 t1
            by_cases q : t = s
            · rw [q, zup_e]; omega
            · rw [zup_n q]; exact z t t0 t1
        have bx := b2 x x0 x1
        refine ⟨fun z => bx.1 (iff.1 z), fun z => ?_⟩
        have w := bx.2 (fun y => z (iff.2 y))
        refine ⟨w.1, ?_, w.2.2⟩
        rw [zup_n (fun e => ns (by rw [← e]; exact w.2.1))]
        exact w.2.1
      have nfm : ¬ zfr (zup K s (m + 1)) m := fun z => z s sb.1 sb.2 zup_e
      by_cases z : B s = -1
      · obtain ⟨e5, e6⟩ := e3 z
        rw [e5, e6]
        by_cases qx : x = m
        · rw [qx, zup_e, zup_e]
          exact ⟨fun y => absurd y nfm, fun _ => ⟨sb, zup_e, by omega⟩⟩
        · rw [zup_n qx, zup_n qx]
          exact oth qx (by omega)
      · obtain ⟨e5, e6⟩ := e4 z
        have hb : 0 ≤ B s ∧ B s ≤ 3 := ⟨by omega, by omega⟩
        have bm : ¬ B s = m := by omega
        rw [e5, e6]
        by_cases qx : x = m
        · rw [qx, zup_e, zup_e, zup_n (fun e => bm e.symm)]
          exact ⟨fun y => absurd y nfm, fun _ => ⟨sb, zup_e, by omega⟩⟩
        · by_cases qh : x = B s
          · have nf : ¬ zfr K (B s) := fun y => y s sb.1 sb.2 ks.symm
            have w := (b2 (B s) hb.1 hb.2).2 nf
            have fh : zfr (zup K s (m + 1)) (B s) := by
              intro t t0 t1
              by_cases q : t = s
              · rw [q, zup_e]; omega
              · rw [zup_n q]
                have := hd s t sb.1 sb.2 t0 t1 (fun e => q e.symm) (by omega)
                omega
            rw [qh, zup_n bm, zup_e, zup_e, zup_n bm]
            exact ⟨fun _ => ⟨rfl, by omega⟩, fun y => absurd fh y⟩
          · rw [zup_n qx, zup_n qh, zup_n qh, zup_n qx]
            exact oth qx (by omega)
theorem zrl_0 {A B C : Int → Int} (hA : ∀ m : Int, 0 ≤ m → m ≤ 3 → A m = -1) (hB : ∀ m : Int, 0 ≤ m → m ≤ 3 → B m = -1) (hC : ∀ m : Int, 0 ≤ m → m ≤ 3 → C m = 0) : zrl (fun _ => 0) (fun _ => 0) A B C :=
  ⟨fun s s0 s1 => by rw [hB s s0 s1]; rfl, fun m m0 m1 => ⟨fun _ => ⟨hA m m0 m1, hC m m0 m1⟩, fun n => absurd (fun s _ _ => by show ¬ (0 : Int) = m + 1; omega) n⟩⟩
/-- the first without a stone -/
theorem zrl_f {K O A B C : Int → Int} {v : Int} (h : zrl K O A B C) (hv : -1 ≤ v ∧ v ≤ 3) (h1 : ¬ v = -1 → A v = -1 ∧ ∀ j : Int, 0 ≤ j → j < v → ¬ A j = -1) (h2 : v = -1 → ∀ j : Int, 0 ≤ j → j ≤ 3 → ¬ A j = -1) : zfm K = v := by
  by_cases q : v = -1
  · rw [q]
    exact zfm_no (fun m m0 m1 z => h2 q m m0 m1 ((h.2 m m0 m1).1 z).1)
  · have w := h1 q
    refine zfm_is ⟨by omega, hv.2⟩ ?_ (fun j j0 j1 z => w.2 j j0 j1 ((h.2 j j0 (by omega)).1 z).1)
    refine Classical.byContradiction (fun n => ?_)
    have := ((h.2 v (by omega) hv.2).2 n).1
    omega
noncomputable def zkP (g : zi_M) : Prop := zpD (zrw (g 42)) ∧ zpD (zrw (g 43))
theorem zKp_eq {g : zi_M} {l v w : Int} (I : zk_I g) (D1 : zRA 42 244 0 16 (fun k => k % 4) g) (D2 : zRA 43 244 16 16 (fun k => k % 4) g)
    (s1 : zkP g → l = -1 → ∃ k : Nat, v = (k : Int) ∧ zEnd (zrw (g 42)) (zrw (g 43)) k) (s2 : zkP g → 0 ≤ l → l ≤ 3 → ∃ k : Nat, zEnd (zrw (g 42)) (zrw (g 43)) k ∧ (0 ≤ v ∧ v ≤ 3) ∧ (zru (zrw (g 42)) (zrw (g 43)) k).1 v = l + 1) (s3 : l < -1 ∨ 3 < l → v = -1)
    (m1 : l = -1 → ∃ k : Nat, w = (k : Int) ∧ zEnd (zrx (g 244)) (zRx (g 244)) k) (m2 : 0 ≤ l → l ≤ 3 → ∃ k : Nat, zEnd (zrx (g 244)) (zRx (g 244)) k ∧ (0 ≤ w ∧ w ≤ 3) ∧ (zru (zrx (g 244)) (zRx (g 244)) k).1 w = l + 1) (m3 : l < -1 ∨ 3 < l → w = -1) : w = v := by
  have e1 : ∀ m j : Int, 0 ≤ m → m ≤ 3 → 0 ≤ j → j ≤ 3 → zrx (g 244) m j = zrw (g 42) m j := fun m j m0 m1 j0 j1 => by
    have h : g 42 (m * 4 + j) = g 244 (0 + (m * 4 + j)) + (m * 4 + j) % 4 := D1 (m * 4 + j) (by omega) (by omega)
    unfold zrx zrw
    rw [h, show (0 + (m * 4 + j) : Int) = 4 * m + j by omega]
    omega
  have e2 : ∀ m j : Int, 0 ≤ m → m ≤ 3 → 0 ≤ j → j ≤ 3 → zRx (g 244) m j = zrw (g 43) m j := fun m j m0 m1 j0 j1 => by
    have h : g 43 (m * 4 + j) = g 244 (16 + (m * 4 + j)) + (m * 4 + j) % 4 := D2 (m * 4 + j) (by omega) (by omega)
    unfold zRx zrx zrw
    rw [h, show (16 + (m * 4 + j) : Int) = 4 * (4 + m) + j by omega]
    omega
  have hD := zpD_x I
  have P : zkP g := by
    refine ⟨fun m h0 h1 => ?_, fun m h0 h1 => ?_⟩
    · have := hD m h0 h1
      unfold zpm at this ⊢
      rw [← e1 m 0 h0 h1 (by decide) (by decide), ← e1 m 1 h0 h1 (by decide) (by decide), ← e1 m 2 h0 h1 (by decide) (by decide), ← e1 m 3 h0 h1 (by decide) (by decide)]
      exact this
    · have := zpD_X I m h0 h1
      unfold zpm at this ⊢
      rw [← e2 m 0 h0 h1 (by decide) (by decide), ← e2 m 1 h0 h1 (by decide) (by decide), ← e2 m 2 h0 h1 (by decide) (by decide), ← e2 m 3 h0 h1 (by decide) (by decide)]
      exact this
  by_cases q : l = -1
  · obtain ⟨k, k1, k2⟩ := s1 P q
    obtain ⟨j, j1, j2⟩ := m1 q
    have := zEnd_u (zEnd_c hD e1 e2 j2) k2
    rw [k1, j1, this]
  · by_cases q2 : 0 ≤ l ∧ l ≤ 3
    · obtain ⟨k, k1, k2, k3⟩ := s2 P q2.1 q2.2
      obtain ⟨j, j1, j2, j3⟩ := m2 q2.1 q2.2
      have ek := zEnd_u (zEnd_c hD e1 e2 j1) k1
      rw [zru_c hD e1 e2 j j1.1, ek] at j3
      have inj := (zki_run P.1 k k1.1).2.2.2.1
      refine Classical.byContradiction (fun ne => ?_)
      exact inj w v j2.1 j2.2 k2.1 k2.2 ne (by omega) (by omega)
    · rw [s3 (by omega), m3 (by omega)]
-- rows of masons, as they are told
noncomputable def zdg (r j : Int) : Int := if j = 0 then r / 1000 else if j = 1 then r / 100 % 10 else if j = 2 then r / 10 % 10 else r % 10
theorem zdg_4 {r j x : Int} (hj : 0 ≤ j ∧ j ≤ 3) (h0 : j = 0 → x = r / 1000) (h1 : j = 1 → x = r / 100 % 10) (h2 : j = 2 → x = r / 10 % 10) (h3 : j = 3 → x = r % 10) : x = zdg r j := by
  unfold zdg
  by_cases a : j = 0
  · rw [if_pos a]; exact h0 a
  · rw [if_neg a]
    by_cases b : j = 1
    · rw [if_pos b]; exact h1 b
    · rw [if_neg b]
      by_cases c : j = 2
      · rw [if_pos c]; exact h2 c
      · rw [if_neg c]; exact h3 (by omega)
theorem zms4 {g g1 g2 g3 g4 : zi_M} {a : Nat} {b r x0 x1 x2 x3 : Int} (e1 : g1 = zi_u g a (b * 4) x0) (e2 : g2 = zi_u g1 a (b * 4 + 1) x1) (e3 : g3 = zi_u g2 a (b * 4 + 2) x2) (e4 : g4 = zi_u g3 a (b * 4 + 3) x3) (d0 : x0 = r / 1000) (d1 : x1 = r / 100 % 10) (d2 : x2 = r / 10 % 10) (d3 : x3 = r % 10) (k : Int) : (k / 4 = b → g4 a k = zdg r (k % 4)) ∧ (¬ k / 4 = b → g4 a k = g a k) := by
  refine ⟨fun q => zdg_4 ⟨by omega, by omega⟩ (fun j => ?_) (fun j => ?_) (fun j => ?_) (fun j => ?_), fun q => ?_⟩
  · rw [e4, zi_u_ni (by omega), e3, zi_u_ni (by omega), e2, zi_u_ni (by omega), e1, show k = b * 4 by omega, zi_u_eq]; exact d0
  · rw [e4, zi_u_ni (by omega), e3, zi_u_ni (by omega), e2, show k = b * 4 + 1 by omega, zi_u_eq]; exact d1
  · rw [e4, zi_u_ni (by omega), e3, show k = b * 4 + 2 by omega, zi_u_eq]; exact d2
  · rw [e4, show k = b * 4 + 3 by omega, zi_u_eq]; exact d3
  · rw [e4, zi_u_ni (by omega), e3, zi_u_ni (by omega), e2, zi_u_ni (by omega), e1, zi_u_ni (by omega)]
theorem zmm4 {f : Int → Int} {b r k : Int} (m0 : f (4 * b) = r / 1000) (m1 : f (4 * b + 1) + 1 = r / 100 % 10) (m2 : f (4 * b + 2) + 2 = r / 10 % 10) (m3 : f (4 * b + 3) + 3 = r % 10) (q : k / 4 = b) : f k = zdg r (k % 4) - k % 4 := by
  have h := zdg_4 (r := r) (j := k % 4) (x := f k + k % 4) ⟨by omega, by omega⟩ (fun j => by rw [j, show k = 4 * b by omega]; omega) (fun j => by rw [j, show k = 4 * b + 1 by omega]; omega) (fun j => by rw [j, show k = 4 * b + 2 by omega]; omega) (fun j => by rw [j, show k = 4 * b + 3 by omega]; omega)
  omega

theorem k_S_mason {l1 : Int} {l2 : Int} {l3 : Int} {g : zi_M} {Q : Int → zi_M → Prop} (I : zk_I g) (p1 : (-2147483648) ≤ l1 ∧ l1 ≤ 2147483647) (p2 : 0 ≤ l2 ∧ l2 ≤ 1) (p3 : (-2147483648) ≤ l3 ∧ l3 ≤ 2147483647) (hQ : ∀ (v : Int) (g' : zi_M), zk_I g' → zk_fr fr_S_mason g g' → (0 ≤ v ∧ v ≤ 1) → ((0 ≤ l1 ∧ l1 ≤ 3 ∧ zrow l3 → v = 1) ∧ (¬ (0 ≤ l1 ∧ l1 ≤ 3 ∧ zrow l3) → v = 0)) → (∀ k : Int, 0 ≤ k ∧ k < 16 → (¬ v = 0 ∧ l2 = 0 ∧ k / 4 = l1 → g' 42 k = zdg l3 (k % 4)) ∧ (¬ (¬ v = 0 ∧ l2 = 0 ∧ k / 4 = l1) → g' 42 k = g 42 k)) → (∀ k : Int, 0 ≤ k ∧ k < 16 → (¬ v = 0 ∧ ¬ l2 = 0 ∧ k / 4 = l1 → g' 43 k = zdg l3 (k % 4)) ∧ (¬ (¬ v = 0 ∧ ¬ l2 = 0 ∧ k / 4 = l1) → g' 43 k = g 43 k)) → Q v g') : w_S_mason l1 l2 l3 g Q := by
  have no : ¬ (0 ≤ l1 ∧ l1 ≤ 3 ∧ zrow l3) → Q 0 g := fun n => hQ 0 g I (zk_f0 _) ⟨by decide, by decide⟩ ⟨fun q => absurd q n, fun _ => rfl⟩ (fun k hk => ⟨fun q => absurd rfl q.1, fun _ => rfl⟩) (fun k hk => ⟨fun q => absurd rfl q.1, fun _ => rfl⟩)
  unfold w_S_mason
  refine ⟨p1, fun h => no (fun q => by omega), fun h0 => ⟨fun h => no (fun q => by omega), fun h4 => ?_⟩⟩
  refine k_S_isRow I p3 (fun v2 hv2 hz => ⟨fun n2 => ?_, fun e2 => no (fun q => by have := hz.1 q.2.2; omega)⟩)
  have z : zrow l3 := Classical.byContradiction (fun n => n2 (hz.2 n))
  have yes : ∀ g', zk_I g' → zk_fr fr_S_mason g g' → (∀ k : Int, (l2 = 0 ∧ k / 4 = l1 → g' 42 k = zdg l3 (k % 4)) ∧ (¬ (l2 = 0 ∧ k / 4 = l1) → g' 42 k = g 42 k)) → (∀ k : Int, (¬ l2 = 0 ∧ k / 4 = l1 → g' 43 k = zdg l3 (k % 4)) ∧ (¬ (¬ l2 = 0 ∧ k / 4 = l1) → g' 43 k = g 43 k)) → Q 1 g' := fun g' I' F' r1 r2 => hQ 1 g' I' F' ⟨by decide, by decide⟩ ⟨fun _ => rfl, fun n => absurd ⟨h0, by omega, z⟩ n⟩ (fun k hk => ⟨fun q => (r1 k).1 q.2, fun q => (r1 k).2 (fun w => q ⟨by decide, w⟩)⟩) (fun k hk => ⟨fun q => (r2 k).1 q.2, fun q => (r2 k).2 (fun w => q ⟨by decide, w⟩)⟩)
  obtain ⟨zb, zr⟩ := z
  unfold zj_row at zr
  have d1 : Int.tdiv l3 1000 = l3 / 1000 := Int.tdiv_eq_ediv_of_nonneg zb.1
  have d2 : Int.tdiv l3 100 = l3 / 100 := Int.tdiv_eq_ediv_of_nonneg zb.1
  have d3 : Int.tdiv l3 10 = l3 / 10 := Int.tdiv_eq_ediv_of_nonneg zb.1
  have m2 : Int.tmod (Int.tdiv l3 100) 10 = l3 / 100 % 10 := by rw [d2]; exact Int.tmod_eq_emod_of_nonneg (by omega)
  have m3 : Int.tmod (Int.tdiv l3 10) 10 = l3 / 10 % 10 := by rw [d3]; exact Int.tmod_eq_emod_of_nonneg (by omega)
  have m4 : Int.tmod l3 10 = l3 % 10 := Int.tmod_eq_emod_of_nonneg zb.1
  refine ⟨⟨by omega, by omega⟩, fun y0 => ⟨p3, ⟨by omega, by omega⟩, ?_⟩, fun n0 => ⟨p3, ⟨by omega, by omega⟩, ?_⟩⟩
  · intro g8 e8
    have I8 : zk_I g8 := by rw [e8]; exact zk_upd (L := 0) (H := 3) rfl rfl I ⟨by omega, by omega⟩
    refine ⟨⟨by omega, by omega⟩, ⟨by omega, by omega⟩, ?_⟩
    intro g11 e11
    have I11 : zk_I g11 := by rw [e11]; exact zk_upd (L := 0) (H := 3) rfl rfl I8 ⟨by omega, by omega⟩
    refine ⟨⟨by omega, by omega⟩, ⟨by omega, by omega⟩, ?_⟩
    intro g14 e14
    have I14 : zk_I g14 := by rw [e14]; exact zk_upd (L := 0) (H := 3) rfl rfl I11 ⟨by omega, by omega⟩
    refine ⟨⟨by omega, by omega⟩, ?_⟩
    intro g16 e16
    have I16 : zk_I g16 := by rw [e16]; exact zk_upd (L := 0) (H := 3) rfl rfl I14 ⟨by omega, by omega⟩
    have w := zms4 e8 e11 e14 e16 (r := l3) d1 m2 m3 m4
    refine yes g16 I16 ?_ (fun k => ⟨fun q => (w k).1 q.2, fun q => (w k).2 (fun z => q ⟨y0, z⟩)⟩) (fun k => ⟨fun q => absurd y0 q.1, fun _ => by rw [e16, zi_u_ne (by decide), e14, zi_u_ne (by decide), e11, zi_u_ne (by decide), e8, zi_u_ne (by decide)]⟩)
    rw [e16, e14, e11, e8]
    exact zk_fu (zk_fu (zk_fu (zk_fu (zk_f0 _) (Or.inl rfl)) (Or.inl rfl)) (Or.inl rfl)) (Or.inl rfl)
  · intro g8 e8
    have I8 : zk_I g8 := by rw [e8]; exact zk_upd (L := 0) (H := 3) rfl rfl I ⟨by omega, by omega⟩
    refine ⟨⟨by omega, by omega⟩, ⟨by omega, by omega⟩, ?_⟩
    intro g11 e11
    have I11 : zk_I g11 := by rw [e11]; exact zk_upd (L := 0) (H := 3) rfl rfl I8 ⟨by omega, by omega⟩
    refine ⟨⟨by omega, by omega⟩, ⟨by omega, by omega⟩, ?_⟩
    intro g14 e14
    have I14 : zk_I g14 := by rw [e14]; exact zk_upd (L := 0) (H := 3) rfl rfl I11 ⟨by omega, by omega⟩
    refine ⟨⟨by omega, by omega⟩, ?_⟩
    intro g16 e16
    have I16 : zk_I g16 := by rw [e16]; exact zk_upd (L := 0) (H := 3) rfl rfl I14 ⟨by omega, by omega⟩
    have w := zms4 e8 e11 e14 e16 (r := l3) d1 m2 m3 m4
    refine yes g16 I16 ?_ (fun k => ⟨fun q => absurd q.1 n0, fun _ => by rw [e16, zi_u_ne (by decide), e14, zi_u_ne (by decide), e11, zi_u_ne (by decide), e8, zi_u_ne (by decide)]⟩) (fun k => ⟨fun q => (w k).1 q.2, fun q => (w k).2 (fun z => q ⟨n0, z⟩)⟩)
    rw [e16, e14, e11, e8]
    exact zk_fu (zk_fu (zk_fu (zk_fu (zk_f0 _) (Or.inr rfl)) (Or.inr rfl)) (Or.inr rfl)) (Or.inr rfl)

