-- part
-- SpoutNews.isRow(I)Z
theorem k_S_isRow_a {l0 : Int} {g : zi_M} {Q : Int → zi_M → Prop} (p0 : (-2147483648) ≤ l0 ∧ l0 ≤ 2147483647) {r1 r2 r3 r4 d0 d1 d2 d3 : Int} (e0 : Int.tdiv l0 10 = r1) (f0 : Int.tmod l0 10 = d0) (e1 : Int.tdiv r1 10 = r2) (f1 : Int.tmod r1 10 = d1) (e2 : Int.tdiv r2 10 = r3) (f2 : Int.tmod r2 10 = d2) (e3 : Int.tdiv r3 10 = r4) (f3 : Int.tmod r3 10 = d3)
    (b1 : zi_r r1) (b2 : zi_r r2) (b3 : zi_r r3) (b4 : zi_r r4) (c0 : zi_r d0) (c1 : zi_r d1) (c2 : zi_r d2) (c3 : zi_r d3)
    (bad0 : d0 < 0 ∨ 4 ≤ d0 → Q 0 g) (bad1 : d1 < 0 ∨ 4 ≤ d1 → Q 0 g) (bad2 : d2 < 0 ∨ 4 ≤ d2 → Q 0 g) (bad3 : d3 < 0 ∨ 4 ≤ d3 → Q 0 g) (fin : 0 ≤ d0 → 0 ≤ d1 → 0 ≤ d2 → 0 ≤ d3 → d0 < 4 → d1 < 4 → d2 < 4 → d3 < 4 → (¬ r4 = 0 → Q 0 g) ∧ (r4 = 0 → (¬ zbits d0 d1 d2 d3 = 15 → Q 0 g) ∧ (zbits d0 d1 d2 d3 = 15 → Q 1 g))) : w_S_isRow l0 g Q := by
  unfold w_S_isRow
  refine ⟨5, ?_⟩
  unfold w_S_isRow_l6
  rw [e0, f0]
  refine ⟨⟨by decide, by decide⟩, fun q => absurd q (by decide), fun _ => ⟨p0, c0, fun q => bad0 (Or.inl q), fun g0 => ⟨fun u0 => ?_, fun q => bad0 (Or.inr q)⟩⟩⟩
  unfold w_S_isRow_l6
  rw [e1, f1]
  refine ⟨⟨by decide, by decide⟩, fun q => absurd q (by decide), fun _ => ⟨b1, c1, fun q => bad1 (Or.inl q), fun g1 => ⟨fun u1 => ?_, fun q => bad1 (Or.inr q)⟩⟩⟩
  unfold w_S_isRow_l6
  rw [e2, f2]
  refine ⟨⟨by decide, by decide⟩, fun q => absurd q (by decide), fun _ => ⟨b2, c2, fun q => bad2 (Or.inl q), fun g2 => ⟨fun u2 => ?_, fun q => bad2 (Or.inr q)⟩⟩⟩
  unfold w_S_isRow_l6
  rw [e3, f3]
  refine ⟨⟨by decide, by decide⟩, fun q => absurd q (by decide), fun _ => ⟨b3, c3, fun q => bad3 (Or.inl q), fun g3 => ⟨fun u3 => ?_, fun q => bad3 (Or.inr q)⟩⟩⟩
  unfold w_S_isRow_l6
  have ff := fin g0 g1 g2 g3 u0 u1 u2 u3
  exact ⟨⟨by decide, by decide⟩, fun _ => ⟨b4, ff.1, fun z => ⟨zi_r_or _ _, (ff.2 z).1, (ff.2 z).2⟩⟩, fun q => absurd q (by decide)⟩
theorem k_S_isRow {l0 : Int} {g : zi_M} {Q : Int → zi_M → Prop} (I : zk_I g) (p0 : (-2147483648) ≤ l0 ∧ l0 ≤ 2147483647) (hQ : ∀ v : Int, (0 ≤ v ∧ v ≤ 1) → ((zrow l0 → v = 1) ∧ (¬ zrow l0 → v = 0)) → Q v g) : w_S_isRow l0 g Q := by
  have bad : ¬ zrow l0 → Q 0 g := fun n => hQ 0 ⟨by decide, by decide⟩ ⟨fun q => absurd q n, fun _ => rfl⟩
  have good : zrow l0 → Q 1 g := fun q => hQ 1 ⟨by decide, by decide⟩ ⟨fun _ => rfl, fun n => absurd q n⟩
  obtain ⟨r1, d0, e0, f0, g0, h0, k0⟩ := zi_tdv l0
  obtain ⟨r2, d1, e1, f1, g1, h1, k1⟩ := zi_tdv r1
  obtain ⟨r3, d2, e2, f2, g2, h2, k2⟩ := zi_tdv r2
  obtain ⟨r4, d3, e3, f3, g3, h3, k3⟩ := zi_tdv r3
  by_cases hn : 0 ≤ l0
  · have a0 := h0 hn
    have a1 := h1 a0.2.2
    have a2 := h2 a1.2.2
    have a3 := h3 a2.2.2
    clear h0 k0 h1 k1 h2 k2 h3 k3
    have x0 : l0 % 10 = d0 := by omega
    have x1 : l0 / 10 % 10 = d1 := by omega
    have x2 : l0 / 100 % 10 = d2 := by omega
    have x3 : l0 / 1000 = 10 * r4 + d3 := by omega
    have zr : zrow l0 → d0 ≤ 3 ∧ d1 ≤ 3 ∧ d2 ≤ 3 ∧ 10 * r4 + d3 ≤ 3 := by
      intro h
      obtain ⟨_, h2⟩ := h
      unfold zj_row at h2
      rw [x0, x1, x2, x3] at h2
      exact ⟨h2.2.2.2.1.2, h2.2.2.1.2, h2.2.1.2, h2.1.2⟩
    refine k_S_isRow_a p0 e0 f0 e1 f1 e2 f2 e3 f3 ⟨by omega, by omega⟩ ⟨by omega, by omega⟩ ⟨by omega, by omega⟩ ⟨by omega, by omega⟩ ⟨by omega, by omega⟩ ⟨by omega, by omega⟩ ⟨by omega, by omega⟩ ⟨by omega, by omega⟩ (fun q => bad (fun z => by have := zr z; omega)) (fun q => bad (fun z => by have := zr z; omega)) (fun q => bad (fun z => by have := zr z; omega)) (fun q => bad (fun z => by have := zr z; omega)) ?_
    intro m0 m1 m2 m3 u0 u1 u2 u3
    have hb := zbits_i (a := d0) (b := d1) (c := d2) (d := d3) ⟨m0, by omega⟩ ⟨m1, by omega⟩ ⟨m2, by omega⟩ ⟨m3, by omega⟩
    refine ⟨fun n => bad (fun z => by have := zr z; omega), fun z0 => ⟨fun n => bad (fun z => n ?_), fun e => good ?_⟩⟩
    · obtain ⟨_, hz⟩ := z
      unfold zj_row at hz
      rw [x0, x1, x2, x3, z0] at hz
      obtain ⟨_, _, _, _, y1, y2, y3, y4, y5, y6⟩ := hz
      exact hb.2 ⟨fun q => y6 q.symm, fun q => y5 q.symm, fun q => y3 (by omega), fun q => y4 q.symm, fun q => y2 (by omega), fun q => y1 (by omega)⟩
    · obtain ⟨y1, y2, y3, y4, y5, y6⟩ := hb.1 e
      refine ⟨⟨hn, by omega⟩, ?_⟩
      unfold zj_row
      rw [x0, x1, x2, x3, z0]
      exact ⟨⟨by omega, by omega⟩, ⟨m2, by omega⟩, ⟨m1, by omega⟩, ⟨m0, by omega⟩, fun q => y6 (by omega), fun q => y5 (by omega), fun q => y3 (by omega), fun q => y4 q.symm, fun q => y2 q.symm, fun q => y1 q.symm⟩
  · have nz : ¬ zrow l0 := fun z => hn z.1.1
    have b := bad nz
    have a0 := k0 (by omega)
    have s1 : r1 ≤ 0 ∧ -9 ≤ d1 ∧ d1 ≤ 9 ∧ r2 ≤ 0 ∧ (0 ≤ d1 → d1 = 0 ∨ r1 = 0) := by
      by_cases q : 0 ≤ r1
      · have := h1 q; omega
      · have := k1 (by omega); omega
    have s2 : -9 ≤ d2 ∧ d2 ≤ 9 ∧ r3 ≤ 0 := by
      by_cases q : 0 ≤ r2
      · have := h2 q; omega
      · have := k2 (by omega); omega
    have s3 : -9 ≤ d3 ∧ d3 ≤ 9 ∧ r4 ≤ 0 := by
      by_cases q : 0 ≤ r3
      · have := h3 q; omega
      · have := k3 (by omega); omega
    refine k_S_isRow_a p0 e0 f0 e1 f1 e2 f2 e3 f3 ⟨by omega, by omega⟩ ⟨by omega, by omega⟩ ⟨by omega, by omega⟩ ⟨by omega, by omega⟩ ⟨by omega, by omega⟩ ⟨by omega, by omega⟩ ⟨by omega, by omega⟩ ⟨by omega, by omega⟩ (fun _ => b) (fun _ => b) (fun _ => b) (fun _ => b) ?_
    intro m0 m1 m2 m3 u0 u1 u2 u3
    refine ⟨fun _ => b, fun z0 => ⟨fun _ => b, fun _ => ?_⟩⟩
    exfalso
    clear b bad good hQ h0 k0 e0 f0 e1 f1 e2 f2 e3 f3
    have w3 : r3 = 0 := by
      by_cases q : 0 ≤ r3
      · omega
      · have := k3 (by omega); omega
    have w2 : r2 = 0 := by
      by_cases q : 0 ≤ r2
      · omega
      · have := k2 (by omega); omega
    have w1 : r1 = 0 := by
      by_cases q : 0 ≤ r1
      · omega
      · have := k1 (by omega); omega
    omega

-- SpoutNews.mason(IZI)Z
noncomputable def fr_S_mason (a : Nat) (i : Int) : Prop := a = 42 ∨ a = 43
theorem k_S_mason {l1 : Int} {l2 : Int} {l3 : Int} {g : zi_M} {Q : Int → zi_M → Prop} (I : zk_I g) (p1 : (-2147483648) ≤ l1 ∧ l1 ≤ 2147483647) (p2 : 0 ≤ l2 ∧ l2 ≤ 1) (p3 : (-2147483648) ≤ l3 ∧ l3 ≤ 2147483647) (hQ : ∀ (v : Int) (g' : zi_M), zk_I g' → zk_fr fr_S_mason g g' → (0 ≤ v ∧ v ≤ 1) → ((0 ≤ l1 ∧ l1 ≤ 3 ∧ zrow l3 → v = 1) ∧ (¬ (0 ≤ l1 ∧ l1 ≤ 3 ∧ zrow l3) → v = 0)) → Q v g') : w_S_mason l1 l2 l3 g Q := by
  have no : ¬ (0 ≤ l1 ∧ l1 ≤ 3 ∧ zrow l3) → Q 0 g := fun n => hQ 0 g I (zk_f0 _) ⟨by decide, by decide⟩ ⟨fun q => absurd q n, fun _ => rfl⟩
  unfold w_S_mason
  refine ⟨p1, fun h => no (fun q => by omega), fun h0 => ⟨fun h => no (fun q => by omega), fun h4 => ?_⟩⟩
  refine k_S_isRow I p3 (fun v2 hv2 hz => ⟨fun n2 => ?_, fun e2 => no (fun q => by have := hz.1 q.2.2; omega)⟩)
  have z : zrow l3 := Classical.byContradiction (fun n => n2 (hz.2 n))
  have yes : ∀ g', zk_I g' → zk_fr fr_S_mason g g' → Q 1 g' := fun g' I' F' => hQ 1 g' I' F' ⟨by decide, by decide⟩ ⟨fun _ => rfl, fun n => absurd ⟨h0, by omega, z⟩ n⟩
  obtain ⟨zb, zr⟩ := z
  unfold zj_row at zr
  have d1 : Int.tdiv l3 1000 = l3 / 1000 := Int.tdiv_eq_ediv_of_nonneg zb.1
  have d2 : Int.tdiv l3 100 = l3 / 100 := Int.tdiv_eq_ediv_of_nonneg zb.1
  have d3 : Int.tdiv l3 10 = l3 / 10 := Int.tdiv_eq_ediv_of_nonneg zb.1
  have m2 : Int.tmod (Int.tdiv l3 100) 10 = l3 / 100 % 10 := by rw [d2]; exact Int.tmod_eq_emod_of_nonneg (by omega)
  have m3 : Int.tmod (Int.tdiv l3 10) 10 = l3 / 10 % 10 := by rw [d3]; exact Int.tmod_eq_emod_of_nonneg (by omega)
  have m4 : Int.tmod l3 10 = l3 % 10 := Int.tmod_eq_emod_of_nonneg zb.1
  refine ⟨⟨by omega, by omega⟩, fun _ => ⟨p3, ⟨by omega, by omega⟩, ?_⟩, fun _ => ⟨p3, ⟨by omega, by omega⟩, ?_⟩⟩
  · intro g8 e8
    have I8 : zk_I g8 := by rw [e8]; exact zk_upd (L := 0) (H := 3) rfl rfl I ⟨by omega, by omega⟩
    refine ⟨⟨by omega, by omega⟩, ⟨by omega, by omega⟩, ?_⟩
    intro g11 e11
    have I11 : zk_I g11 := by rw [e11]; exact zk_upd (L := 0) (H := 3) rfl rfl I8 ⟨by omega, by omega⟩
    refine ⟨⟨by omega, by omega⟩, ⟨by omega, by omega⟩, ?_⟩
    intro g14 e14
    have I14 : zk_I g14 := by rw [e14]; exact zk_upd (L := 0) (H := 3) rfl rfl I11 ⟨by omega, by omega⟩
    refine ⟨⟨by omega, by omega⟩, ?_⟩
    intro g16 e16
    have I16 : zk_I g16 := by rw [e16]; exact zk_upd (L := 0) (H := 3) rfl rfl I14 ⟨by omega, by omega⟩
    refine yes g16 I16 ?_
    rw [e16, e14, e11, e8]
    exact zk_fu (zk_fu (zk_fu (zk_fu (zk_f0 _) (Or.inl rfl)) (Or.inl rfl)) (Or.inl rfl)) (Or.inl rfl)
  · intro g8 e8
    have I8 : zk_I g8 := by rw [e8]; exact zk_upd (L := 0) (H := 3) rfl rfl I ⟨by omega, by omega⟩
    refine ⟨⟨by omega, by omega⟩, ⟨by omega, by omega⟩, ?_⟩
    intro g11 e11
    have I11 : zk_I g11 := by rw [e11]; exact zk_upd (L := 0) (H := 3) rfl rfl I8 ⟨by omega, by omega⟩
    refine ⟨⟨by omega, by omega⟩, ⟨by omega, by omega⟩, ?_⟩
    intro g14 e14
    have I14 : zk_I g14 := by rw [e14]; exact zk_upd (L := 0) (H := 3) rfl rfl I11 ⟨by omega, by omega⟩
    refine ⟨⟨by omega, by omega⟩, ?_⟩
    intro g16 e16
    have I16 : zk_I g16 := by rw [e16]; exact zk_upd (L := 0) (H := 3) rfl rfl I14 ⟨by omega, by omega⟩
    refine yes g16 I16 ?_
    rw [e16, e14, e11, e8]
    exact zk_fu (zk_fu (zk_fu (zk_fu (zk_f0 _) (Or.inr rfl)) (Or.inr rfl)) (Or.inr rfl)) (Or.inr rfl)

-- SpoutNewsModel.digitOf(II)I
theorem k_M_digitOf {l1 : Int} {l2 : Int} {g : zi_M} {Q : Int → zi_M → Prop} (I : zk_I g) (p1 : (-2147483648) ≤ l1 ∧ l1 ≤ 2147483647) (p2 : 0 ≤ l2 ∧ l2 ≤ 3) (hQ : ∀ v : Int, ((-9) ≤ v ∧ v ≤ 9) → (0 ≤ l1 → (l2 = 0 → v = l1 / 1000 % 10) ∧ (l2 = 1 → v = l1 / 100 % 10) ∧ (l2 = 2 → v = l1 / 10 % 10) ∧ (l2 = 3 → v = l1 % 10)) → Q v g) : w_M_digitOf l1 l2 g Q := by
  have t0 := zi_td10 l1
  have t1 := zi_td10 (Int.tdiv l1 10)
  have t2 := zi_td10 (Int.tdiv (Int.tdiv l1 10) 10)
  have t3 := zi_td10 (Int.tdiv (Int.tdiv (Int.tdiv l1 10) 10) 10)
  unfold w_M_digitOf
  refine ⟨4, ?_⟩
  unfold w_M_digitOf_l5
  refine ⟨⟨by decide, by decide⟩, ⟨by omega, by omega⟩, fun h3 => ⟨p1, hQ _ ⟨by omega, by omega⟩ (fun h0 => ⟨?_, ?_, ?_, ?_⟩)⟩, fun h3 => ⟨p1, ?_⟩⟩
  · intro q; omega
  · intro q; omega
  · intro q; omega
  · intro q; omega
  unfold w_M_digitOf_l5
  refine ⟨⟨by decide, by decide⟩, ⟨by omega, by omega⟩, fun h2 => ⟨⟨by omega, by omega⟩, hQ _ ⟨by omega, by omega⟩ (fun h0 => ⟨?_, ?_, ?_, ?_⟩)⟩, fun h2 => ⟨⟨by omega, by omega⟩, ?_⟩⟩
  · intro q; omega
  · intro q; omega
  · intro q; omega
  · intro q; omega
  unfold w_M_digitOf_l5
  refine ⟨⟨by decide, by decide⟩, ⟨by omega, by omega⟩, fun h1 => ⟨⟨by omega, by omega⟩, hQ _ ⟨by omega, by omega⟩ (fun h0 => ⟨?_, ?_, ?_, ?_⟩)⟩, fun h1 => ⟨⟨by omega, by omega⟩, ?_⟩⟩
  · intro q; omega
  · intro q; omega
  · intro q; omega
  · intro q; omega
  unfold w_M_digitOf_l5
  refine ⟨⟨by decide, by decide⟩, ⟨by omega, by omega⟩, fun h1 => ⟨⟨by omega, by omega⟩, hQ _ ⟨by omega, by omega⟩ (fun h0 => ⟨?_, ?_, ?_, ?_⟩)⟩, fun h1 => by omega⟩
  · intro q; omega
  · intro q; omega
  · intro q; omega
  · intro q; omega

-- SpoutNewsModel.isRow(I)Z
theorem k_M_isRow {l1 : Int} {g : zi_M} {Q : Int → zi_M → Prop} (I : zk_I g) (p1 : 0 ≤ l1 ∧ l1 ≤ 3210) (hQ : ∀ v : Int, (0 ≤ v ∧ v ≤ 1) → ((zrow l1 → v = 1) ∧ (¬ zrow l1 → v = 0)) → Q v g) : w_M_isRow l1 g Q := by
  unfold w_M_isRow
  refine ⟨5, ?_⟩
  unfold w_M_isRow_l4
  refine ⟨⟨by decide, by decide⟩, fun q => absurd q (by decide), fun _ => ?_⟩
  refine k_M_digitOf I ⟨by omega, by omega⟩ ⟨by decide, by decide⟩ (fun v0 r0 h0 => ?_)
  have a0 := (h0 p1.1).1 rfl
  unfold w_M_isRow_l4
  refine ⟨⟨by decide, by decide⟩, fun q => absurd q (by decide), fun _ => ?_⟩
  refine k_M_digitOf I ⟨by omega, by omega⟩ ⟨by decide, by decide⟩ (fun v1 r1 h1 => ?_)
  have a1 := (h1 p1.1).2.1 rfl
  unfold w_M_isRow_l4
  refine ⟨⟨by decide, by decide⟩, fun q => absurd q (by decide), fun _ => ?_⟩
  refine k_M_digitOf I ⟨by omega, by omega⟩ ⟨by decide, by decide⟩ (fun v2 r2 h2 => ?_)
  have a2 := (h2 p1.1).2.2.1 rfl
  unfold w_M_isRow_l4
  refine ⟨⟨by decide, by decide⟩, fun q => absurd q (by decide), fun _ => ?_⟩
  refine k_M_digitOf I ⟨by omega, by omega⟩ ⟨by decide, by decide⟩ (fun v3 r3 h3 => ?_)
  have a3 := (h3 p1.1).2.2.2 rfl
  unfold w_M_isRow_l4
  refine ⟨⟨by decide, by decide⟩, fun _ => ?_, fun q => absurd q (by decide)⟩
  have b0 : 0 ≤ v0 ∧ v0 ≤ 3 := by omega
  have b1 : 0 ≤ v1 ∧ v1 ≤ 9 := by omega
  have b2 : 0 ≤ v2 ∧ v2 ≤ 9 := by omega
  have b3 : 0 ≤ v3 ∧ v3 ≤ 9 := by omega
  refine k_M_isIn I ⟨by omega, by omega⟩ ⟨by decide, by decide⟩ ⟨by decide, by decide⟩ (fun v8 c1 c2 c3 => ⟨fun e => by omega, fun _ => ⟨zi_r_or _ _, fun n => ?_, fun e => ?_⟩⟩)
  · refine hQ 0 ⟨by decide, by decide⟩ ⟨fun z => absurd ?_ n, fun _ => rfl⟩
    have hz := z.2
    unfold zj_row at hz
    refine (zbits_i b0 ⟨by omega, by omega⟩ ⟨by omega, by omega⟩ ⟨by omega, by omega⟩).2 ⟨?_, ?_, ?_, ?_, ?_, ?_⟩ <;> omega
  · have hj := zbits_j b0 b1 b2 b3 e
    have hd := (zbits_i b0 ⟨by omega, by omega⟩ ⟨by omega, by omega⟩ ⟨by omega, by omega⟩).1 e
    have z : zrow l1 := by
      refine ⟨⟨by omega, by omega⟩, ?_⟩
      unfold zj_row
      refine ⟨⟨?_, ?_⟩, ⟨?_, ?_⟩, ⟨?_, ?_⟩, ⟨?_, ?_⟩, ?_, ?_, ?_, ?_, ?_, ?_⟩ <;> omega
    exact hQ 1 ⟨by decide, by decide⟩ ⟨fun _ => rfl, fun n => absurd z n⟩

-- SpoutNewsModel.mason(IZI)Z
noncomputable def fr_M_mason (a : Nat) (i : Int) : Prop := a = 244 ∨ (a = 214 ∧ i = 0)
theorem k_M_digitOf' {l1 : Int} {l2 : Int} {g : zi_M} {Q : Int → zi_M → Prop} (I : zk_b g) (p1 : (-2147483648) ≤ l1 ∧ l1 ≤ 2147483647) (p2 : 0 ≤ l2 ∧ l2 ≤ 3) (hQ : ∀ v : Int, ((-9) ≤ v ∧ v ≤ 9) → (0 ≤ l1 → (l2 = 0 → v = l1 / 1000 % 10) ∧ (l2 = 1 → v = l1 / 100 % 10) ∧ (l2 = 2 → v = l1 / 10 % 10) ∧ (l2 = 3 → v = l1 % 10)) → Q v g) : w_M_digitOf l1 l2 g Q := by
  have t0 := zi_td10 l1
  have t1 := zi_td10 (Int.tdiv l1 10)
  have t2 := zi_td10 (Int.tdiv (Int.tdiv l1 10) 10)
  have t3 := zi_td10 (Int.tdiv (Int.tdiv (Int.tdiv l1 10) 10) 10)
  unfold w_M_digitOf
  refine ⟨4, ?_⟩
  unfold w_M_digitOf_l5
  refine ⟨⟨by decide, by decide⟩, ⟨by omega, by omega⟩, fun h3 => ⟨p1, hQ _ ⟨by omega, by omega⟩ (fun h0 => ⟨?_, ?_, ?_, ?_⟩)⟩, fun h3 => ⟨p1, ?_⟩⟩
  · intro q; omega
  · intro q; omega
  · intro q; omega
  · intro q; omega
  unfold w_M_digitOf_l5
  refine ⟨⟨by decide, by decide⟩, ⟨by omega, by omega⟩, fun h2 => ⟨⟨by omega, by omega⟩, hQ _ ⟨by omega, by omega⟩ (fun h0 => ⟨?_, ?_, ?_, ?_⟩)⟩, fun h2 => ⟨⟨by omega, by omega⟩, ?_⟩⟩
  · intro q; omega
  · intro q; omega
  · intro q; omega
  · intro q; omega
  unfold w_M_digitOf_l5
  refine ⟨⟨by decide, by decide⟩, ⟨by omega, by omega⟩, fun h1 => ⟨⟨by omega, by omega⟩, hQ _ ⟨by omega, by omega⟩ (fun h0 => ⟨?_, ?_, ?_, ?_⟩)⟩, fun h1 => ⟨⟨by omega, by omega⟩, ?_⟩⟩
  · intro q; omega
  · intro q; omega
  · intro q; omega
  · intro q; omega
  unfold w_M_digitOf_l5
  refine ⟨⟨by decide, by decide⟩, ⟨by omega, by omega⟩, fun h1 => ⟨⟨by omega, by omega⟩, hQ _ ⟨by omega, by omega⟩ (fun h0 => ⟨?_, ?_, ?_, ?_⟩)⟩, fun h1 => by omega⟩
  · intro q; omega
  · intro q; omega
  · intro q; omega
  · intro q; omega
theorem k_M_mason_l40 {g0 : zi_M} {l1 l2 l3 : Int} {K : zi_M → Prop} {Q : Int → zi_M → Prop} (I0 : zk_I g0) (q1 : 0 ≤ l1 ∧ l1 ≤ 3) (q2 : 0 ≤ l2 ∧ l2 ≤ 1) (z : zrow l3) (qz : l3 ≤ 3210) {b : Int} (hb0 : l2 = 0 → b = l1) (hb1 : ¬ l2 = 0 → b = 4 + l1)
    (hK : ∀ g, zk_b g → (∀ a, a ≠ 244 → g a = g0 a) → (∀ i, ¬ (4 * b ≤ i ∧ i < 4 * b + 4) → g 244 i = g0 244 i) → g 244 (4 * b) = l3 / 1000 → g 244 (4 * b + 1) + 1 = l3 / 100 % 10 → g 244 (4 * b + 2) + 2 = l3 / 10 % 10 → g 244 (4 * b + 3) + 3 = l3 % 10 → K g) :
    ∀ (n : Nat) (l4 : Int) (g : zi_M), 0 ≤ l4 → l4 ≤ 4 → zk_b g → (∀ a, a ≠ 244 → g a = g0 a) → (∀ i, ¬ (4 * b ≤ i ∧ i < 4 * b + 4) → g 244 i = g0 244 i) → (1 ≤ l4 → g 244 (4 * b) = l3 / 1000) → (2 ≤ l4 → g 244 (4 * b + 1) + 1 = l3 / 100 % 10) → (3 ≤ l4 → g 244 (4 * b + 2) + 2 = l3 / 10 % 10) → (4 ≤ l4 → g 244 (4 * b + 3) + 3 = l3 % 10) → 4 - l4 < (n : Int) → w_M_mason_l40 l1 l2 l3 K Q n l4 g
  | 0, l4, g, h0, h1, B, F, R, c1, c2, c3, c4, hm => by exfalso; omega
  | n + 1, l4, g, h0, h1, B, F, R, c1, c2, c3, c4, hm => by
    have J : zj g0 := I0.2
    have zz := z.2
    have zb := z.1
    unfold zj_row at zz
    unfold w_M_mason_l40
    refine ⟨⟨by omega, by omega⟩, fun h => hK g B F R (c1 (by omega)) (c2 (by omega)) (c3 (by omega)) (c4 h), fun hl => ⟨⟨by omega, by omega⟩, ?_⟩⟩
    have go : ∀ (ix : Int), ix = 4 * b + l4 → w_M_digitOf l3 l4 g (fun v g14 => ((0 ≤ ix ∧ ix < 32) ∧ (∀ g17, g17 = zi_u g14 244 ix (v - l4) → w_M_mason_l40 l1 l2 l3 K Q n (l4 + 1) g17))) := by
      intro ix eix
      have hbb : 0 ≤ b ∧ b ≤ 7 := by omega
      refine k_M_digitOf' B ⟨by omega, by omega⟩ ⟨h0, by omega⟩ (fun v hv hd => ⟨⟨by omega, by omega⟩, ?_⟩)
      have hd := hd zb.1
      intro g17 e17
      have hv3 : 0 ≤ v ∧ v ≤ 3 := by omega
      refine k_M_mason_l40 I0 q1 q2 z qz hb0 hb1 hK n (l4 + 1) g17 (by omega) (by omega) ?_ (fun a ha => by rw [e17, zi_u_row ha]; exact F a ha) (fun i hi => by rw [e17, zi_u_ni (by omega)]; exact R i hi) ?_ ?_ ?_ ?_ (by omega)
      · rw [e17]
        have lm := zk_lm (i := ix) (by omega)
        exact zk_updb lm.1 lm.2 B ⟨by omega, by omega⟩
      · intro _
        by_cases e : l4 = 0
        · rw [e17, show (4 * b : Int) = ix by omega, zi_u_eq]; omega
        · rw [e17, zi_u_ni (by omega)]; exact c1 (by omega)
      · intro h
        by_cases e : l4 = 1
        · rw [e17, show (4 * b + 1 : Int) = ix by omega, zi_u_eq]; omega
        · rw [e17, zi_u_ni (by omega)]; exact c2 (by omega)
      · intro h
        by_cases e : l4 = 2
        · rw [e17, show (4 * b + 2 : Int) = ix by omega, zi_u_eq]; omega
        · rw [e17, zi_u_ni (by omega)]; exact c3 (by omega)
      · intro h
        rw [e17, show (4 * b + 3 : Int) = ix by omega, zi_u_eq]; omega
    refine ⟨fun e => go _ (by have := hb0 e; omega), fun n => go _ (by have := hb1 n; omega)⟩
theorem k_M_mason {l1 : Int} {l2 : Int} {l3 : Int} {g : zi_M} {Q : Int → zi_M → Prop} (I : zk_I g) (p1 : (-2147483648) ≤ l1 ∧ l1 ≤ 2147483647) (p2 : 0 ≤ l2 ∧ l2 ≤ 1) (p3 : (-2147483648) ≤ l3 ∧ l3 ≤ 2147483647) (hQ : ∀ (v : Int) (g' : zi_M), zk_I g' → zk_fr fr_M_mason g g' → (0 ≤ v ∧ v ≤ 1) → ((0 ≤ l1 ∧ l1 ≤ 3 ∧ zrow l3 → v = 1) ∧ (¬ (0 ≤ l1 ∧ l1 ≤ 3 ∧ zrow l3) → v = 0)) → Q v g') : w_M_mason l1 l2 l3 g Q := by
  unfold w_M_mason
  intro g1 e1
  have I1 : zk_I g1 := by rw [e1]; exact zk_upd (L := -2147483648) (H := 2147483647) rfl rfl I ⟨by decide, by decide⟩
  have F1 : zk_fr fr_M_mason g g1 := by rw [e1]; exact zk_fu (zk_f0 _) (Or.inr ⟨rfl, rfl⟩)
  have no : ¬ (0 ≤ l1 ∧ l1 ≤ 3 ∧ zrow l3) → Q 0 g1 := fun n => hQ 0 g1 I1 F1 ⟨by decide, by decide⟩ ⟨fun q => absurd q n, fun _ => rfl⟩
  refine k_M_isIn I1 p1 ⟨by decide, by decide⟩ ⟨by decide, by decide⟩ (fun v2 a1 a2 a3 => ⟨fun e => no (fun q => by omega), fun n2 => ?_⟩)
  refine k_M_isIn I1 p3 ⟨by decide, by decide⟩ ⟨by decide, by decide⟩ (fun v5 b1 b2 b3 => ⟨fun e => no (fun q => ?_), fun n5 => ?_⟩)
  · have := zrow_le q.2.2
    have := q.2.2.1
    omega
  refine k_M_isRow I1 ⟨by omega, by omega⟩ (fun v8 hv8 hz => ⟨fun n8 => ?_, fun e8 => no (fun q => by have := hz.1 q.2.2; omega)⟩)
  have z : zrow l3 := Classical.byContradiction (fun n => n8 (hz.2 n))
  refine ⟨5, k_M_mason_l40 (g0 := g1) (b := if l2 = 0 then l1 else 4 + l1) I1 ⟨by omega, by omega⟩ p2 z (by omega) (fun e => if_pos e) (fun e => if_neg e) (fun g' B' F' R' m0 m1 m2 m3 => ?_) 5 0 g1 (by decide) (by decide) I1.1 (fun _ _ => rfl) (fun _ _ => rfl) (fun h => absurd h (by decide)) (fun h => absurd h (by decide)) (fun h => absurd h (by decide)) (fun h => absurd h (by decide)) (by decide)⟩
  have J' : zj g' := by
    obtain ⟨h1, h2, h3, h4, h5, h6⟩ := I1.2
    refine ⟨?_, ?_, ?_, ?_, ?_, ?_⟩
    · rw [F' 224 (by decide), F' 226 (by decide), F' 227 (by decide), F' 228 (by decide), F' 229 (by decide), F' 230 (by decide)]; exact h1
    · rw [F' 234 (by decide)]; exact h2
    · intro i i0 i1
      by_cases e : i = (if l2 = 0 then l1 else 4 + l1)
      · rw [e, m0, m1, m2, m3]
        exact z.2
      · rw [R' _ (by omega), R' _ (by omega), R' _ (by omega), R' _ (by omega)]
        exact h3 i i0 i1
    · rw [F' 250 (by decide)]; exact h4
    · rw [F' 250 (by decide)]; exact h5
    · rw [F' 250 (by decide)]; exact h6
  refine hQ 1 g' ⟨B', J'⟩ (fun a i ha => ?_) ⟨by decide, by decide⟩ ⟨fun _ => rfl, fun n => absurd ⟨by omega, by omega, z⟩ n⟩
  rw [F' a (fun e => ha (Or.inl e))]
  exact F1 a i ha


