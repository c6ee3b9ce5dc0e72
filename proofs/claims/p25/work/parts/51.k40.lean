-- by program (wip/gen/mkz.py)
-- SpoutNewsModel.digitOf(II)I
theorem zdg9 (x : Int) : -9 ≤ Int.tmod x 10 ∧ Int.tmod x 10 ≤ 9 := by
  have h := zi_tmod_f x 10
  by_cases q : 0 ≤ x
  · have := h.1 ⟨by decide, q⟩; omega
  · have := h.2 ⟨by decide, by omega⟩; omega
theorem zdgr {x : Int} (h : zi_r x) : zi_r (Int.tdiv x 10) := by
  have f := zi_tdiv_f x 10
  unfold zi_r at *
  by_cases q : 0 ≤ x
  · have := f.1 ⟨by decide, q⟩; omega
  · have := f.2 ⟨by decide, by omega⟩; omega
theorem zdgv {a : Int} (h : 0 ≤ a) : Int.tmod a 10 = a % 10 ∧ Int.tmod (Int.tdiv a 10) 10 = a / 10 % 10 ∧ Int.tmod (Int.tdiv (Int.tdiv a 10) 10) 10 = a / 100 % 10 ∧ Int.tmod (Int.tdiv (Int.tdiv (Int.tdiv a 10) 10) 10) 10 = a / 1000 % 10 := by
  have e1 : Int.tdiv a 10 = a / 10 := Int.tdiv_eq_ediv_of_nonneg h
  have n1 : 0 ≤ a / 10 := by omega
  have e2 : Int.tdiv (a / 10) 10 = a / 100 := by rw [Int.tdiv_eq_ediv_of_nonneg n1]; omega
  have n2 : 0 ≤ a / 100 := by omega
  have e3 : Int.tdiv (a / 100) 10 = a / 1000 := by rw [Int.tdiv_eq_ediv_of_nonneg n2]; omega
  have n3 : 0 ≤ a / 1000 := by omega
  rw [e1, e2, e3]
  exact ⟨Int.tmod_eq_emod_of_nonneg h, Int.tmod_eq_emod_of_nonneg n1, Int.tmod_eq_emod_of_nonneg n2, Int.tmod_eq_emod_of_nonneg n3⟩
theorem k_M_digitOf {l1 : Int} {l2 : Int} {g : zi_M} {Q : Int → zi_M → Prop} (I : zk_I g) (p1 : (-2147483648) ≤ l1 ∧ l1 ≤ 2147483647) (p2 : 0 ≤ l2 ∧ l2 ≤ 3) (hQ : ∀ v : Int, ((-9) ≤ v ∧ v ≤ 9) → (0 ≤ l1 → (l2 = 0 → v = l1 / 1000 % 10) ∧ (l2 = 1 → v = l1 / 100 % 10) ∧ (l2 = 2 → v = l1 / 10 % 10) ∧ (l2 = 3 → v = l1 % 10)) → Q v g) : w_M_digitOf l1 l2 g Q := by
  unfold w_M_digitOf
  refine ⟨4, ?_⟩
  unfold w_M_digitOf_l5
  refine ⟨⟨by decide, by decide⟩, ⟨by omega, by omega⟩, fun h3 => ⟨p1, hQ _ (zdg9 _) (fun h0 => ⟨fun q => by omega, fun q => by omega, fun q => by omega, fun _ => (zdgv h0).1⟩)⟩, fun h3 => ⟨p1, ?_⟩⟩
  unfold w_M_digitOf_l5
  refine ⟨⟨by decide, by decide⟩, ⟨by omega, by omega⟩, fun h2 => ⟨zdgr p1, hQ _ (zdg9 _) (fun h0 => ⟨fun q => by omega, fun q => by omega, fun _ => (zdgv h0).2.1, fun q => by omega⟩)⟩, fun h2 => ⟨zdgr p1, ?_⟩⟩
  unfold w_M_digitOf_l5
  refine ⟨⟨by decide, by decide⟩, ⟨by omega, by omega⟩, fun h1 => ⟨zdgr (zdgr p1), hQ _ (zdg9 _) (fun h0 => ⟨fun q => by omega, fun _ => (zdgv h0).2.2.1, fun q => by omega, fun q => by omega⟩)⟩, fun h1 => ⟨zdgr (zdgr p1), ?_⟩⟩
  unfold w_M_digitOf_l5
  exact ⟨⟨by decide, by decide⟩, ⟨by omega, by omega⟩, fun h1 => ⟨zdgr (zdgr (zdgr p1)), hQ _ (zdg9 _) (fun h0 => ⟨fun _ => (zdgv h0).2.2.2, fun q => by omega, fun q => by omega, fun q => by omega⟩)⟩, fun h1 => by omega⟩

-- SpoutNewsModel.isRow(I)Z
theorem k_M_isRow {l1 : Int} {g : zi_M} {Q : Int → zi_M → Prop} (I : zk_I g) (p1 : 0 ≤ l1 ∧ l1 ≤ 3210) (hQ : ∀ v : Int, (0 ≤ v ∧ v ≤ 1) → ((zrow l1 → v = 1) ∧ (¬ zrow l1 → v = 0)) → Q v g) : w_M_isRow l1 g Q := by
  unfold w_M_isRow
  refine ⟨5, ?_⟩
  unfold w_M_isRow_l4
  refine ⟨⟨by decide, by decide⟩, fun q => absurd q (by decide), fun _ => ?_⟩
  refine k_M_digitOf I ⟨by omega, by omega⟩ ⟨by decide, by decide⟩ (fun v0 r0 h0 => ?_)
  have a0 := (h0 p1.1).1 rfl
  unfold w_M_isRow_l4
  refine ⟨⟨by decide, by decide⟩, fun q => absurd q (by decide), fun _ => ?_⟩
  refine k_M_digitOf I ⟨by omega, by omega⟩ ⟨by decide, by decide⟩ (fun v1 r1 h1 => ?_)
  have a1 := (h1 p1.1).2.1 rfl
  unfold w_M_isRow_l4
  refine ⟨⟨by decide, by decide⟩, fun q => absurd q (by decide), fun _ => ?_⟩
  refine k_M_digitOf I ⟨by omega, by omega⟩ ⟨by decide, by decide⟩ (fun v2 r2 h2 => ?_)
  have a2 := (h2 p1.1).2.2.1 rfl
  unfold w_M_isRow_l4
  refine ⟨⟨by decide, by decide⟩, fun q => absurd q (by decide), fun _ => ?_⟩
  refine k_M_digitOf I ⟨by omega, by omega⟩ ⟨by decide, by decide⟩ (fun v3 r3 h3 => ?_)
  have a3 := (h3 p1.1).2.2.2 rfl
  unfold w_M_isRow_l4
  refine ⟨⟨by decide, by decide⟩, fun _ => ?_, fun q => absurd q (by decide)⟩
  have b0 : 0 ≤ v0 ∧ v0 ≤ 3 := by omega
  have b1 : 0 ≤ v1 ∧ v1 ≤ 9 := by omega
  have b2 : 0 ≤ v2 ∧ v2 ≤ 9 := by omega
  have b3 : 0 ≤ v3 ∧ v3 ≤ 9 := by omega
  refine k_M_isIn I ⟨by omega, by omega⟩ ⟨by decide, by decide⟩ ⟨by decide, by decide⟩ (fun v8 c1 c2 c3 => ⟨fun e => by omega, fun _ => ⟨zi_r_or _ _, fun n => ?_, fun e => ?_⟩⟩)
  · refine hQ 0 ⟨by decide, by decide⟩ ⟨fun z => absurd ?_ n, fun _ => rfl⟩
    have hz := z.2
    unfold zj_row at hz
    refine (zbits_i b0 ⟨by omega, by omega⟩ ⟨by omega, by omega⟩ ⟨by omega, by omega⟩).2 ⟨?_, ?_, ?_, ?_, ?_, ?_⟩ <;> omega
  · have hj := zbits_j b0 b1 b2 b3 e
    have hd := (zbits_i b0 ⟨by omega, by omega⟩ ⟨by omega, by omega⟩ ⟨by omega, by omega⟩).1 e
    have z : zrow l1 := by
      refine ⟨⟨by omega, by omega⟩, ?_⟩
      unfold zj_row
      refine ⟨⟨?_, ?_⟩, ⟨?_, ?_⟩, ⟨?_, ?_⟩, ⟨?_, ?_⟩, ?_, ?_, ?_, ?_, ?_, ?_⟩ <;> omega
    exact hQ 1 ⟨by decide, by decide⟩ ⟨fun _ => rfl, fun n => absurd z n⟩

-- SpoutNewsModel.mason(IZI)Z
theorem k_M_digitOf' {l1 : Int} {l2 : Int} {g : zi_M} {Q : Int → zi_M → Prop} (I : zk_b g) (p1 : (-2147483648) ≤ l1 ∧ l1 ≤ 2147483647) (p2 : 0 ≤ l2 ∧ l2 ≤ 3) (hQ : ∀ v : Int, ((-9) ≤ v ∧ v ≤ 9) → (0 ≤ l1 → (l2 = 0 → v = l1 / 1000 % 10) ∧ (l2 = 1 → v = l1 / 100 % 10) ∧ (l2 = 2 → v = l1 / 10 % 10) ∧ (l2 = 3 → v = l1 % 10)) → Q v g) : w_M_digitOf l1 l2 g Q := by
  unfold w_M_digitOf
  refine ⟨4, ?_⟩
  unfold w_M_digitOf_l5
  refine ⟨⟨by decide, by decide⟩, ⟨by omega, by omega⟩, fun h3 => ⟨p1, hQ _ (zdg9 _) (fun h0 => ⟨fun q => by omega, fun q => by omega, fun q => by omega, fun _ => (zdgv h0).1⟩)⟩, fun h3 => ⟨p1, ?_⟩⟩
  unfold w_M_digitOf_l5
  refine ⟨⟨by decide, by decide⟩, ⟨by omega, by omega⟩, fun h2 => ⟨zdgr p1, hQ _ (zdg9 _) (fun h0 => ⟨fun q => by omega, fun q => by omega, fun _ => (zdgv h0).2.1, fun q => by omega⟩)⟩, fun h2 => ⟨zdgr p1, ?_⟩⟩
  unfold w_M_digitOf_l5
  refine ⟨⟨by decide, by decide⟩, ⟨by omega, by omega⟩, fun h1 => ⟨zdgr (zdgr p1), hQ _ (zdg9 _) (fun h0 => ⟨fun q => by omega, fun _ => (zdgv h0).2.2.1, fun q => by omega, fun q => by omega⟩)⟩, fun h1 => ⟨zdgr (zdgr p1), ?_⟩⟩
  unfold w_M_digitOf_l5
  exact ⟨⟨by decide, by decide⟩, ⟨by omega, by omega⟩, fun h1 => ⟨zdgr (zdgr (zdgr p1)), hQ _ (zdg9 _) (fun h0 => ⟨fun _ => (zdgv h0).2.2.2, fun q => by omega, fun q => by omega, fun q => by omega⟩)⟩, fun h1 => by omega⟩
theorem k_M_mason_l40 {g0 : zi_M} {l1 l2 l3 : Int} {K : zi_M → Prop} {Q : Int → zi_M → Prop} (I0 : zk_I g0) (q1 : 0 ≤ l1 ∧ l1 ≤ 3) (q2 : 0 ≤ l2 ∧ l2 ≤ 1) (z : zrow l3) (qz : l3 ≤ 3210) {b : Int} (hb0 : l2 = 0 → b = l1) (hb1 : ¬ l2 = 0 → b = 4 + l1)
    (hK : ∀ g, zk_b g → (∀ a, a ≠ 244 → g a = g0 a) → (∀ i, ¬ (4 * b ≤ i ∧ i < 4 * b + 4) → g 244 i = g0 244 i) → g 244 (4 * b) = l3 / 1000 → g 244 (4 * b + 1) + 1 = l3 / 100 % 10 → g 244 (4 * b + 2) + 2 = l3 / 10 % 10 → g 244 (4 * b + 3) + 3 = l3 % 10 → K g) :
    ∀ (n : Nat) (l4 : Int) (g : zi_M), 0 ≤ l4 → l4 ≤ 4 → zk_b g → (∀ a, a ≠ 244 → g a = g0 a) → (∀ i, ¬ (4 * b ≤ i ∧ i < 4 * b + 4) → g 244 i = g0 244 i) → (1 ≤ l4 → g 244 (4 * b) = l3 / 1000) → (2 ≤ l4 → g 244 (4 * b + 1) + 1 = l3 / 100 % 10) → (3 ≤ l4 → g 244 (4 * b + 2) + 2 = l3 / 10 % 10) → (4 ≤ l4 → g 244 (4 * b + 3) + 3 = l3 % 10) → 4 - l4 < (n : Int) → w_M_mason_l40 l1 l2 l3 K Q n l4 g
  | 0, l4, g, h0, h1, B, F, R, c1, c2, c3, c4, hm => by exfalso; omega
  | n + 1, l4, g, h0, h1, B, F, R, c1, c2, c3, c4, hm => by
    have J : zj g0 := I0.2
    have zz := z.2
    have zb := z.1
    unfold zj_row at zz
    unfold w_M_mason_l40
    refine ⟨⟨by omega, by omega⟩, fun h => hK g B F R (c1 (by omega)) (c2 (by omega)) (c3 (by omega)) (c4 h), fun hl => ⟨⟨by omega, by omega⟩, ?_⟩⟩
    have go : ∀ (ix : Int), ix = 4 * b + l4 → w_M_digitOf l3 l4 g (fun v g14 => ((0 ≤ ix ∧ ix < 32) ∧ (∀ g17, g17 = zi_u g14 244 ix (v - l4) → w_M_mason_l40 l1 l2 l3 K Q n (l4 + 1) g17))) := by
      intro ix eix
      have hbb : 0 ≤ b ∧ b ≤ 7 := by omega
      refine k_M_digitOf' B ⟨by omega, by omega⟩ ⟨h0, by omega⟩ (fun v hv hd => ⟨⟨by omega, by omega⟩, ?_⟩)
      have hd := hd zb.1
      intro g17 e17
      have hv3 : 0 ≤ v ∧ v ≤ 3 := by omega
      refine k_M_mason_l40 I0 q1 q2 z qz hb0 hb1 hK n (l4 + 1) g17 (by omega) (by omega) ?_ (fun a ha => by rw [e17, zi_u_row ha]; exact F a ha) (fun i hi => by rw [e17, zi_u_ni (by omega)]; exact R i hi) ?_ ?_ ?_ ?_ (by omega)
      · rw [e17]
        have lm := zk_lm (i := ix) (by omega)
        exact zk_updb lm.1 lm.2 B ⟨by omega, by omega⟩
      · intro _
        by_cases e : l4 = 0
        · rw [e17, show (4 * b : Int) = ix by omega, zi_u_eq]; omega
        · rw [e17, zi_u_ni (by omega)]; exact c1 (by omega)
      · intro h
        by_cases e : l4 = 1
        · rw [e17, show (4 * b + 1 : Int) = ix by omega, zi_u_eq]; omega
        · rw [e17, zi_u_ni (by omega)]; exact c2 (by omega)
      · intro h
        by_cases e : l4 = 2
        · rw [e17, show (4 * b + 2 : Int) = ix by omega, zi_u_eq]; omega
        · rw [e17, zi_u_ni (by omega)]; exact c3 (by omega)
      · intro h
        rw [e17, show (4 * b + 3 : Int) = ix by omega, zi_u_eq]; omega
    refine ⟨fun e => go _ (by have := hb0 e; omega), fun n => go _ (by have := hb1 n; omega)⟩
theorem k_M_mason {l1 : Int} {l2 : Int} {l3 : Int} {g : zi_M} {Q : Int → zi_M → Prop} (I : zk_I g) (p1 : (-2147483648) ≤ l1 ∧ l1 ≤ 2147483647) (p2 : 0 ≤ l2 ∧ l2 ≤ 1) (p3 : (-2147483648) ≤ l3 ∧ l3 ≤ 2147483647) (hQ : ∀ (v : Int) (g' : zi_M), zk_I g' → zk_fr fr_M_mason g g' → (0 ≤ v ∧ v ≤ 1) → ((0 ≤ l1 ∧ l1 ≤ 3 ∧ zrow l3 → v = 1) ∧ (¬ (0 ≤ l1 ∧ l1 ≤ 3 ∧ zrow l3) → v = 0)) → (∀ k : Int, 0 ≤ k ∧ k < 16 → (¬ v = 0 ∧ l2 = 0 ∧ k / 4 = l1 → g' 244 k = zdg l3 (k % 4) - k % 4) ∧ (¬ (¬ v = 0 ∧ l2 = 0 ∧ k / 4 = l1) → g' 244 k = g 244 k)) → (∀ k : Int, 0 ≤ k ∧ k < 16 → (¬ v = 0 ∧ ¬ l2 = 0 ∧ k / 4 = l1 → g' 244 (16 + k) = zdg l3 (k % 4) - k % 4) ∧ (¬ (¬ v = 0 ∧ ¬ l2 = 0 ∧ k / 4 = l1) → g' 244 (16 + k) = g 244 (16 + k))) → Q v g') : w_M_mason l1 l2 l3 g Q := by
  unfold w_M_mason
  intro g1 e1
  have I1 : zk_I g1 := by rw [e1]; exact zk_upd (L := -2147483648) (H := 2147483647) rfl rfl I ⟨by decide, by decide⟩
  have F1 : zk_fr fr_M_mason g g1 := by rw [e1]; exact zk_fu (zk_f0 _) (Or.inr ⟨rfl, rfl⟩)
  have no : ¬ (0 ≤ l1 ∧ l1 ≤ 3 ∧ zrow l3) → Q 0 g1 := fun n => hQ 0 g1 I1 F1 ⟨by decide, by decide⟩ ⟨fun q => absurd q n, fun _ => rfl⟩ (fun k hk => ⟨fun q => absurd rfl q.1, fun _ => by rw [e1]; exact zi_u_ne (by decide)⟩) (fun k hk => ⟨fun q => absurd rfl q.1, fun _ => by rw [e1]; exact zi_u_ne (by decide)⟩)
  refine k_M_isIn I1 p1 ⟨by decide, by decide⟩ ⟨by decide, by decide⟩ (fun v2 a1 a2 a3 => ⟨fun e => no (fun q => by omega), fun n2 => ?_⟩)
  refine k_M_isIn I1 p3 ⟨by decide, by decide⟩ ⟨by decide, by decide⟩ (fun v5 b1 b2 b3 => ⟨fun e => no (fun q => ?_), fun n5 => ?_⟩)
  · have := zrow_le q.2.2
    have := q.2.2.1
    omega
  refine k_M_isRow I1 ⟨by omega, by omega⟩ (fun v8 hv8 hz => ⟨fun n8 => ?_, fun e8 => no (fun q => by have := hz.1 q.2.2; omega)⟩)
  have z : zrow l3 := Classical.byContradiction (fun n => n8 (hz.2 n))
  refine ⟨5, k_M_mason_l40 (g0 := g1) (b := if l2 = 0 then l1 else 4 + l1) I1 ⟨by omega, by omega⟩ p2 z (by omega) (fun e => if_pos e) (fun e => if_neg e) (fun g' B' F' R' m0 m1 m2 m3 => ?_) 5 0 g1 (by decide) (by decide) I1.1 (fun _ _ => rfl) (fun _ _ => rfl) (fun h => absurd h (by decide)) (fun h => absurd h (by decide)) (fun h => absurd h (by decide)) (fun h => absurd h (by decide)) (by decide)⟩
  have J' : zj g' := by
    obtain ⟨h1, h2, h3, h4, h5, h6⟩ := I1.2
    refine ⟨?_, ?_, ?_, ?_, ?_, ?_⟩
    · rw [F' 224 (by decide), F' 226 (by decide), F' 227 (by decide), F' 228 (by decide), F' 229 (by decide), F' 230 (by decide)]; exact h1
    · rw [F' 234 (by decide)]; exact h2
    · intro i i0 i1
      by_cases e : i = (if l2 = 0 then l1 else 4 + l1)
      · rw [e, m0, m1, m2, m3]
        exact z.2
      · rw [R' _ (by omega), R' _ (by omega), R' _ (by omega), R' _ (by omega)]
        exact h3 i i0 i1
    · rw [F' 250 (by decide)]; exact h4
    · rw [F' 250 (by decide)]; exact h5
    · rw [F' 250 (by decide)]; exact h6
  refine hQ 1 g' ⟨B', J'⟩ (fun a i ha => ?_) ⟨by decide, by decide⟩ ⟨fun _ => rfl, fun n => absurd ⟨by omega, by omega, z⟩ n⟩ (fun k hk => ⟨fun q => ?_, fun q => ?_⟩) (fun k hk => ⟨fun q => ?_, fun q => ?_⟩)
  · rw [F' a (fun e => ha (Or.inl e))]
    exact F1 a i ha
  · rw [if_pos q.2.1] at m0 m1 m2 m3
    exact zmm4 (f := g' 244) m0 m1 m2 m3 q.2.2
  · rw [show g 244 k = g1 244 k by rw [e1]; exact (zi_u_ne (by decide)).symm]
    refine R' k (fun w => ?_)
    by_cases c : l2 = 0
    · rw [if_pos c] at w
      exact q ⟨by decide, c, by omega⟩
    · rw [if_neg c] at w
      omega
  · rw [if_neg q.2.1] at m0 m1 m2 m3
    have h := zmm4 (f := g' 244) (k := 16 + k) m0 m1 m2 m3 (by have := q.2.2; omega)
    rw [show (16 + k) % 4 = k % 4 by omega] at h
    exact h
  · rw [show g 244 (16 + k) = g1 244 (16 + k) by rw [e1]; exact (zi_u_ne (by decide)).symm]
    refine R' (16 + k) (fun w => ?_)
    by_cases c : l2 = 0
    · rw [if_pos c] at w
      omega
    · rw [if_neg c] at w
      exact q ⟨by decide, c, by omega⟩

-- SpoutNews$Thought.firstWithout()I
set_option maxRecDepth 100000 in
set_option maxHeartbeats 4000000 in
theorem k_Thought_firstWithout_l2 {g : zi_M} (I : zk_I g) {K17 : Int → zi_M → Prop} {K25 : zi_M → Prop} {Q : Int → zi_M → Prop} (hK17 : ∀ (k1 : Int), (0 ≤ k1 ∧ k1 ≤ 3) → (g 186 k1 = -1) → (∀ j : Int, 0 ≤ j → j < k1 → ¬ g 186 j = -1) → K17 k1 g) (hK25 : (∀ j : Int, 0 ≤ j → j ≤ 3 → ¬ g 186 j = -1) → K25 g) (hQ : ∀ v : Int, ((-1) ≤ v ∧ v ≤ 3) → (¬ v = -1 → g 186 v = -1 ∧ ∀ j : Int, 0 ≤ j → j < v → ¬ g 186 j = -1) → (v = -1 → ∀ j : Int, 0 ≤ j → j ≤ 3 → ¬ g 186 j = -1) → Q v g) : ∀ (n : Nat) {l1 : Int}, (0 ≤ l1 ∧ l1 ≤ 4) → (∀ j : Int, 0 ≤ j → j < l1 → ¬ g 186 j = -1) → 4 - l1 < (n : Int) → w_Thought_firstWithout_l2 K17 K25 Q n l1 g
  | 0, l1, b0, b1, hm => by exfalso; omega
  | n + 1, l1, b0, b1, hm => by
    unfold w_Thought_firstWithout_l2
    refine ⟨⟨by omega, by omega⟩, ?_⟩
    refine ⟨fun c5 => ?_, fun c5 => ?_⟩
    · exact hK25 (by exact zno_e b1 (by omega))
    · refine ⟨⟨by omega, by omega⟩, ?_⟩
      have m_1 : (-1) ≤ (g 186 l1) ∧ (g 186 l1) ≤ 3 := I.1 186 l1
      refine ⟨⟨by omega, by omega⟩, ?_⟩
      refine ⟨fun c4 => ?_, fun c4 => ?_⟩
      · exact k_Thought_firstWithout_l2 I hK17 hK25 hQ n ⟨by omega, by omega⟩ (by first | exact zno_st b1 (by assumption) | (intro j h0 h1; exfalso; omega)) (by omega)
      · exact hK17 _ ⟨by omega, by omega⟩ (by assumption) (by exact b1)
set_option maxRecDepth 100000 in
set_option maxHeartbeats 4000000 in
theorem k_Thought_firstWithout {g : zi_M} {Q : Int → zi_M → Prop} (I : zk_I g) (hQ : ∀ v : Int, ((-1) ≤ v ∧ v ≤ 3) → (¬ v = -1 → g 186 v = -1 ∧ ∀ j : Int, 0 ≤ j → j < v → ¬ g 186 j = -1) → (v = -1 → ∀ j : Int, 0 ≤ j → j ≤ 3 → ¬ g 186 j = -1) → Q v g) : w_Thought_firstWithout g Q := by
  unfold w_Thought_firstWithout
  refine ⟨((4 - 0 : Int).toNat + 1), k_Thought_firstWithout_l2 I (fun k6 b_2 b_3 b_4 => ?_) (fun b_5 => ?_) hQ ((4 - 0 : Int).toNat + 1) ⟨by omega, by omega⟩ (by first | exact zno_st b1 (by assumption) | (intro j h0 h1; exfalso; omega)) (by omega)⟩
  · exact hQ _ ⟨by omega, by omega⟩ (by intro hv; first | (exfalso; omega) | exact ⟨by assumption, by assumption⟩) (by intro hv; first | assumption | (exfalso; omega))
  · exact hQ _ ⟨by omega, by omega⟩ (by intro hv; first | (exfalso; omega) | exact ⟨by assumption, by assumption⟩) (by intro hv; first | assumption | (exfalso; omega))
-- SpoutNews$Thought.dearness(LSpoutNews$Told;II)I
set_option maxRecDepth 100000 in
set_option maxHeartbeats 4000000 in
theorem k_Thought_dearness_l2 {g : zi_M} (I : zk_I g) {l1 : Int} {l2 : Int} {K21 : Int → zi_M → Prop} {K29 : zi_M → Prop} {Q : Int → zi_M → Prop} (q1 : 0 ≤ l1 ∧ l1 ≤ 3) (q2 : 0 ≤ l2 ∧ l2 ≤ 3) (hK21 : ∀ (k3 : Int), (0 ≤ k3 ∧ k3 ≤ 3) → (k3 = zpl (zrw (g 43) l1) l2) → K21 k3 g) (hK29 : (4 = zpl (zrw (g 43) l1) l2) → K29 g) (hQ : ∀ v : Int, (0 ≤ v ∧ v ≤ 4) → (v = zpl (zrw (g 43) l1) l2) → Q v g) : ∀ (n : Nat) {l3 : Int}, (0 ≤ l3 ∧ l3 ≤ 4) → (∀ j : Int, 0 ≤ j → j < l3 → ¬ zrw (g 43) l1 j = l2) → 4 - l3 < (n : Int) → w_Thought_dearness_l2 l1 l2 K21 K29 Q n l3 g
  | 0, l3, b0, b1, hm => by exfalso; omega
  | n + 1, l3, b0, b1, hm => by
    unfold w_Thought_dearness_l2
    refine ⟨⟨by omega, by omega⟩, ?_⟩
    refine ⟨fun c6 => ?_, fun c6 => ?_⟩
    · exact hK29 (by exact zpl_4 b1 (by omega))
    · refine ⟨⟨by omega, by omega⟩, ?_⟩
      have m_1 : 0 ≤ (g 43 ((l1 * 4) + l3)) ∧ (g 43 ((l1 * 4) + l3)) ≤ 3 := I.1 43 ((l1 * 4) + l3)
      refine ⟨⟨by omega, by omega⟩, ⟨by omega, by omega⟩, ?_⟩
      refine ⟨fun c5 => ?_, fun c5 => ?_⟩
      · exact k_Thought_dearness_l2 I q1 q2 hK21 hK29 hQ n ⟨by omega, by omega⟩ (by first | exact zno_st b1 (show ¬ g 43 (l1 * 4 + l3) = l2 by assumption) | (intro j h0 h1; exfalso; omega)) (by omega)
      · exact hK21 _ ⟨by omega, by omega⟩ (by exact zpl_x b1 (show g 43 (l1 * 4 + l3) = l2 by assumption) ⟨by omega, by omega⟩)
set_option maxRecDepth 100000 in
set_option maxHeartbeats 4000000 in
theorem k_Thought_dearness {l1 : Int} {l2 : Int} {g : zi_M} {Q : Int → zi_M → Prop} (I : zk_I g) (p1 : 0 ≤ l1 ∧ l1 ≤ 3) (p2 : 0 ≤ l2 ∧ l2 ≤ 3) (hQ : ∀ v : Int, (0 ≤ v ∧ v ≤ 4) → (v = zpl (zrw (g 43) l1) l2) → Q v g) : w_Thought_dearness l1 l2 g Q := by
  unfold w_Thought_dearness
  refine ⟨((4 - 0 : Int).toNat + 1), k_Thought_dearness_l2 (l1 := l1) (l2 := l2) I ⟨by omega, by omega⟩ ⟨by omega, by omega⟩ (fun k7 b_2 b_3 => ?_) (fun b_4 => ?_) hQ ((4 - 0 : Int).toNat + 1) ⟨by omega, by omega⟩ (by first | exact zno_st b1 (show ¬ g 43 (l1 * 4 + l3) = l2 by assumption) | (intro j h0 h1; exfalso; omega)) (by omega)⟩
  · exact hQ _ ⟨by omega, by omega⟩ (by assumption)
  · exact hQ _ ⟨by omega, by omega⟩ (by assumption)
-- SpoutNews$Thought.offer(LSpoutNews$Told;II)V
theorem k_Thought_offer {l2 : Int} {l3 : Int} {g : zi_M} {Q : Int → zi_M → Prop} (I : zk_I g) (p2 : 0 ≤ l2 ∧ l2 ≤ 3) (p3 : 0 ≤ l3 ∧ l3 ≤ 3) (px0 : ∀ m : Int, 0 ≤ m → m ≤ 3 → g 188 m ≤ 15) (hQ : ∀ g' : zi_M, zk_I g' → zk_fr fr_Thought_offer g g' → (∀ m : Int, 0 ≤ m → m ≤ 3 → g' 188 m ≤ g 188 m + 1) → (zof (zrw (g 43) l3) (g 186) (g 187) (g 188) (g' 186) (g' 187) (g' 188) l2 l3) → Q 0 g') : w_Thought_offer l2 l3 g Q := by
  have q2 : g 188 l2 ≤ 15 := px0 l2 p2.1 p2.2
  have r2 : 0 ≤ g 188 l2 := (I.1 188 l2).1
  have b66 : ∀ g', zk_I g' → zk_fr fr_Thought_offer g g' → (∀ m, 0 ≤ m → m ≤ 3 → g' 188 m ≤ g 188 m + 1) → (∀ g7 : zi_M, g7 186 = zup (g' 186) l2 l3 → g7 187 = zup (g' 187) l3 l2 → g7 188 = g' 188 → zof (zrw (g 43) l3) (g 186) (g 187) (g 188) (g7 186) (g7 187) (g7 188) l2 l3) → w_Thought_offer_b66 l2 l3 g' Q := by
    intro g' I' F' h ho
    unfold w_Thought_offer_b66
    refine ⟨⟨p3.1, by omega⟩, ?_⟩
    intro g5 e5
    have I5 : zk_I g5 := by rw [e5]; exact zk_upd (L := -1) (H := 3) rfl rfl I' ⟨by omega, by omega⟩
    refine ⟨⟨p2.1, by omega⟩, ?_⟩
    intro g7 e7
    have I7 : zk_I g7 := by rw [e7]; exact zk_upd (L := -1) (H := 3) rfl rfl I5 ⟨by omega, by omega⟩
    refine hQ g7 I7 (by rw [e7, e5]; exact zk_fu (zk_fu F' (Or.inr (Or.inl rfl))) (Or.inl rfl)) (fun m m0 m1 => ?_) (ho g7 ?_ ?_ ?_)
    · rw [e7, zi_u_ne (by decide), e5, zi_u_ne (by decide)]
      exact h m m0 m1
    · rw [e7, zup_u]
      congr 1
      rw [e5]
      exact zi_u_row (by decide)
    · rw [e7, zi_u_row (by decide), e5, zup_u]
    · rw [e7, zi_u_row (by decide), e5, zi_u_row (by decide)]
  have h3 : -1 ≤ g 187 l3 ∧ g 187 l3 ≤ 3 := I.1 187 l3
  have b41 : ¬ (¬ g 187 l3 = -1 ∧ zpl (zrw (g 43) l3) (g 187 l3) < zpl (zrw (g 43) l3) l2) → w_Thought_offer_b41 l2 l3 (g 187 l3) g Q := by
    intro nr
    unfold w_Thought_offer_b41
    refine ⟨⟨by omega, by omega⟩, fun e => b66 g I (zk_f0 _) (fun m _ _ => by omega) (fun g7 a b c => ⟨fun z => absurd z nr, fun _ => ⟨b, fun _ => ⟨a, c⟩, fun ne => absurd e ne⟩⟩), fun ne => ⟨⟨by omega, by omega⟩, ?_⟩⟩
    intro g9 e9 g10 e10
    have q4 : g 188 (g 187 l3) ≤ 15 := px0 _ (by omega) h3.2
    have r4 : 0 ≤ g 188 (g 187 l3) := (I.1 188 _).1
    have I9 : zk_I g9 := by rw [e9]; exact zk_upd (L := -1) (H := 3) rfl rfl I ⟨by decide, by decide⟩
    have a9 : ∀ i, g9 188 i = g 188 i := fun i => by rw [e9]; exact zi_u_ne (by decide)
    have I10 : zk_I g10 := by rw [e10]; exact zk_upd (L := 0) (H := 16) rfl rfl I9 ⟨by rw [a9]; omega, by rw [a9]; omega⟩
    have f186 : g10 186 = zup (g 186) (g 187 l3) (-1) := by rw [e10, zi_u_row (by decide), e9, zup_u]
    have f187 : g10 187 = g 187 := by rw [e10, zi_u_row (by decide), e9, zi_u_row (by decide)]
    have f188 : g10 188 = zup (g 188) (g 187 l3) (g 188 (g 187 l3) + 1) := by rw [e10, zup_u, a9, e9, zi_u_row (by decide)]
    refine b66 g10 I10 (by rw [e10, e9]; exact zk_fu (zk_fu (zk_f0 _) (Or.inl rfl)) (Or.inr (Or.inr rfl))) (fun m _ _ => ?_) (fun g7 a b c => ⟨fun z => absurd z nr, fun _ => ⟨?_, fun e => absurd e ne, fun _ => ⟨?_, ?_⟩⟩⟩)
    · by_cases q : m = g 187 l3
      · rw [q, e10, zi_u_eq, a9]; omega
      · rw [e10, zi_u_ni q, a9]; omega
    · rw [b, f187]
    · rw [a, f186]
    · rw [c, f188]
  unfold w_Thought_offer
  refine ⟨⟨p3.1, by omega⟩, zk_rng I _ _, fun e => b41 (fun z => z.1 e), fun ne => ?_⟩
  refine k_Thought_dearness I p3 ⟨by omega, by omega⟩ (fun v12 h12 e12 => ?_)
  refine k_Thought_dearness I p3 ⟨by omega, by omega⟩ (fun v15 h15 e15 => ⟨⟨by omega, by omega⟩, ⟨by omega, by omega⟩, fun hc => b41 (fun z => by have := z.2; omega), fun hc => ⟨⟨p2.1, by omega⟩, ?_⟩⟩)
  intro g21 e21
  refine hQ g21 (by rw [e21]; exact zk_upd (L := 0) (H := 16) rfl rfl I ⟨by omega, by omega⟩) (by rw [e21]; exact zk_fu (zk_f0 _) (Or.inr (Or.inr rfl))) (fun m _ _ => ?_) ⟨fun _ => ⟨?_, ?_, ?_⟩, fun z => absurd ⟨ne, by omega⟩ z⟩
  · by_cases q : m = l2
    · rw [q, e21, zi_u_eq]; omega
    · rw [e21, zi_u_ni q]; omega
  · rw [e21, zi_u_row (by decide)]
  · rw [e21, zi_u_row (by decide)]
  · rw [e21, zup_u]

-- SpoutNews$Thought.makeOffers(LSpoutNews$Told;)V
theorem k_Thought_makeOffers_l31 {g0 : zi_M} {K57 K97 : zi_M → Prop} {Q : Int → zi_M → Prop} (hK : ∀ g, zk_I g → zk_fr fr_Thought_makeOffers g0 g → (zkP g0 → ∃ k : Nat, g 180 11 = (k : Int) ∧ zEnd (zrw (g0 42)) (zrw (g0 43)) k ∧ ∀ m : Int, 0 ≤ m → m ≤ 3 → (0 ≤ g 186 m ∧ g 186 m ≤ 3) ∧ (zru (zrw (g0 42)) (zrw (g0 43)) k).1 (g 186 m) = m + 1) → K57 g ∧ K97 g) :
    ∀ (n : Nat) (l2 : Int) (g : zi_M), 0 ≤ l2 → l2 ≤ 16 → zk_I g → zk_fr fr_Thought_makeOffers g0 g → g 180 11 = l2 → (∀ m, 0 ≤ m → m ≤ 3 → g 188 m ≤ l2) → (zkP g0 → zgo (zrw (g0 42)) (zrw (g0 43)) l2.toNat ∧ zrl (zru (zrw (g0 42)) (zrw (g0 43)) l2.toNat).1 (zru (zrw (g0 42)) (zrw (g0 43)) l2.toNat).2 (g 186) (g 187) (g 188)) → 16 - l2 < (n : Int) → w_Thought_makeOffers_l31 K57 K97 Q n l2 g
  | 0, l2, g, h0, h1, I, F, ho, hr, hp, hm => by exfalso; omega
  | n + 1, l2, g, h0, h1, I, F, ho, hr, hp, hm => by
    have fin : (zkP g0 → zfm (zru (zrw (g0 42)) (zrw (g0 43)) l2.toNat).1 = -1) → K57 g ∧ K97 g := fun z => hK g I F (fun P => by
      have hp1 := hp P
      have z1 := z P
      refine ⟨l2.toNat, by omega, ⟨hp1.1, z1⟩, fun m m0 m1 => ?_⟩
      rcases zfm_all (zru (zrw (g0 42)) (zrw (g0 43)) l2.toNat).1 with q | q
      · have w := (hp1.2.2 m m0 m1).2 (q.2 m m0 m1)
        exact ⟨w.1, w.2.1⟩
      · exfalso; omega)
    have e42 : g 42 = g0 42 := funext (fun i => F 42 i (by unfold fr_Thought_makeOffers; omega))
    have e43 : g 43 = g0 43 := funext (fun i => F 43 i (by unfold fr_Thought_makeOffers; omega))
    unfold w_Thought_makeOffers_l31
    refine ⟨⟨by omega, by omega⟩, fun c => (fin (fun P => zki_16 P.1 (zki_run P.1 _ (hp P).1) (by omega))).2, fun hl => ?_⟩
    refine k_Thought_firstWithout I (fun v6 h6 f1 f2 => ⟨⟨by omega, by omega⟩, fun e => (fin (fun P => by rw [zrl_f (hp P).2 h6 f1 f2]; exact e)).2, fun ne => ⟨⟨by omega, by omega⟩, zk_rng I _ _, fun h4 => ?_, fun h4 => (fin (fun P => ?_)).1⟩⟩)
    · have r0 : 0 ≤ g 188 v6 := (I.1 188 v6).1
      intro g12 e12
      have I12 : zk_I g12 := by rw [e12]; exact zk_upd (L := 0) (H := 16) rfl rfl I ⟨by omega, by omega⟩
      have F12 : zk_fr fr_Thought_makeOffers g0 g12 := by rw [e12]; exact zk_fu F (Or.inr (Or.inr (Or.inr ⟨rfl, rfl⟩)))
      have a : ∀ i, g12 188 i = g 188 i := fun i => by rw [e12]; exact zi_u_ne (by decide)
      have a186 : g12 186 = g 186 := by rw [e12]; exact zi_u_row (by decide)
      have a187 : g12 187 = g 187 := by rw [e12]; exact zi_u_row (by decide)
      have a188 : g12 188 = g 188 := by rw [e12]; exact zi_u_row (by decide)
      have a42 : g12 42 = g0 42 := by rw [e12, zi_u_row (by decide)]; exact e42
      have a43 : g12 43 = g0 43 := by rw [e12, zi_u_row (by decide)]; exact e43
      refine ⟨⟨by rw [a]; omega, by rw [a]; omega⟩, ?_⟩
      refine k_Thought_offer I12 ⟨by omega, by omega⟩ (I12.1 42 _) (fun m m0 m1 => by rw [a]; have := hr m m0 m1; omega) (fun g15 I15 F15 h15 z15 => ?_)
      refine k_Thought_makeOffers_l31 hK n (l2 + 1) g15 (by omega) (by omega) I15 (zk_ft F12 F15 (fun a i h => h.elim Or.inl (fun h => Or.inr (h.elim Or.inl (fun h => Or.inr (Or.inl h)))))) ?_ (fun m m0 m1 => ?_) (fun P => ?_) (by omega)
      · rw [F15 _ _ (by unfold fr_Thought_offer; omega), e12, zi_u_eq]; omega
      · have := h15 m m0 m1
        rw [a] at this
        have := hr m m0 m1
        omega
      · have hp1 := hp P
        have fm := zrl_f hp1.2 h6 f1 f2
        rw [show (l2 + 1).toNat = l2.toNat + 1 by omega]
        refine ⟨fun j hj => ?_, ?_⟩
        · by_cases q : j = l2.toNat
          · rw [q, fm]; exact ne
          · exact hp1.1 j (by omega)
        · rw [a186, a187, a188, a42, a43] at z15
          exact zrl_st P.1 P.2 (zki_run P.1 _ hp1.1) hp1.2 fm ne z15
    · exfalso
      have hp1 := hp P
      have fm := zrl_f hp1.2 h6 f1 f2
      rcases zfm_all (zru (zrw (g0 42)) (zrw (g0 43)) l2.toNat).1 with q | q
      · exact ne (fm.symm.trans q.1)
      · obtain ⟨m0, fr, -⟩ := q
        rw [fm] at m0 fr
        have o3 := zki_3 P.1 (zki_run P.1 _ hp1.1) m0 fr
        have := ((hp1.2.2 v6 m0.1 m0.2).1 fr).2
        omega
theorem k_Thought_makeOffers {g : zi_M} {Q : Int → zi_M → Prop} (I : zk_I g) (hQ : ∀ g' : zi_M, zk_I g' → zk_fr fr_Thought_makeOffers g g' → (zkP g → ∃ k : Nat, g' 180 11 = (k : Int) ∧ zEnd (zrw (g 42)) (zrw (g 43)) k ∧ ∀ m : Int, 0 ≤ m → m ≤ 3 → (0 ≤ g' 186 m ∧ g' 186 m ≤ 3) ∧ (zru (zrw (g 42)) (zrw (g 43)) k).1 (g' 186 m) = m + 1) → Q 0 g') : w_Thought_makeOffers g Q := by
  unfold w_Thought_makeOffers
  intro g1 e1 g2 e2 g3 e3 g4 e4
  have I1 : zk_I g1 := by rw [e1]; exact zk_fill (L := -1) (H := 3) (fun _ => rfl) (fun _ => rfl) I ⟨by decide, by decide⟩
  have I2 : zk_I g2 := by rw [e2]; exact zk_fill (L := -1) (H := 3) (fun _ => rfl) (fun _ => rfl) I1 ⟨by decide, by decide⟩
  have I3 : zk_I g3 := by rw [e3]; exact zk_fill (L := 0) (H := 16) (fun _ => rfl) (fun _ => rfl) I2 ⟨by decide, by decide⟩
  have I4 : zk_I g4 := by rw [e4]; exact zk_upd (L := 0) (H := 16) rfl rfl I3 ⟨by decide, by decide⟩
  have F4 : zk_fr fr_Thought_makeOffers g g4 := by
    rw [e4, e3, e2, e1]
    exact zk_fu (zk_ff (zk_ff (zk_ff (zk_f0 _) (fun _ => Or.inl rfl)) (fun _ => Or.inr (Or.inl rfl))) (fun _ => Or.inr (Or.inr (Or.inl rfl)))) (Or.inr (Or.inr (Or.inr ⟨rfl, rfl⟩)))
  have fl : ∀ (h : zi_M) (a : Nat) (v m : Int), 0 ≤ m → m ≤ 3 → zi_fl h a 4 v a m = v := fun h a v m m0 m1 => by
    unfold zi_fl
    rw [if_pos ⟨rfl, m0, by omega⟩]
  have fn : ∀ (h : zi_M) (a b : Nat) (v m : Int), a ≠ b → zi_fl h b 4 v a m = h a m := fun h a b v m ne => by
    unfold zi_fl
    rw [if_neg (fun q => ne q.1)]
  have c188 : ∀ m : Int, 0 ≤ m → m ≤ 3 → g4 188 m = 0 := fun m m0 m1 => by rw [e4, zi_u_ne (by decide), e3, fl _ _ _ _ m0 m1]
  have c187 : ∀ m : Int, 0 ≤ m → m ≤ 3 → g4 187 m = -1 := fun m m0 m1 => by rw [e4, zi_u_ne (by decide), e3, fn _ _ _ _ _ (by decide), e2, fl _ _ _ _ m0 m1]
  have c186 : ∀ m : Int, 0 ≤ m → m ≤ 3 → g4 186 m = -1 := fun m m0 m1 => by rw [e4, zi_u_ne (by decide), e3, fn _ _ _ _ _ (by decide), e2, fn _ _ _ _ _ (by decide), e1, fl _ _ _ _ m0 m1]
  exact ⟨17, k_Thought_makeOffers_l31 (g0 := g) (fun g' I' F' h => ⟨hQ g' I' F' h, hQ g' I' F' h⟩) 17 0 g4 (by decide) (by decide) I4 F4 (by rw [e4, zi_u_eq]) (fun m m0 m1 => by rw [c188 m m0 m1]; decide) (fun _ => ⟨fun j hj => by exfalso; have : (0 : Int).toNat = 0 := rfl; omega, zrl_0 c186 c187 c188⟩) (by decide)⟩

