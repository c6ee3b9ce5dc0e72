-- by program (wip/gen/mkz.py)
-- SpoutNews.isRow(I)Z
theorem k_S_isRow_a {l0 : Int} {g : zi_M} {Q : Int → zi_M → Prop} (p0 : (-2147483648) ≤ l0 ∧ l0 ≤ 2147483647) {r1 r2 r3 r4 d0 d1 d2 d3 : Int} (e0 : Int.tdiv l0 10 = r1) (f0 : Int.tmod l0 10 = d0) (e1 : Int.tdiv r1 10 = r2) (f1 : Int.tmod r1 10 = d1) (e2 : Int.tdiv r2 10 = r3) (f2 : Int.tmod r2 10 = d2) (e3 : Int.tdiv r3 10 = r4) (f3 : Int.tmod r3 10 = d3)
    (b1 : zi_r r1) (b2 : zi_r r2) (b3 : zi_r r3) (b4 : zi_r r4) (c0 : zi_r d0) (c1 : zi_r d1) (c2 : zi_r d2) (c3 : zi_r d3)
    (bad0 : d0 < 0 ∨ 4 ≤ d0 → Q 0 g) (bad1 : d1 < 0 ∨ 4 ≤ d1 → Q 0 g) (bad2 : d2 < 0 ∨ 4 ≤ d2 → Q 0 g) (bad3 : d3 < 0 ∨ 4 ≤ d3 → Q 0 g) (fin : 0 ≤ d0 → 0 ≤ d1 → 0 ≤ d2 → 0 ≤ d3 → d0 < 4 → d1 < 4 → d2 < 4 → d3 < 4 → (¬ r4 = 0 → Q 0 g) ∧ (r4 = 0 → (¬ zbits d0 d1 d2 d3 = 15 → Q 0 g) ∧ (zbits d0 d1 d2 d3 = 15 → Q 1 g))) : w_S_isRow l0 g Q := by
  unfold w_S_isRow
  refine ⟨5, ?_⟩
  unfold w_S_isRow_l6
  rw [e0, f0]
  refine ⟨⟨by decide, by decide⟩, fun q => absurd q (by decide), fun _ => ⟨p0, c0, fun q => bad0 (Or.inl q), fun g0 => ⟨fun u0 => ?_, fun q => bad0 (Or.inr q)⟩⟩⟩
  unfold w_S_isRow_l6
  rw [e1, f1]
  refine ⟨⟨by decide, by decide⟩, fun q => absurd q (by decide), fun _ => ⟨b1, c1, fun q => bad1 (Or.inl q), fun g1 => ⟨fun u1 => ?_, fun q => bad1 (Or.inr q)⟩⟩⟩
  unfold w_S_isRow_l6
  rw [e2, f2]
  refine ⟨⟨by decide, by decide⟩, fun q => absurd q (by decide), fun _ => ⟨b2, c2, fun q => bad2 (Or.inl q), fun g2 => ⟨fun u2 => ?_, fun q => bad2 (Or.inr q)⟩⟩⟩
  unfold w_S_isRow_l6
  rw [e3, f3]
  refine ⟨⟨by decide, by decide⟩, fun q => absurd q (by decide), fun _ => ⟨b3, c3, fun q => bad3 (Or.inl q), fun g3 => ⟨fun u3 => ?_, fun q => bad3 (Or.inr q)⟩⟩⟩
  unfold w_S_isRow_l6
  have ff := fin g0 g1 g2 g3 u0 u1 u2 u3
  exact ⟨⟨by decide, by decide⟩, fun _ => ⟨b4, ff.1, fun z => ⟨zi_r_or _ _, (ff.2 z).1, (ff.2 z).2⟩⟩, fun q => absurd q (by decide)⟩
theorem k_S_isRow {l0 : Int} {g : zi_M} {Q : Int → zi_M → Prop} (I : zk_I g) (p0 : (-2147483648) ≤ l0 ∧ l0 ≤ 2147483647) (hQ : ∀ v : Int, (0 ≤ v ∧ v ≤ 1) → ((zrow l0 → v = 1) ∧ (¬ zrow l0 → v = 0)) → Q v g) : w_S_isRow l0 g Q := by
  have bad : ¬ zrow l0 → Q 0 g := fun n => hQ 0 ⟨by decide, by decide⟩ ⟨fun q => absurd q n, fun _ => rfl⟩
  have good : zrow l0 → Q 1 g := fun q => hQ 1 ⟨by decide, by decide⟩ ⟨fun _ => rfl, fun n => absurd q n⟩
  obtain ⟨r1, d0, e0, f0, g0, h0, k0⟩ := zi_tdv l0
  obtain ⟨r2, d1, e1, f1, g1, h1, k1⟩ := zi_tdv r1
  obtain ⟨r3, d2, e2, f2, g2, h2, k2⟩ := zi_tdv r2
  obtain ⟨r4, d3, e3, f3, g3, h3, k3⟩ := zi_tdv r3
  by_cases hn : 0 ≤ l0
  · have a0 := h0 hn
    have a1 := h1 a0.2.2
    have a2 := h2 a1.2.2
    have a3 := h3 a2.2.2
    clear h0 k0 h1 k1 h2 k2 h3 k3
    have x0 : l0 % 10 = d0 := by omega
    have x1 : l0 / 10 % 10 = d1 := by omega
    have x2 : l0 / 100 % 10 = d2 := by omega
    have x3 : l0 / 1000 = 10 * r4 + d3 := by omega
    have zr : zrow l0 → d0 ≤ 3 ∧ d1 ≤ 3 ∧ d2 ≤ 3 ∧ 10 * r4 + d3 ≤ 3 := by
      intro h
      obtain ⟨_, h2⟩ := h
      unfold zj_row at h2
      rw [x0, x1, x2, x3] at h2
      exact ⟨h2.2.2.2.1.2, h2.2.2.1.2, h2.2.1.2, h2.1.2⟩
    refine k_S_isRow_a p0 e0 f0 e1 f1 e2 f2 e3 f3 ⟨by omega, by omega⟩ ⟨by omega, by omega⟩ ⟨by omega, by omega⟩ ⟨by omega, by omega⟩ ⟨by omega, by omega⟩ ⟨by omega, by omega⟩ ⟨by omega, by omega⟩ ⟨by omega, by omega⟩ (fun q => bad (fun z => by have := zr z; omega)) (fun q => bad (fun z => by have := zr z; omega)) (fun q => bad (fun z => by have := zr z; omega)) (fun q => bad (fun z => by have := zr z; omega)) ?_
    intro m0 m1 m2 m3 u0 u1 u2 u3
    have hb := zbits_i (a := d0) (b := d1) (c := d2) (d := d3) ⟨m0, by omega⟩ ⟨m1, by omega⟩ ⟨m2, by omega⟩ ⟨m3, by omega⟩
    refine ⟨fun n => bad (fun z => by have := zr z; omega), fun z0 => ⟨fun n => bad (fun z => n ?_), fun e => good ?_⟩⟩
    · obtain ⟨_, hz⟩ := z
      unfold zj_row at hz
      rw [x0, x1, x2, x3, z0] at hz
      obtain ⟨_, _, _, _, y1, y2, y3, y4, y5, y6⟩ := hz
      exact hb.2 ⟨fun q => y6 q.symm, fun q => y5 q.symm, fun q => y3 (by omega), fun q => y4 q.symm, fun q => y2 (by omega), fun q => y1 (by omega)⟩
    · obtain ⟨y1, y2, y3, y4, y5, y6⟩ := hb.1 e
      refine ⟨⟨hn, by omega⟩, ?_⟩
      unfold zj_row
      rw [x0, x1, x2, x3, z0]
      exact ⟨⟨by omega, by omega⟩, ⟨m2, by omega⟩, ⟨m1, by omega⟩, ⟨m0, by omega⟩, fun q => y6 (by omega), fun q => y5 (by omega), fun q => y3 (by omega), fun q => y4 q.symm, fun q => y2 q.symm, fun q => y1 q.symm⟩
  · have nz : ¬ zrow l0 := fun z => hn z.1.1
    have b := bad nz
    have a0 := k0 (by omega)
    have s1 : r1 ≤ 0 ∧ -9 ≤ d1 ∧ d1 ≤ 9 ∧ r2 ≤ 0 ∧ (0 ≤ d1 → d1 = 0 ∨ r1 = 0) := by
      by_cases q : 0 ≤ r1
      · have := h1 q; omega
      · have := k1 (by omega); omega
    have s2 : -9 ≤ d2 ∧ d2 ≤ 9 ∧ r3 ≤ 0 := by
      by_cases q : 0 ≤ r2
      · have := h2 q; omega
      · have := k2 (by omega); omega
    have s3 : -9 ≤ d3 ∧ d3 ≤ 9 ∧ r4 ≤ 0 := by
      by_cases q : 0 ≤ r3
      · have := h3 q; omega
      · have := k3 (by omega); omega
    refine k_S_isRow_a p0 e0 f0 e1 f1 e2 f2 e3 f3 ⟨by omega, by omega⟩ ⟨by omega, by omega⟩ ⟨by omega, by omega⟩ ⟨by omega, by omega⟩ ⟨by omega, by omega⟩ ⟨by omega, by omega⟩ ⟨by omega, by omega⟩ ⟨by omega, by omega⟩ (fun _ => b) (fun _ => b) (fun _ => b) (fun _ => b) ?_
    intro m0 m1 m2 m3 u0 u1 u2 u3
    refine ⟨fun _ => b, fun z0 => ⟨fun _ => b, fun _ => ?_⟩⟩
    exfalso
    clear b bad good hQ h0 k0 e0 f0 e1 f1 e2 f2 e3 f3
    have w3 : r3 = 0 := by
      by_cases q : 0 ≤ r3
      · omega
      · have := k3 (by omega); omega
    have w2 : r2 = 0 := by
      by_cases q : 0 ≤ r2
      · omega
      · have := k2 (by omega); omega
    have w1 : r1 = 0 := by
      by_cases q : 0 ≤ r1
      · omega
      · have := k1 (by omega); omega
    omega

-- SpoutNews.mason(IZI)Z
-- KEEPS: offers go out
noncomputable def zpl (r : Int → Int) (m : Int) : Int := if r 0 = m then 0 else if r 1 = m then 1 else if r 2 = m then 2 else if r 3 = m then 3 else 4
noncomputable def zpm (r : Int → Int) : Prop := zj_row (r 0) (r 1) (r 2) (r 3)
theorem zpl_in {r : Int → Int} {m : Int} (h : zpm r) (hm : 0 ≤ m ∧ m ≤ 3) : (0 ≤ zpl r m ∧ zpl r m ≤ 3) ∧ r (zpl r m) = m := by
  unfold zpm zj_row at h
  unfold zpl
  by_cases a : r 0 = m
  · rw [if_pos a]; exact ⟨by decide, a⟩
  · rw [if_neg a]
    by_cases b : r 1 = m
    · rw [if_pos b]; exact ⟨by decide, b⟩
    · rw [if_neg b]
      by_cases c : r 2 = m
      · rw [if_pos c]; exact ⟨by decide, c⟩
      · rw [if_neg c]
        have d : r 3 = m := by
          generalize r 0 = x at *
          generalize r 1 = y at *
          generalize r 2 = z at *
          generalize r 3 = w at *
          omega
        rw [if_pos d]; exact ⟨by decide, d⟩
theorem zpl_ne {r : Int → Int} {m n : Int} (h : zpm r) (hm : 0 ≤ m ∧ m ≤ 3) (hn : 0 ≤ n ∧ n ≤ 3) (ne : ¬ m = n) : ¬ zpl r m = zpl r n := fun e => by
  have h1 := (zpl_in h hm).2
  have h2 := (zpl_in h hn).2
  rw [e, h2] at h1
  exact ne h1.symm
theorem zpl_c {r t : Int → Int} {m : Int} (e : ∀ k : Int, 0 ≤ k → k ≤ 3 → r k = t k) : zpl r m = zpl t m := by
  unfold zpl
  rw [e 0 (by decide) (by decide), e 1 (by decide) (by decide), e 2 (by decide) (by decide), e 3 (by decide) (by decide)]
theorem zpm_r {r : Int → Int} (h : zpm r) {k : Int} (hk : 0 ≤ k ∧ k ≤ 3) : 0 ≤ r k ∧ r k ≤ 3 := by
  unfold zpm zj_row at h
  by_cases a : k = 0
  · rw [a]; omega
  · by_cases b : k = 1
    · rw [b]; omega
    · by_cases c : k = 2
      · rw [c]; omega
      · rw [show k = 3 by omega]; omega
theorem zpm_on {r : Int → Int} (h : zpm r) {s : Int} (hs : 0 ≤ s ∧ s ≤ 3) : ∃ k : Int, 0 ≤ k ∧ k ≤ 3 ∧ r k = s := ⟨zpl r s, (zpl_in h hs).1.1, (zpl_in h hs).1.2, (zpl_in h hs).2⟩
/-- a mason whom no stone has -/
noncomputable def zfr (K : Int → Int) (m : Int) : Prop := ∀ s : Int, 0 ≤ s → s ≤ 3 → ¬ K s = m + 1
theorem zfr_4 {K : Int → Int} {m : Int} : zfr K m ↔ (¬ K 0 = m + 1 ∧ ¬ K 1 = m + 1 ∧ ¬ K 2 = m + 1 ∧ ¬ K 3 = m + 1) := by
  constructor
  · intro h
    exact ⟨h 0 (by decide) (by decide), h 1 (by decide) (by decide), h 2 (by decide) (by decide), h 3 (by decide) (by decide)⟩
  · intro h s s0 s1
    by_cases a : s = 0
    · rw [a]; exact h.1
    · by_cases b : s = 1
      · rw [b]; exact h.2.1
      · by_cases c : s = 2
        · rw [c]; exact h.2.2.1
        · rw [show s = 3 by omega]; exact h.2.2.2
theorem zfr_no {K : Int → Int} {m : Int} (h : ¬ zfr K m) : ∃ s : Int, 0 ≤ s ∧ s ≤ 3 ∧ K s = m + 1 := by
  refine Classical.byContradiction (fun n => h (fun s s0 s1 e => n ⟨s, s0, s1, e⟩))
noncomputable def zfm (K : Int → Int) : Int :=
  if ¬ K 0 = 0 + 1 ∧ ¬ K 1 = 0 + 1 ∧ ¬ K 2 = 0 + 1 ∧ ¬ K 3 = 0 + 1 then 0 else
  if ¬ K 0 = 1 + 1 ∧ ¬ K 1 = 1 + 1 ∧ ¬ K 2 = 1 + 1 ∧ ¬ K 3 = 1 + 1 then 1 else
  if ¬ K 0 = 2 + 1 ∧ ¬ K 1 = 2 + 1 ∧ ¬ K 2 = 2 + 1 ∧ ¬ K 3 = 2 + 1 then 2 else
  if ¬ K 0 = 3 + 1 ∧ ¬ K 1 = 3 + 1 ∧ ¬ K 2 = 3 + 1 ∧ ¬ K 3 = 3 + 1 then 3 else -1
theorem zfm_all (K : Int → Int) : (zfm K = -1 ∧ ∀ m : Int, 0 ≤ m → m ≤ 3 → ¬ zfr K m) ∨ ((0 ≤ zfm K ∧ zfm K ≤ 3) ∧ zfr K (zfm K) ∧ ∀ j : Int, 0 ≤ j → j < zfm K → ¬ zfr K j) := by
  have e0 := zfr_4 (K := K) (m := 0)
  have e1 := zfr_4 (K := K) (m := 1)
  have e2 := zfr_4 (K := K) (m := 2)
  have e3 := zfr_4 (K := K) (m := 3)
  unfold zfm
  by_cases a : zfr K 0
  · rw [if_pos (e0.1 a)]
    exact Or.inr ⟨by decide, a, fun j h0 h1 => by exfalso; omega⟩
  · rw [if_neg (fun z => a (e0.2 z))]
    by_cases b : zfr K 1
    · rw [if_pos (e1.1 b)]
      exact Or.inr ⟨by decide, b, fun j h0 h1 => by rw [show j = 0 by omega]; exact a⟩
    · rw [if_neg (fun z => b (e1.2 z))]
      by_cases c : zfr K 2
      · rw [if_pos (e2.1 c)]
        refine Or.inr ⟨by decide, c, fun j h0 h1 => ?_⟩
        by_cases q : j = 0
        · rw [q]; exact a
        · rw [show j = 1 by omega]; exact b
      · rw [if_neg (fun z => c (e2.2 z))]
        by_cases d : zfr K 3
        · rw [if_pos (e3.1 d)]
          refine Or.inr ⟨by decide, d, fun j h0 h1 => ?_⟩
          by_cases q : j = 0
          · rw [q]; exact a
          · by_cases q1 : j = 1
            · rw [q1]; exact b
            · rw [show j = 2 by omega]; exact c
        · rw [if_neg (fun z => d (e3.2 z))]
          refine Or.inl ⟨rfl, fun m h0 h1 => ?_⟩
          by_cases q : m = 0
          · rw [q]; exact a
          · by_cases q1 : m = 1
            · rw [q1]; exact b
            · by_cases q2 : m = 2
              · rw [q2]; exact c
              · rw [show m = 3 by omega]; exact d
theorem zfm_is {K : Int → Int} {m : Int} (h0 : 0 ≤ m ∧ m ≤ 3) (h1 : zfr K m) (h2 : ∀ j : Int, 0 ≤ j → j < m → ¬ zfr K j) : zfm K = m := by
  rcases zfm_all K with h | h
  · exact absurd h1 (h.2 m h0.1 h0.2)
  · obtain ⟨a, b, c⟩ := h
    by_cases q : zfm K < m
    · exact absurd b (h2 _ a.1 q)
    · by_cases q2 : m < zfm K
      · exact absurd h1 (c m h0.1 q2)
      · omega
theorem zfm_no {K : Int → Int} (h : ∀ m : Int, 0 ≤ m → m ≤ 3 → ¬ zfr K m) : zfm K = -1 := by
  rcases zfm_all K with a | a
  · exact a.1
  · exact absurd a.2.1 (h _ a.1.1 a.1.2)
theorem zfm_c {K L : Int → Int} (e : ∀ s : Int, 0 ≤ s → s ≤ 3 → K s = L s) : zfm K = zfm L := by
  unfold zfm
  rw [e 0 (by decide) (by decide), e 1 (by decide) (by decide), e 2 (by decide) (by decide), e 3 (by decide) (by decide)]
-- one offer
noncomputable def zsK (D R : Int → Int → Int) (K O : Int → Int) : Int → Int := if K (D (zfm K) (O (zfm K))) = 0 ∨ zpl (R (D (zfm K) (O (zfm K)))) (zfm K) < zpl (R (D (zfm K) (O (zfm K)))) (K (D (zfm K) (O (zfm K))) - 1) then zup K (D (zfm K) (O (zfm K))) (zfm K + 1) else K
noncomputable def zsO (K O : Int → Int) : Int → Int := zup O (zfm K) (O (zfm K) + 1)
noncomputable def zru (D R : Int → Int → Int) : Nat → (Int → Int) × (Int → Int)
  | 0 => (fun _ => 0, fun _ => 0)
  | n + 1 => (zsK D R (zru D R n).1 (zru D R n).2, zsO (zru D R n).1 (zru D R n).2)
noncomputable def zgo (D R : Int → Int → Int) (k : Nat) : Prop := ∀ j : Nat, j < k → ¬ zfm (zru D R j).1 = -1
noncomputable def zEnd (D R : Int → Int → Int) (k : Nat) : Prop := zgo D R k ∧ zfm (zru D R k).1 = -1
theorem zEnd_u {D R : Int → Int → Int} {k j : Nat} (h1 : zEnd D R k) (h2 : zEnd D R j) : k = j := by
  rcases Nat.lt_trichotomy k j with q | q | q
  · exact absurd h1.2 (h2.1 k q)
  · exact q
  · exact absurd h2.2 (h1.1 j q)
noncomputable def zpD (D : Int → Int → Int) : Prop := ∀ m : Int, 0 ≤ m → m ≤ 3 → zpm (D m)
/-- what holds all the way -/
noncomputable def zki (D : Int → Int → Int) (K O : Int → Int) (n : Int) : Prop := (∀ s : Int, 0 ≤ s → s ≤ 3 → 0 ≤ K s ∧ K s ≤ 4) ∧ (∀ m : Int, 0 ≤ m → m ≤ 3 → 0 ≤ O m ∧ O m ≤ 4) ∧ O 0 + O 1 + O 2 + O 3 = n ∧ (∀ s t : Int, 0 ≤ s → s ≤ 3 → 0 ≤ t → t ≤ 3 → ¬ s = t → ¬ K s = 0 → ¬ K s = K t) ∧ (∀ m j : Int, 0 ≤ m → m ≤ 3 → 0 ≤ j → j < O m → ¬ K (D m j) = 0)
theorem zki_0 {D : Int → Int → Int} : zki D (fun _ => 0) (fun _ => 0) 0 := ⟨fun _ _ _ => ⟨Int.le_refl 0, (by decide : (0 : Int) ≤ 4)⟩, fun _ _ _ => ⟨Int.le_refl 0, (by decide : (0 : Int) ≤ 4)⟩, rfl, fun _ _ _ _ _ _ _ h => absurd rfl h, fun m j _ _ h0 h1 => by exfalso; dsimp only at h1; omega⟩
theorem zki_3 {D : Int → Int → Int} {K O : Int → Int} {n m : Int} (hD : zpD D) (h : zki D K O n) (hm : 0 ≤ m ∧ m ≤ 3) (fr : zfr K m) : O m ≤ 3 := by
  obtain ⟨kb, ob, -, hd, ho⟩ := h
  refine Classical.byContradiction (fun n4 => ?_)
  have all : ∀ s : Int, 0 ≤ s → s ≤ 3 → ¬ K s = 0 := by
    intro s s0 s1
    obtain ⟨k, k0, k1, kk⟩ := zpm_on (hD m hm.1 hm.2) ⟨s0, s1⟩
    have := ho m k hm.1 hm.2 k0 (by omega)
    rw [kk] at this
    exact this
  obtain ⟨i, j, hij, hj, e⟩ := zk_ph 3 (fun i => let v := K (i : Int); if v < m + 1 then v - 1 else v - 2) (by
    intro i hi
    have fi := fr i (by omega) (by omega)
    have ni := all i (by omega) (by omega)
    have ki := kb i (by omega) (by omega)
    simp only
    split <;> omega)
  have fi := fr i (by omega) (by omega)
  have fj := fr j (by omega) (by omega)
  have ni := all i (by omega) (by omega)
  have dij := hd i j (by omega) (by omega) (by omega) (by omega) (by omega) ni
  simp only at e
  split at e <;> split at e <;> omega
theorem zki_st {D R : Int → Int → Int} {K O : Int → Int} {n : Int} (hD : zpD D) (h : zki D K O n) (hm : ¬ zfm K = -1) : zki D (zsK D R K O) (zsO K O) (n + 1) := by
  rcases zfm_all K with q | q
  · exact absurd q.1 hm
  obtain ⟨m0, fr, -⟩ := q
  have o3 := zki_3 hD h m0 fr
  obtain ⟨kb, ob, sm, hd, ho⟩ := h
  unfold zsK zsO
  generalize zfm K = m at *
  have om := ob m m0.1 m0.2
  have sb := zpm_r (hD m m0.1 m0.2) (k := O m) ⟨om.1, o3⟩
  have u246 : zup O m (O m + 1) m = O m + 1 := zup_e
  have v246 : ∀ i : Int, ¬ i = m → zup O m (O m + 1) i = O i := fun i hi => zup_n hi
  have hO : ∀ i : Int, 0 ≤ i → i ≤ 3 → 0 ≤ zup O m (O m + 1) i ∧ zup O m (O m + 1) i ≤ 4 := fun i i0 i1 => by
    by_cases q : i = m
    · rw [q, u246]; omega
    · rw [v246 i q]; exact ob i i0 i1
  have hS : zup O m (O m + 1) 0 + zup O m (O m + 1) 1 + zup O m (O m + 1) 2 + zup O m (O m + 1) 3 = n + 1 := by
    by_cases q0 : m = 0
    · rw [q0] at u246 v246 ⊢; rw [u246, v246 1 (by decide), v246 2 (by decide), v246 3 (by decide)]; omega
    · by_cases q1 : m = 1
      · rw [q1] at u246 v246 ⊢; rw [u246, v246 0 (by decide), v246 2 (by decide), v246 3 (by decide)]; omega
      · by_cases q2 : m = 2
        · rw [q2] at u246 v246 ⊢; rw [u246, v246 0 (by decide), v246 1 (by decide), v246 3 (by decide)]; omega
        · have q3 : m = 3 := by omega
          rw [q3] at u246 v246 ⊢; rw [u246, v246 0 (by decide), v246 1 (by decide), v246 2 (by decide)]; omega
  have es : D m (O m) = D m (O m) := rfl
  generalize hs : D m (O m) = s at *
  split
  · refine ⟨fun t t0 t1 => ?_, hO, hS, fun a b a0 a1 b0 b1 ne nz => ?_, fun m' j h1 h2 h3 h4 => ?_⟩
    · by_cases q : t = s
      · rw [q, zup_e]; omega
      · rw [zup_n q]; exact kb t t0 t1
    · by_cases q : a = s
      · rw [q, zup_e, zup_n (fun e => ne (q.trans e.symm))]
        exact fun e => fr b b0 b1 e.symm
      · rw [zup_n q] at nz ⊢
        by_cases q2 : b = s
        · rw [q2, zup_e]; exact fr a a0 a1
        · rw [zup_n q2]; exact hd a b a0 a1 b0 b1 ne nz
    · by_cases q : D m' j = s
      · rw [q, zup_e]; omega
      · rw [zup_n q]
        refine ho m' j h1 h2 h3 ?_
        by_cases qm : m' = m
        · rw [qm, u246] at h4
          by_cases qj : j = O m
          · exfalso; apply q; rw [qm, qj]; exact hs
          · rw [qm]; omega
        · rw [v246 m' qm] at h4; exact h4
  · rename_i nc
    have nz : ¬ K s = 0 := fun z => nc (Or.inl z)
    refine ⟨kb, hO, hS, hd, fun m' j h1 h2 h3 h4 => ?_⟩
    by_cases qm : m' = m
    · rw [qm, u246] at h4
      by_cases qj : j = O m
      · rw [qm, qj, hs]; exact nz
      · rw [qm]; exact ho m j m0.1 m0.2 h3 (by omega)
    · rw [v246 m' qm] at h4; exact ho m' j h1 h2 h3 h4
theorem zki_run {D R : Int → Int → Int} (hD : zpD D) : ∀ k : Nat, zgo D R k → zki D (zru D R k).1 (zru D R k).2 (k : Int)
  | 0, _ => zki_0
  | k + 1, h => by
    have ih := zki_run hD k (fun j hj => h j (by omega))
    exact zki_st hD ih (h k (by omega))
theorem zki_16 {D : Int → Int → Int} {K O : Int → Int} {n : Int} (hD : zpD D) (h : zki D K O n) (hn : 16 ≤ n) : zfm K = -1 := by
  rcases zfm_all K with q | q
  · exact q.1
  · exfalso
    obtain ⟨m0, fr, -⟩ := q
    have o3 := zki_3 hD h m0 fr
    obtain ⟨kb, ob, sm, hd, ho⟩ := h
    have a0 := ob 0 (by decide) (by decide)
    have a1 := ob 1 (by decide) (by decide)
    have a2 := ob 2 (by decide) (by decide)
    have a3 := ob 3 (by decide) (by decide)
    generalize zfm K = m at *
    by_cases q0 : m = 0
    · rw [q0] at o3; omega
    · by_cases q1 : m = 1
      · rw [q1] at o3; omega
      · by_cases q2 : m = 2
        · rw [q2] at o3; omega
        · rw [show m = 3 by omega] at o3; omega
/-- the run asks no more than rows -/
theorem zru_c {D R D' R' : Int → Int → Int} (hD : zpD D) (e : ∀ m j : Int, 0 ≤ m → m ≤ 3 → 0 ≤ j → j ≤ 3 → D m j = D' m j) (e2 : ∀ m j : Int, 0 ≤ m → m ≤ 3 → 0 ≤ j → j ≤ 3 → R m j = R' m j) : ∀ k : Nat, zgo D R k → zru D R k = zru D' R' k
  | 0, _ => rfl
  | k + 1, h => by
    have hg : zgo D R k := fun j hj => h j (by omega)
    have ih := zru_c hD e e2 k hg
    have hi := zki_run hD k hg
    have hn := h k (by omega)
    show (zsK D R (zru D R k).1 (zru D R k).2, zsO (zru D R k).1 (zru D R k).2) = (zsK D' R' (zru D' R' k).1 (zru D' R' k).2, zsO (zru D' R' k).1 (zru D' R' k).2)
    rw [← ih]
    generalize (zru D R k).1 = K at *
    generalize (zru D R k).2 = O at *
    rcases zfm_all K with q | q
    · exact absurd q.1 hn
    obtain ⟨m0, fr, -⟩ := q
    have o3 := zki_3 hD hi m0 fr
    have om := hi.2.1 _ m0.1 m0.2
    have sb := zpm_r (hD _ m0.1 m0.2) (k := O (zfm K)) ⟨om.1, o3⟩
    have es := e _ _ m0.1 m0.2 om.1 o3
    congr 1
    unfold zsK
    rw [← es]
    have er : ∀ x : Int, zpl (R (D (zfm K) (O (zfm K)))) x = zpl (R' (D (zfm K) (O (zfm K)))) x := fun x => zpl_c (fun j j0 j1 => e2 _ j sb.1 sb.2 j0 j1)
    rw [er, er]
theorem zEnd_c {D R D' R' : Int → Int → Int} (hD : zpD D) (e : ∀ m j : Int, 0 ≤ m → m ≤ 3 → 0 ≤ j → j ≤ 3 → D m j = D' m j) (e2 : ∀ m j : Int, 0 ≤ m → m ≤ 3 → 0 ≤ j → j ≤ 3 → R m j = R' m j) {k : Nat} (h : zEnd D R k) : zEnd D' R' k :=
  ⟨fun j hj => by rw [← zru_c hD e e2 j (fun i hi => h.1 i (by omega))]; exact h.1 j hj, by rw [← zru_c hD e e2 k h.1]; exact h.2⟩
theorem zno_st {f : Int → Int} {i x : Int} (h : ∀ j : Int, 0 ≤ j → j < i → ¬ f j = x) (hn : ¬ f i = x) : ∀ j : Int, 0 ≤ j → j < i + 1 → ¬ f j = x := fun j j0 j1 => by
  by_cases q : j = i
  · rw [q]; exact hn
  · exact h j j0 (by omega)
theorem zno_e {f : Int → Int} {i n x : Int} (h : ∀ j : Int, 0 ≤ j → j < i → ¬ f j = x) (hi : n < i) : ∀ j : Int, 0 ≤ j → j ≤ n → ¬ f j = x := fun j j0 j1 => h j j0 (by omega)
noncomputable def zrw (f : Int → Int) (a : Int) : Int → Int := fun i => f (a * 4 + i)
noncomputable def zrx (f : Int → Int) (a : Int) : Int → Int := fun k => f (4 * a + k) + k
noncomputable def zRx (f : Int → Int) (s : Int) : Int → Int := zrx f (4 + s)
theorem zpl_x {r : Int → Int} {m k : Int} (h : ∀ j : Int, 0 ≤ j → j < k → ¬ r j = m) (e : r k = m) (hk : 0 ≤ k ∧ k ≤ 3) : k = zpl r m := by
  unfold zpl
  by_cases a : k = 0
  · rw [a] at e; rw [if_pos e]; exact a
  · rw [if_neg (h 0 (by decide) (by omega))]
    by_cases b : k = 1
    · rw [b] at e; rw [if_pos e]; exact b
    · rw [if_neg (h 1 (by decide) (by omega))]
      by_cases c : k = 2
      · rw [c] at e; rw [if_pos e]; exact c
      · rw [if_neg (h 2 (by decide) (by omega))]
        have d : k = 3 := by omega
        rw [d] at e; rw [if_pos e]; exact d
theorem zpl_4 {r : Int → Int} {m k : Int} (h : ∀ j : Int, 0 ≤ j → j < k → ¬ r j = m) (hk : 4 ≤ k) : 4 = zpl r m := by
  unfold zpl
  rw [if_neg (h 0 (by decide) (by omega)), if_neg (h 1 (by decide) (by omega)), if_neg (h 2 (by decide) (by omega)), if_neg (h 3 (by decide) (by omega))]
theorem zpm_x {f : Int → Int} {i : Int} (h : zj_row (f (4 * i)) (f (4 * i + 1) + 1) (f (4 * i + 2) + 2) (f (4 * i + 3) + 3)) : zpm (zrx f i) := by
  unfold zpm zrx
  rw [Int.add_zero, Int.add_zero]
  exact h
theorem zpD_x {g : zi_M} (I : zk_I g) : zpD (zrx (g 244)) := fun m h0 h1 => zpm_x (I.2.rows m h0 (by omega))
theorem zpD_X {g : zi_M} (I : zk_I g) : zpD (zRx (g 244)) := fun m h0 h1 => zpm_x (I.2.rows (4 + m) (by omega) (by omega))
/-- what one offer of the class does: stones of masons (A), masons of stones (B), refusals (C) -/
noncomputable def zof (r A B C A' B' C' : Int → Int) (m s : Int) : Prop := (¬ B s = -1 ∧ zpl r (B s) < zpl r m → A' = A ∧ B' = B ∧ C' = zup C m (C m + 1)) ∧ (¬ (¬ B s = -1 ∧ zpl r (B s) < zpl r m) → B' = zup B s m ∧ (B s = -1 → A' = zup A m s ∧ C' = C) ∧ (¬ B s = -1 → A' = zup (zup A (B s) (-1)) m s ∧ C' = zup C (B s) (C (B s) + 1)))
noncomputable def zrl (K O A B C : Int → Int) : Prop := (∀ s : Int, 0 ≤ s → s ≤ 3 → B s + 1 = K s) ∧ (∀ m : Int, 0 ≤ m → m ≤ 3 → (zfr K m → A m = -1 ∧ C m = O m) ∧ (¬ zfr K m → (0 ≤ A m ∧ A m ≤ 3) ∧ K (A m) = m + 1 ∧ C m + 1 = O m))
theorem zrl_st {D R : Int → Int → Int} {K O A B C A' B' C' : Int → Int} {n m : Int} (hD : zpD D) (hR : zpD R) (I : zki D K O n) (h : zrl K O A B C) (em : zfm K = m) (hm : ¬ m = -1) (hp : zof (R (D m (C m))) A B C A' B' C' m (D m (C m))) : zrl (zsK D R K O) (zsO K O) A' B' C' := by
  rcases zfm_all K with q | q
  · exact absurd (em.symm.trans q.1) hm
  obtain ⟨m0, fr, -⟩ := q
  rw [em] at m0 fr
  have o3 := zki_3 hD I m0 fr
  have om := I.2.1 m m0.1 m0.2
  obtain ⟨b1, b2⟩ := h
  have fm := (b2 m m0.1 m0.2).1 fr
  have sb := zpm_r (hD m m0.1 m0.2) (k := O m) ⟨om.1, o3⟩
  unfold zsK zsO
  rw [em]
  rw [fm.2] at hp
  have hrs := hR (D m (O m)) sb.1 sb.2
  generalize R (D m (O m)) = r at *
  generalize D m (O m) = s at *
  have ks := b1 s sb.1 sb.2
  have kb := I.1 s sb.1 sb.2
  obtain ⟨kb', ob, sm, hd, ho⟩ := I
  have frs := fr s sb.1 sb.2
  by_cases rf : ¬ B s = -1 ∧ zpl r (B s) < zpl r m
  · obtain ⟨e1, e2, e3⟩ := hp.1 rf
    have nc : ¬ (K s = 0 ∨ zpl r m < zpl r (K s - 1)) := by
      rw [show K s - 1 = B s by omega]
      omega
    rw [if_neg nc, e1, e2, e3]
    refine ⟨b1, fun x x0 x1 => ?_⟩
    by_cases qx : x = m
    · rw [qx, zup_e, zup_e]
      exact ⟨fun _ => ⟨fm.1, by omega⟩, fun z => absurd fr z⟩
    · rw [zup_n qx, zup_n qx]
      exact b2 x x0 x1
  · obtain ⟨e2, e3, e4⟩ := hp.2 rf
    have yc : K s = 0 ∨ zpl r m < zpl r (K s - 1) := by
      by_cases z : B s = -1
      · exact Or.inl (by omega)
      · right
        rw [show K s - 1 = B s by omega]
        have := zpl_ne hrs m0 (n := B s) ⟨by omega, by omega⟩ (by omega)
        omega
    rw [if_pos yc, e2]
    refine ⟨fun t t0 t1 => ?_, fun x x0 x1 => ?_⟩
    · by_cases q : t = s
      · rw [q, zup_e, zup_e]
      · rw [zup_n q, zup_n q]; exact b1 t t0 t1
    · -- the others stay as they are
      have oth : ¬ x = m → ¬ K s = x + 1 → ((zfr (zup K s (m + 1)) x → A x = -1 ∧ C x = O x) ∧ (¬ zfr (zup K s (m + 1)) x → (0 ≤ A x ∧ A x ≤ 3) ∧ zup K s (m + 1) (A x) = x + 1 ∧ C x + 1 = O x)) := by
        intro nm ns
        have iff : zfr (zup K s (m + 1)) x ↔ zfr K x := by
          constructor
          · intro z t t0 t1
            by_cases q : t = s
            · rw [q]; exact ns
            · have := z t t0 t1
              rw [zup_n q] at this
              exact this
          · intro z t t0 t1
            by_cases q : t = s
            · rw [q, zup_e]; omega
            · rw [zup_n q]; exact z t t0 t1
        have bx := b2 x x0 x1
        refine ⟨fun z => bx.1 (iff.1 z), fun z => ?_⟩
        have w := bx.2 (fun y => z (iff.2 y))
        refine ⟨w.1, ?_, w.2.2⟩
        rw [zup_n (fun e => ns (by rw [← e]; exact w.2.1))]
        exact w.2.1
      have nfm : ¬ zfr (zup K s (m + 1)) m := fun z => z s sb.1 sb.2 zup_e
      by_cases z : B s = -1
      · obtain ⟨e5, e6⟩ := e3 z
        rw [e5, e6]
        by_cases qx : x = m
        · rw [qx, zup_e, zup_e]
          exact ⟨fun y => absurd y nfm, fun _ => ⟨sb, zup_e, by omega⟩⟩
        · rw [zup_n qx, zup_n qx]
          exact oth qx (by omega)
      · obtain ⟨e5, e6⟩ := e4 z
        have hb : 0 ≤ B s ∧ B s ≤ 3 := ⟨by omega, by omega⟩
        have bm : ¬ B s = m := by omega
        rw [e5, e6]
        by_cases qx : x = m
        · rw [qx, zup_e, zup_e, zup_n (fun e => bm e.symm)]
          exact ⟨fun y => absurd y nfm, fun _ => ⟨sb, zup_e, by omega⟩⟩
        · by_cases qh : x = B s
          · have nf : ¬ zfr K (B s) := fun y => y s sb.1 sb.2 ks.symm
            have w := (b2 (B s) hb.1 hb.2).2 nf
            have fh : zfr (zup K s (m + 1)) (B s) := by
              intro t t0 t1
              by_cases q : t = s
              · rw [q, zup_e]; omega
              · rw [zup_n q]
                have := hd s t sb.1 sb.2 t0 t1 (fun e => q e.symm) (by omega)
                omega
            rw [qh, zup_n bm, zup_e, zup_e, zup_n bm]
            exact ⟨fun _ => ⟨rfl, by omega⟩, fun y => absurd fh y⟩
          · rw [zup_n qx, zup_n qh, zup_n qh, zup_n qx]
            exact oth qx (by omega)
theorem zrl_0 {A B C : Int → Int} (hA : ∀ m : Int, 0 ≤ m → m ≤ 3 → A m = -1) (hB : ∀ m : Int, 0 ≤ m → m ≤ 3 → B m = -1) (hC : ∀ m : Int, 0 ≤ m → m ≤ 3 → C m = 0) : zrl (fun _ => 0) (fun _ => 0) A B C :=
  ⟨fun s s0 s1 => by rw [hB s s0 s1]; rfl, fun m m0 m1 => ⟨fun _ => ⟨hA m m0 m1, hC m m0 m1⟩, fun n => absurd (fun s _ _ => by show ¬ (0 : Int) = m + 1; omega) n⟩⟩
/-- the first without a stone -/
theorem zrl_f {K O A B C : Int → Int} {v : Int} (h : zrl K O A B C) (hv : -1 ≤ v ∧ v ≤ 3) (h1 : ¬ v = -1 → A v = -1 ∧ ∀ j : Int, 0 ≤ j → j < v → ¬ A j = -1) (h2 : v = -1 → ∀ j : Int, 0 ≤ j → j ≤ 3 → ¬ A j = -1) : zfm K = v := by
  by_cases q : v = -1
  · rw [q]
    exact zfm_no (fun m m0 m1 z => h2 q m m0 m1 ((h.2 m m0 m1).1 z).1)
  · have w := h1 q
    refine zfm_is ⟨by omega, hv.2⟩ ?_ (fun j j0 j1 z => w.2 j j0 j1 ((h.2 j j0 (by omega)).1 z).1)
    refine Classical.byContradiction (fun n => ?_)
    have := ((h.2 v (by omega) hv.2).2 n).1
    omega
noncomputable def zkP (g : zi_M) : Prop := zpD (zrw (g 42)) ∧ zpD (zrw (g 43))
theorem zKp_eq {g : zi_M} {l v w : Int} (I : zk_I g) (D1 : zRA 42 244 0 16 (fun k => k % 4) g) (D2 : zRA 43 244 16 16 (fun k => k % 4) g)
    (s1 : zkP g → l = -1 → ∃ k : Nat, v = (k : Int) ∧ zEnd (zrw (g 42)) (zrw (g 43)) k) (s2 : zkP g → 0 ≤ l → l ≤ 3 → ∃ k : Nat, zEnd (zrw (g 42)) (zrw (g 43)) k ∧ (0 ≤ v ∧ v ≤ 3) ∧ (zru (zrw (g 42)) (zrw (g 43)) k).1 v = l + 1) (s3 : l < -1 ∨ 3 < l → v = -1)
    (m1 : l = -1 → ∃ k : Nat, w = (k : Int) ∧ zEnd (zrx (g 244)) (zRx (g 244)) k) (m2 : 0 ≤ l → l ≤ 3 → ∃ k : Nat, zEnd (zrx (g 244)) (zRx (g 244)) k ∧ (0 ≤ w ∧ w ≤ 3) ∧ (zru (zrx (g 244)) (zRx (g 244)) k).1 w = l + 1) (m3 : l < -1 ∨ 3 < l → w = -1) : w = v := by
  have e1 : ∀ m j : Int, 0 ≤ m → m ≤ 3 → 0 ≤ j → j ≤ 3 → zrx (g 244) m j = zrw (g 42) m j := fun m j m0 m1 j0 j1 => by
    have h : g 42 (m * 4 + j) = g 244 (0 + (m * 4 + j)) + (m * 4 + j) % 4 := D1 (m * 4 + j) (by omega) (by omega)
    unfold zrx zrw
    rw [h, show (0 + (m * 4 + j) : Int) = 4 * m + j by omega]
    omega
  have e2 : ∀ m j : Int, 0 ≤ m → m ≤ 3 → 0 ≤ j → j ≤ 3 → zRx (g 244) m j = zrw (g 43) m j := fun m j m0 m1 j0 j1 => by
    have h : g 43 (m * 4 + j) = g 244 (16 + (m * 4 + j)) + (m * 4 + j) % 4 := D2 (m * 4 + j) (by omega) (by omega)
    unfold zRx zrx zrw
    rw [h, show (16 + (m * 4 + j) : Int) = 4 * (4 + m) + j by omega]
    omega
  have hD := zpD_x I
  have P : zkP g := by
    refine ⟨fun m h0 h1 => ?_, fun m h0 h1 => ?_⟩
    · have := hD m h0 h1
      unfold zpm at this ⊢
      rw [← e1 m 0 h0 h1 (by decide) (by decide), ← e1 m 1 h0 h1 (by decide) (by decide), ← e1 m 2 h0 h1 (by decide) (by decide), ← e1 m 3 h0 h1 (by decide) (by decide)]
      exact this
    · have := zpD_X I m h0 h1
      unfold zpm at this ⊢
      rw [← e2 m 0 h0 h1 (by decide) (by decide), ← e2 m 1 h0 h1 (by decide) (by decide), ← e2 m 2 h0 h1 (by decide) (by decide), ← e2 m 3 h0 h1 (by decide) (by decide)]
      exact this
  by_cases q : l = -1
  · obtain ⟨k, k1, k2⟩ := s1 P q
    obtain ⟨j, j1, j2⟩ := m1 q
    have := zEnd_u (zEnd_c hD e1 e2 j2) k2
    rw [k1, j1, this]
  · by_cases q2 : 0 ≤ l ∧ l ≤ 3
    · obtain ⟨k, k1, k2, k3⟩ := s2 P q2.1 q2.2
      obtain ⟨j, j1, j2, j3⟩ := m2 q2.1 q2.2
      have ek := zEnd_u (zEnd_c hD e1 e2 j1) k1
      rw [zru_c hD e1 e2 j j1.1, ek] at j3
      have inj := (zki_run P.1 k k1.1).2.2.2.1
      refine Classical.byContradiction (fun ne => ?_)
      exact inj w v j2.1 j2.2 k2.1 k2.2 ne (by omega) (by omega)
    · rw [s3 (by omega), m3 (by omega)]
-- rows of masons, as they are told
noncomputable def zdg (r j : Int) : Int := if j = 0 then r / 1000 else if j = 1 then r / 100 % 10 else if j = 2 then r / 10 % 10 else r % 10
theorem zdg_4 {r j x : Int} (hj : 0 ≤ j ∧ j ≤ 3) (h0 : j = 0 → x = r / 1000) (h1 : j = 1 → x = r / 100 % 10) (h2 : j = 2 → x = r / 10 % 10) (h3 : j = 3 → x = r % 10) : x = zdg r j := by
  unfold zdg
  by_cases a : j = 0
  · rw [if_pos a]; exact h0 a
  · rw [if_neg a]
    by_cases b : j = 1
    · rw [if_pos b]; exact h1 b
    · rw [if_neg b]
      by_cases c : j = 2
      · rw [if_pos c]; exact h2 c
      · rw [if_neg c]; exact h3 (by omega)
theorem zms4 {g g1 g2 g3 g4 : zi_M} {a : Nat} {b r x0 x1 x2 x3 : Int} (e1 : g1 = zi_u g a (b * 4) x0) (e2 : g2 = zi_u g1 a (b * 4 + 1) x1) (e3 : g3 = zi_u g2 a (b * 4 + 2) x2) (e4 : g4 = zi_u g3 a (b * 4 + 3) x3) (d0 : x0 = r / 1000) (d1 : x1 = r / 100 % 10) (d2 : x2 = r / 10 % 10) (d3 : x3 = r % 10) (k : Int) : (k / 4 = b → g4 a k = zdg r (k % 4)) ∧ (¬ k / 4 = b → g4 a k = g a k) := by
  refine ⟨fun q => zdg_4 ⟨by omega, by omega⟩ (fun j => ?_) (fun j => ?_) (fun j => ?_) (fun j => ?_), fun q => ?_⟩
  · rw [e4, zi_u_ni (by omega), e3, zi_u_ni (by omega), e2, zi_u_ni (by omega), e1, show k = b * 4 by omega, zi_u_eq]; exact d0
  · rw [e4, zi_u_ni (by omega), e3, zi_u_ni (by omega), e2, show k = b * 4 + 1 by omega, zi_u_eq]; exact d1
  · rw [e4, zi_u_ni (by omega), e3, show k = b * 4 + 2 by omega, zi_u_eq]; exact d2
  · rw [e4, show k = b * 4 + 3 by omega, zi_u_eq]; exact d3
  · rw [e4, zi_u_ni (by omega), e3, zi_u_ni (by omega), e2, zi_u_ni (by omega), e1, zi_u_ni (by omega)]
theorem zmm4 {f : Int → Int} {b r k : Int} (m0 : f (4 * b) = r / 1000) (m1 : f (4 * b + 1) + 1 = r / 100 % 10) (m2 : f (4 * b + 2) + 2 = r / 10 % 10) (m3 : f (4 * b + 3) + 3 = r % 10) (q : k / 4 = b) : f k = zdg r (k % 4) - k % 4 := by
  have h := zdg_4 (r := r) (j := k % 4) (x := f k + k % 4) ⟨by omega, by omega⟩ (fun j => by rw [j, show k = 4 * b by omega]; omega) (fun j => by rw [j, show k = 4 * b + 1 by omega]; omega) (fun j => by rw [j, show k = 4 * b + 2 by omega]; omega) (fun j => by rw [j, show k = 4 * b + 3 by omega]; omega)
  omega

theorem k_S_mason {l1 : Int} {l2 : Int} {l3 : Int} {g : zi_M} {Q : Int → zi_M → Prop} (I : zk_I g) (p1 : (-2147483648) ≤ l1 ∧ l1 ≤ 2147483647) (p2 : 0 ≤ l2 ∧ l2 ≤ 1) (p3 : (-2147483648) ≤ l3 ∧ l3 ≤ 2147483647) (hQ : ∀ (v : Int) (g' : zi_M), zk_I g' → zk_fr fr_S_mason g g' → (0 ≤ v ∧ v ≤ 1) → ((0 ≤ l1 ∧ l1 ≤ 3 ∧ zrow l3 → v = 1) ∧ (¬ (0 ≤ l1 ∧ l1 ≤ 3 ∧ zrow l3) → v = 0)) → (∀ k : Int, 0 ≤ k ∧ k < 16 → (¬ v = 0 ∧ l2 = 0 ∧ k / 4 = l1 → g' 42 k = zdg l3 (k % 4)) ∧ (¬ (¬ v = 0 ∧ l2 = 0 ∧ k / 4 = l1) → g' 42 k = g 42 k)) → (∀ k : Int, 0 ≤ k ∧ k < 16 → (¬ v = 0 ∧ ¬ l2 = 0 ∧ k / 4 = l1 → g' 43 k = zdg l3 (k % 4)) ∧ (¬ (¬ v = 0 ∧ ¬ l2 = 0 ∧ k / 4 = l1) → g' 43 k = g 43 k)) → Q v g') : w_S_mason l1 l2 l3 g Q := by
  have no : ¬ (0 ≤ l1 ∧ l1 ≤ 3 ∧ zrow l3) → Q 0 g := fun n => hQ 0 g I (zk_f0 _) ⟨by decide, by decide⟩ ⟨fun q => absurd q n, fun _ => rfl⟩ (fun k hk => ⟨fun q => absurd rfl q.1, fun _ => rfl⟩) (fun k hk => ⟨fun q => absurd rfl q.1, fun _ => rfl⟩)
  unfold w_S_mason
  refine ⟨p1, fun h => no (fun q => by omega), fun h0 => ⟨fun h => no (fun q => by omega), fun h4 => ?_⟩⟩
  refine k_S_isRow I p3 (fun v2 hv2 hz => ⟨fun n2 => ?_, fun e2 => no (fun q => by have := hz.1 q.2.2; omega)⟩)
  have z : zrow l3 := Classical.byContradiction (fun n => n2 (hz.2 n))
  have yes : ∀ g', zk_I g' → zk_fr fr_S_mason g g' → (∀ k : Int, (l2 = 0 ∧ k / 4 = l1 → g' 42 k = zdg l3 (k % 4)) ∧ (¬ (l2 = 0 ∧ k / 4 = l1) → g' 42 k = g 42 k)) → (∀ k : Int, (¬ l2 = 0 ∧ k / 4 = l1 → g' 43 k = zdg l3 (k % 4)) ∧ (¬ (¬ l2 = 0 ∧ k / 4 = l1) → g' 43 k = g 43 k)) → Q 1 g' := fun g' I' F' r1 r2 => hQ 1 g' I' F' ⟨by decide, by decide⟩ ⟨fun _ => rfl, fun n => absurd ⟨h0, by omega, z⟩ n⟩ (fun k hk => ⟨fun q => (r1 k).1 q.2, fun q => (r1 k).2 (fun w => q ⟨by decide, w⟩)⟩) (fun k hk => ⟨fun q => (r2 k).1 q.2, fun q => (r2 k).2 (fun w => q ⟨by decide, w⟩)⟩)
  obtain ⟨zb, zr⟩ := z
  unfold zj_row at zr
  have d1 : Int.tdiv l3 1000 = l3 / 1000 := Int.tdiv_eq_ediv_of_nonneg zb.1
  have d2 : Int.tdiv l3 100 = l3 / 100 := Int.tdiv_eq_ediv_of_nonneg zb.1
  have d3 : Int.tdiv l3 10 = l3 / 10 := Int.tdiv_eq_ediv_of_nonneg zb.1
  have m2 : Int.tmod (Int.tdiv l3 100) 10 = l3 / 100 % 10 := by rw [d2]; exact Int.tmod_eq_emod_of_nonneg (by omega)
  have m3 : Int.tmod (Int.tdiv l3 10) 10 = l3 / 10 % 10 := by rw [d3]; exact Int.tmod_eq_emod_of_nonneg (by omega)
  have m4 : Int.tmod l3 10 = l3 % 10 := Int.tmod_eq_emod_of_nonneg zb.1
  refine ⟨⟨by omega, by omega⟩, fun y0 => ⟨p3, ⟨by omega, by omega⟩, ?_⟩, fun n0 => ⟨p3, ⟨by omega, by omega⟩, ?_⟩⟩
  · intro g8 e8
    have I8 : zk_I g8 := by rw [e8]; exact zk_upd (L := 0) (H := 3) rfl rfl I ⟨by omega, by omega⟩
    refine ⟨⟨by omega, by omega⟩, ⟨by omega, by omega⟩, ?_⟩
    intro g11 e11
    have I11 : zk_I g11 := by rw [e11]; exact zk_upd (L := 0) (H := 3) rfl rfl I8 ⟨by omega, by omega⟩
    refine ⟨⟨by omega, by omega⟩, ⟨by omega, by omega⟩, ?_⟩
    intro g14 e14
    have I14 : zk_I g14 := by rw [e14]; exact zk_upd (L := 0) (H := 3) rfl rfl I11 ⟨by omega, by omega⟩
    refine ⟨⟨by omega, by omega⟩, ?_⟩
    intro g16 e16
    have I16 : zk_I g16 := by rw [e16]; exact zk_upd (L := 0) (H := 3) rfl rfl I14 ⟨by omega, by omega⟩
    have w := zms4 e8 e11 e14 e16 (r := l3) d1 m2 m3 m4
    refine yes g16 I16 ?_ (fun k => ⟨fun q => (w k).1 q.2, fun q => (w k).2 (fun z => q ⟨y0, z⟩)⟩) (fun k => ⟨fun q => absurd y0 q.1, fun _ => by rw [e16, zi_u_ne (by decide), e14, zi_u_ne (by decide), e11, zi_u_ne (by decide), e8, zi_u_ne (by decide)]⟩)
    rw [e16, e14, e11, e8]
    exact zk_fu (zk_fu (zk_fu (zk_fu (zk_f0 _) (Or.inl rfl)) (Or.inl rfl)) (Or.inl rfl)) (Or.inl rfl)
  · intro g8 e8
    have I8 : zk_I g8 := by rw [e8]; exact zk_upd (L := 0) (H := 3) rfl rfl I ⟨by omega, by omega⟩
    refine ⟨⟨by omega, by omega⟩, ⟨by omega, by omega⟩, ?_⟩
    intro g11 e11
    have I11 : zk_I g11 := by rw [e11]; exact zk_upd (L := 0) (H := 3) rfl rfl I8 ⟨by omega, by omega⟩
    refine ⟨⟨by omega, by omega⟩, ⟨by omega, by omega⟩, ?_⟩
    intro g14 e14
    have I14 : zk_I g14 := by rw [e14]; exact zk_upd (L := 0) (H := 3) rfl rfl I11 ⟨by omega, by omega⟩
    refine ⟨⟨by omega, by omega⟩, ?_⟩
    intro g16 e16
    have I16 : zk_I g16 := by rw [e16]; exact zk_upd (L := 0) (H := 3) rfl rfl I14 ⟨by omega, by omega⟩
    have w := zms4 e8 e11 e14 e16 (r := l3) d1 m2 m3 m4
    refine yes g16 I16 ?_ (fun k => ⟨fun q => absurd q.1 n0, fun _ => by rw [e16, zi_u_ne (by decide), e14, zi_u_ne (by decide), e11, zi_u_ne (by decide), e8, zi_u_ne (by decide)]⟩) (fun k => ⟨fun q => (w k).1 q.2, fun q => (w k).2 (fun z => q ⟨n0, z⟩)⟩)
    rw [e16, e14, e11, e8]
    exact zk_fu (zk_fu (zk_fu (zk_fu (zk_f0 _) (Or.inr rfl)) (Or.inr rfl)) (Or.inr rfl)) (Or.inr rfl)

-- SpoutNewsModel.digitOf(II)I
theorem zdg9 (x : Int) : -9 ≤ Int.tmod x 10 ∧ Int.tmod x 10 ≤ 9 := by
  have h := zi_tmod_f x 10
  by_cases q : 0 ≤ x
  · have := h.1 ⟨by decide, q⟩; omega
  · have := h.2 ⟨by decide, by omega⟩; omega
theorem zdgr {x : Int} (h : zi_r x) : zi_r (Int.tdiv x 10) := by
  have f := zi_tdiv_f x 10
  unfold zi_r at *
  by_cases q : 0 ≤ x
  · have := f.1 ⟨by decide, q⟩; omega
  · have := f.2 ⟨by decide, by omega⟩; omega
theorem zdgv {a : Int} (h : 0 ≤ a) : Int.tmod a 10 = a % 10 ∧ Int.tmod (Int.tdiv a 10) 10 = a / 10 % 10 ∧ Int.tmod (Int.tdiv (Int.tdiv a 10) 10) 10 = a / 100 % 10 ∧ Int.tmod (Int.tdiv (Int.tdiv (Int.tdiv a 10) 10) 10) 10 = a / 1000 % 10 := by
  have e1 : Int.tdiv a 10 = a / 10 := Int.tdiv_eq_ediv_of_nonneg h
  have n1 : 0 ≤ a / 10 := by omega
  have e2 : Int.tdiv (a / 10) 10 = a / 100 := by rw [Int.tdiv_eq_ediv_of_nonneg n1]; omega
  have n2 : 0 ≤ a / 100 := by omega
  have e3 : Int.tdiv (a / 100) 10 = a / 1000 := by rw [Int.tdiv_eq_ediv_of_nonneg n2]; omega
  have n3 : 0 ≤ a / 1000 := by omega
  rw [e1, e2, e3]
  exact ⟨Int.tmod_eq_emod_of_nonneg h, Int.tmod_eq_emod_of_nonneg n1, Int.tmod_eq_emod_of_nonneg n2, Int.tmod_eq_emod_of_nonneg n3⟩
theorem k_M_digitOf {l1 : Int} {l2 : Int} {g : zi_M} {Q : Int → zi_M → Prop} (I : zk_I g) (p1 : (-2147483648) ≤ l1 ∧ l1 ≤ 2147483647) (p2 : 0 ≤ l2 ∧ l2 ≤ 3) (hQ : ∀ v : Int, ((-9) ≤ v ∧ v ≤ 9) → (0 ≤ l1 → (l2 = 0 → v = l1 / 1000 % 10) ∧ (l2 = 1 → v = l1 / 100 % 10) ∧ (l2 = 2 → v = l1 / 10 % 10) ∧ (l2 = 3 → v = l1 % 10)) → Q v g) : w_M_digitOf l1 l2 g Q := by
  unfold w_M_digitOf
  refine ⟨4, ?_⟩
  unfold w_M_digitOf_l5
  refine ⟨⟨by decide, by decide⟩, ⟨by omega, by omega⟩, fun h3 => ⟨p1, hQ _ (zdg9 _) (fun h0 => ⟨fun q => by omega, fun q => by omega, fun q => by omega, fun _ => (zdgv h0).1⟩)⟩, fun h3 => ⟨p1, ?_⟩⟩
  unfold w_M_digitOf_l5
  refine ⟨⟨by decide, by decide⟩, ⟨by omega, by omega⟩, fun h2 => ⟨zdgr p1, hQ _ (zdg9 _) (fun h0 => ⟨fun q => by omega, fun q => by omega, fun _ => (zdgv h0).2.1, fun q => by omega⟩)⟩, fun h2 => ⟨zdgr p1, ?_⟩⟩
  unfold w_M_digitOf_l5
  refine ⟨⟨by decide, by decide⟩, ⟨by omega, by omega⟩, fun h1 => ⟨zdgr (zdgr p1), hQ _ (zdg9 _) (fun h0 => ⟨fun q => by omega, fun _ => (zdgv h0).2.2.1, fun q => by omega, fun q => by omega⟩)⟩, fun h1 => ⟨zdgr (zdgr p1), ?_⟩⟩
  unfold w_M_digitOf_l5
  exact ⟨⟨by decide, by decide⟩, ⟨by omega, by omega⟩, fun h1 => ⟨zdgr (zdgr (zdgr p1)), hQ _ (zdg9 _) (fun h0 => ⟨fun _ => (zdgv h0).2.2.2, fun q => by omega, fun q => by omega, fun q => by omega⟩)⟩, fun h1 => by omega⟩

-- SpoutNewsModel.isRow(I)Z
theorem k_M_isRow {l1 : Int} {g : zi_M} {Q : Int → zi_M → Prop} (I : zk_I g) (p1 : 0 ≤ l1 ∧ l1 ≤ 3210) (hQ : ∀ v : Int, (0 ≤ v ∧ v ≤ 1) → ((zrow l1 → v = 1) ∧ (¬ zrow l1 → v = 0)) → Q v g) : w_M_isRow l1 g Q := by
  unfold w_M_isRow
  refine ⟨5, ?_⟩
  unfold w_M_isRow_l4
  refine ⟨⟨by decide, by decide⟩, fun q => absurd q (by decide), fun _ => ?_⟩
  refine k_M_digitOf I ⟨by omega, by omega⟩ ⟨by decide, by decide⟩ (fun v0 r0 h0 => ?_)
  have a0 := (h0 p1.1).1 rfl
  unfold w_M_isRow_l4
  refine ⟨⟨by decide, by decide⟩, fun q => absurd q (by decide), fun _ => ?_⟩
  refine k_M_digitOf I ⟨by omega, by omega⟩ ⟨by decide, by decide⟩ (fun v1 r1 h1 => ?_)
  have a1 := (h1 p1.1).2.1 rfl
  unfold w_M_isRow_l4
  refine ⟨⟨by decide, by decide⟩, fun q => absurd q (by decide), fun _ => ?_⟩
  refine k_M_digitOf I ⟨by omega, by omega⟩ ⟨by decide, by decide⟩ (fun v2 r2 h2 => ?_)
  have a2 := (h2 p1.1).2.2.1 rfl
  unfold w_M_isRow_l4
  refine ⟨⟨by decide, by decide⟩, fun q => absurd q (by decide), fun _ => ?_⟩
  refine k_M_digitOf I ⟨by omega, by omega⟩ ⟨by decide, by decide⟩ (fun v3 r3 h3 => ?_)
  have a3 := (h3 p1.1).2.2.2 rfl
  unfold w_M_isRow_l4
  refine ⟨⟨by decide, by decide⟩, fun _ => ?_, fun q => absurd q (by decide)⟩
  have b0 : 0 ≤ v0 ∧ v0 ≤ 3 := by omega
  have b1 : 0 ≤ v1 ∧ v1 ≤ 9 := by omega
  have b2 : 0 ≤ v2 ∧ v2 ≤ 9 := by omega
  have b3 : 0 ≤ v3 ∧ v3 ≤ 9 := by omega
  refine k_M_isIn I ⟨by omega, by omega⟩ ⟨by decide, by decide⟩ ⟨by decide, by decide⟩ (fun v8 c1 c2 c3 => ⟨fun e => by omega, fun _ => ⟨zi_r_or _ _, fun n => ?_, fun e => ?_⟩⟩)
  · refine hQ 0 ⟨by decide, by decide⟩ ⟨fun z => absurd ?_ n, fun _ => rfl⟩
    have hz := z.2
    unfold zj_row at hz
    refine (zbits_i b0 ⟨by omega, by omega⟩ ⟨by omega, by omega⟩ ⟨by omega, by omega⟩).2 ⟨?_, ?_, ?_, ?_, ?_, ?_⟩ <;> omega
  · have hj := zbits_j b0 b1 b2 b3 e
    have hd := (zbits_i b0 ⟨by omega, by omega⟩ ⟨by omega, by omega⟩ ⟨by omega, by omega⟩).1 e
    have z : zrow l1 := by
      refine ⟨⟨by omega, by omega⟩, ?_⟩
      unfold zj_row
      refine ⟨⟨?_, ?_⟩, ⟨?_, ?_⟩, ⟨?_, ?_⟩, ⟨?_, ?_⟩, ?_, ?_, ?_, ?_, ?_, ?_⟩ <;> omega
    exact hQ 1 ⟨by decide, by decide⟩ ⟨fun _ => rfl, fun n => absurd z n⟩

-- SpoutNewsModel.mason(IZI)Z
theorem k_M_digitOf' {l1 : Int} {l2 : Int} {g : zi_M} {Q : Int → zi_M → Prop} (I : zk_b g) (p1 : (-2147483648) ≤ l1 ∧ l1 ≤ 2147483647) (p2 : 0 ≤ l2 ∧ l2 ≤ 3) (hQ : ∀ v : Int, ((-9) ≤ v ∧ v ≤ 9) → (0 ≤ l1 → (l2 = 0 → v = l1 / 1000 % 10) ∧ (l2 = 1 → v = l1 / 100 % 10) ∧ (l2 = 2 → v = l1 / 10 % 10) ∧ (l2 = 3 → v = l1 % 10)) → Q v g) : w_M_digitOf l1 l2 g Q := by
  unfold w_M_digitOf
  refine ⟨4, ?_⟩
  unfold w_M_digitOf_l5
  refine ⟨⟨by decide, by decide⟩, ⟨by omega, by omega⟩, fun h3 => ⟨p1, hQ _ (zdg9 _) (fun h0 => ⟨fun q => by omega, fun q => by omega, fun q => by omega, fun _ => (zdgv h0).1⟩)⟩, fun h3 => ⟨p1, ?_⟩⟩
  unfold w_M_digitOf_l5
  refine ⟨⟨by decide, by decide⟩, ⟨by omega, by omega⟩, fun h2 => ⟨zdgr p1, hQ _ (zdg9 _) (fun h0 => ⟨fun q => by omega, fun q => by omega, fun _ => (zdgv h0).2.1, fun q => by omega⟩)⟩, fun h2 => ⟨zdgr p1, ?_⟩⟩
  unfold w_M_digitOf_l5
  refine ⟨⟨by decide, by decide⟩, ⟨by omega, by omega⟩, fun h1 => ⟨zdgr (zdgr p1), hQ _ (zdg9 _) (fun h0 => ⟨fun q => by omega, fun _ => (zdgv h0).2.2.1, fun q => by omega, fun q => by omega⟩)⟩, fun h1 => ⟨zdgr (zdgr p1), ?_⟩⟩
  unfold w_M_digitOf_l5
  exact ⟨⟨by decide, by decide⟩, ⟨by omega, by omega⟩, fun h1 => ⟨zdgr (zdgr (zdgr p1)), hQ _ (zdg9 _) (fun h0 => ⟨fun _ => (zdgv h0).2.2.2, fun q => by omega, fun q => by omega, fun q => by omega⟩)⟩, fun h1 => by omega⟩
theorem k_M_mason_l40 {g0 : zi_M} {l1 l2 l3 : Int} {K : zi_M → Prop} {Q : Int → zi_M → Prop} (I0 : zk_I g0) (q1 : 0 ≤ l1 ∧ l1 ≤ 3) (q2 : 0 ≤ l2 ∧ l2 ≤ 1) (z : zrow l3) (qz : l3 ≤ 3210) {b : Int} (hb0 : l2 = 0 → b = l1) (hb1 : ¬ l2 = 0 → b = 4 + l1)
    (hK : ∀ g, zk_b g → (∀ a, a ≠ 244 → g a = g0 a) → (∀ i, ¬ (4 * b ≤ i ∧ i < 4 * b + 4) → g 244 i = g0 244 i) → g 244 (4 * b) = l3 / 1000 → g 244 (4 * b + 1) + 1 = l3 / 100 % 10 → g 244 (4 * b + 2) + 2 = l3 / 10 % 10 → g 244 (4 * b + 3) + 3 = l3 % 10 → K g) :
    ∀ (n : Nat) (l4 : Int) (g : zi_M), 0 ≤ l4 → l4 ≤ 4 → zk_b g → (∀ a, a ≠ 244 → g a = g0 a) → (∀ i, ¬ (4 * b ≤ i ∧ i < 4 * b + 4) → g 244 i = g0 244 i) → (1 ≤ l4 → g 244 (4 * b) = l3 / 1000) → (2 ≤ l4 → g 244 (4 * b + 1) + 1 = l3 / 100 % 10) → (3 ≤ l4 → g 244 (4 * b + 2) + 2 = l3 / 10 % 10) → (4 ≤ l4 → g 244 (4 * b + 3) + 3 = l3 % 10) → 4 - l4 < (n : Int) → w_M_mason_l40 l1 l2 l3 K Q n l4 g
  | 0, l4, g, h0, h1, B, F, R, c1, c2, c3, c4, hm => by exfalso; omega
  | n + 1, l4, g, h0, h1, B, F, R, c1, c2, c3, c4, hm => by
    have J : zj g0 := I0.2
    have zz := z.2
    have zb := z.1
    unfold zj_row at zz
    unfold w_M_mason_l40
    refine ⟨⟨by omega, by omega⟩, fun h => hK g B F R (c1 (by omega)) (c2 (by omega)) (c3 (by omega)) (c4 h), fun hl => ⟨⟨by omega, by omega⟩, ?_⟩⟩
    have go : ∀ (ix : Int), ix = 4 * b + l4 → w_M_digitOf l3 l4 g (fun v g14 => ((0 ≤ ix ∧ ix < 32) ∧ (∀ g17, g17 = zi_u g14 244 ix (v - l4) → w_M_mason_l40 l1 l2 l3 K Q n (l4 + 1) g17))) := by
      intro ix eix
      have hbb : 0 ≤ b ∧ b ≤ 7 := by omega
      refine k_M_digitOf' B ⟨by omega, by omega⟩ ⟨h0, by omega⟩ (fun v hv hd => ⟨⟨by omega, by omega⟩, ?_⟩)
      have hd := hd zb.1
      intro g17 e17
      have hv3 : 0 ≤ v ∧ v ≤ 3 := by omega
      refine k_M_mason_l40 I0 q1 q2 z qz hb0 hb1 hK n (l4 + 1) g17 (by omega) (by omega) ?_ (fun a ha => by rw [e17, zi_u_row ha]; exact F a ha) (fun i hi => by rw [e17, zi_u_ni (by omega)]; exact R i hi) ?_ ?_ ?_ ?_ (by omega)
      · rw [e17]
        have lm := zk_lm (i := ix) (by omega)
        exact zk_updb lm.1 lm.2 B ⟨by omega, by omega⟩
      · intro _
        by_cases e : l4 = 0
        · rw [e17, show (4 * b : Int) = ix by omega, zi_u_eq]; omega
        · rw [e17, zi_u_ni (by omega)]; exact c1 (by omega)
      · intro h
        by_cases e : l4 = 1
        · rw [e17, show (4 * b + 1 : Int) = ix by omega, zi_u_eq]; omega
        · rw [e17, zi_u_ni (by omega)]; exact c2 (by omega)
      · intro h
        by_cases e : l4 = 2
        · rw [e17, show (4 * b + 2 : Int) = ix by omega, zi_u_eq]; omega
        · rw [e17, zi_u_ni (by omega)]; exact c3 (by omega)
      · intro h
        rw [e17, show (4 * b + 3 : Int) = ix by omega, zi_u_eq]; omega
    refine ⟨fun e => go _ (by have := hb0 e; omega), fun n => go _ (by have := hb1 n; omega)⟩
theorem k_M_mason {l1 : Int} {l2 : Int} {l3 : Int} {g : zi_M} {Q : Int → zi_M → Prop} (I : zk_I g) (p1 : (-2147483648) ≤ l1 ∧ l1 ≤ 2147483647) (p2 : 0 ≤ l2 ∧ l2 ≤ 1) (p3 : (-2147483648) ≤ l3 ∧ l3 ≤ 2147483647) (hQ : ∀ (v : Int) (g' : zi_M), zk_I g' → zk_fr fr_M_mason g g' → (0 ≤ v ∧ v ≤ 1) → ((0 ≤ l1 ∧ l1 ≤ 3 ∧ zrow l3 → v = 1) ∧ (¬ (0 ≤ l1 ∧ l1 ≤ 3 ∧ zrow l3) → v = 0)) → (∀ k : Int, 0 ≤ k ∧ k < 16 → (¬ v = 0 ∧ l2 = 0 ∧ k / 4 = l1 → g' 244 k = zdg l3 (k % 4) - k % 4) ∧ (¬ (¬ v = 0 ∧ l2 = 0 ∧ k / 4 = l1) → g' 244 k = g 244 k)) → (∀ k : Int, 0 ≤ k ∧ k < 16 → (¬ v = 0 ∧ ¬ l2 = 0 ∧ k / 4 = l1 → g' 244 (16 + k) = zdg l3 (k % 4) - k % 4) ∧ (¬ (¬ v = 0 ∧ ¬ l2 = 0 ∧ k / 4 = l1) → g' 244 (16 + k) = g 244 (16 + k))) → Q v g') : w_M_mason l1 l2 l3 g Q := by
  unfold w_M_mason
  intro g1 e1
  have I1 : zk_I g1 := by rw [e1]; exact zk_upd (L := -2147483648) (H := 2147483647) rfl rfl I ⟨by decide, by decide⟩
  have F1 : zk_fr fr_M_mason g g1 := by rw [e1]; exact zk_fu (zk_f0 _) (Or.inr ⟨rfl, rfl⟩)
  have no : ¬ (0 ≤ l1 ∧ l1 ≤ 3 ∧ zrow l3) → Q 0 g1 := fun n => hQ 0 g1 I1 F1 ⟨by decide, by decide⟩ ⟨fun q => absurd q n, fun _ => rfl⟩ (fun k hk => ⟨fun q => absurd rfl q.1, fun _ => by rw [e1]; exact zi_u_ne (by decide)⟩) (fun k hk => ⟨fun q => absurd rfl q.1, fun _ => by rw [e1]; exact zi_u_ne (by decide)⟩)
  refine k_M_isIn I1 p1 ⟨by decide, by decide⟩ ⟨by decide, by decide⟩ (fun v2 a1 a2 a3 => ⟨fun e => no (fun q => by omega), fun n2 => ?_⟩)
  refine k_M_isIn I1 p3 ⟨by decide, by decide⟩ ⟨by decide, by decide⟩ (fun v5 b1 b2 b3 => ⟨fun e => no (fun q => ?_), fun n5 => ?_⟩)
  · have := zrow_le q.2.2
    have := q.2.2.1
    omega
  refine k_M_isRow I1 ⟨by omega, by omega⟩ (fun v8 hv8 hz => ⟨fun n8 => ?_, fun e8 => no (fun q => by have := hz.1 q.2.2; omega)⟩)
  have z : zrow l3 := Classical.byContradiction (fun n => n8 (hz.2 n))
  refine ⟨5, k_M_mason_l40 (g0 := g1) (b := if l2 = 0 then l1 else 4 + l1) I1 ⟨by omega, by omega⟩ p2 z (by omega) (fun e => if_pos e) (fun e => if_neg e) (fun g' B' F' R' m0 m1 m2 m3 => ?_) 5 0 g1 (by decide) (by decide) I1.1 (fun _ _ => rfl) (fun _ _ => rfl) (fun h => absurd h (by decide)) (fun h => absurd h (by decide)) (fun h => absurd h (by decide)) (fun h => absurd h (by decide)) (by decide)⟩
  have J' : zj g' := by
    obtain ⟨h1, h2, h3, h4, h5, h6⟩ := I1.2
    refine ⟨?_, ?_, ?_, ?_, ?_, ?_⟩
    · rw [F' 224 (by decide), F' 226 (by decide), F' 227 (by decide), F' 228 (by decide), F' 229 (by decide), F' 230 (by decide)]; exact h1
    · rw [F' 234 (by decide)]; exact h2
    · intro i i0 i1
      by_cases e : i = (if l2 = 0 then l1 else 4 + l1)
      · rw [e, m0, m1, m2, m3]
        exact z.2
      · rw [R' _ (by omega), R' _ (by omega), R' _ (by omega), R' _ (by omega)]
        exact h3 i i0 i1
    · rw [F' 250 (by decide)]; exact h4
    · rw [F' 250 (by decide)]; exact h5
    · rw [F' 250 (by decide)]; exact h6
  refine hQ 1 g' ⟨B', J'⟩ (fun a i ha => ?_) ⟨by decide, by decide⟩ ⟨fun _ => rfl, fun n => absurd ⟨by omega, by omega, z⟩ n⟩ (fun k hk => ⟨fun q => ?_, fun q => ?_⟩) (fun k hk => ⟨fun q => ?_, fun q => ?_⟩)
  · rw [F' a (fun e => ha (Or.inl e))]
    exact F1 a i ha
  · rw [if_pos q.2.1] at m0 m1 m2 m3
    exact zmm4 (f := g' 244) m0 m1 m2 m3 q.2.2
  · rw [show g 244 k = g1 244 k by rw [e1]; exact (zi_u_ne (by decide)).symm]
    refine R' k (fun w => ?_)
    by_cases c : l2 = 0
    · rw [if_pos c] at w
      exact q ⟨by decide, c, by omega⟩
    · rw [if_neg c] at w
      omega
  · rw [if_neg q.2.1] at m0 m1 m2 m3
    have h := zmm4 (f := g' 244) (k := 16 + k) m0 m1 m2 m3 (by have := q.2.2; omega)
    rw [show (16 + k) % 4 = k % 4 by omega] at h
    exact h
  · rw [show g 244 (16 + k) = g1 244 (16 + k) by rw [e1]; exact (zi_u_ne (by decide)).symm]
    refine R' (16 + k) (fun w => ?_)
    by_cases c : l2 = 0
    · rw [if_pos c] at w
      omega
    · rw [if_neg c] at w
      exact q ⟨by decide, c, by omega⟩

-- SpoutNews$Thought.firstWithout()I
set_option maxRecDepth 100000 in
set_option maxHeartbeats 4000000 in
theorem k_Thought_firstWithout_l2 {g : zi_M} (I : zk_I g) {K17 : Int → zi_M → Prop} {K25 : zi_M → Prop} {Q : Int → zi_M → Prop} (hK17 : ∀ (k1 : Int), (0 ≤ k1 ∧ k1 ≤ 3) → (g 186 k1 = -1) → (∀ j : Int, 0 ≤ j → j < k1 → ¬ g 186 j = -1) → K17 k1 g) (hK25 : (∀ j : Int, 0 ≤ j → j ≤ 3 → ¬ g 186 j = -1) → K25 g) (hQ : ∀ v : Int, ((-1) ≤ v ∧ v ≤ 3) → (¬ v = -1 → g 186 v = -1 ∧ ∀ j : Int, 0 ≤ j → j < v → ¬ g 186 j = -1) → (v = -1 → ∀ j : Int, 0 ≤ j → j ≤ 3 → ¬ g 186 j = -1) → Q v g) : ∀ (n : Nat) {l1 : Int}, (0 ≤ l1 ∧ l1 ≤ 4) → (∀ j : Int, 0 ≤ j → j < l1 → ¬ g 186 j = -1) → 4 - l1 < (n : Int) → w_Thought_firstWithout_l2 K17 K25 Q n l1 g
  | 0, l1, b0, b1, hm => by exfalso; omega
  | n + 1, l1, b0, b1, hm => by
    unfold w_Thought_firstWithout_l2
    refine ⟨⟨by omega, by omega⟩, ?_⟩
    refine ⟨fun c5 => ?_, fun c5 => ?_⟩
    · exact hK25 (by exact zno_e b1 (by omega))
    · refine ⟨⟨by omega, by omega⟩, ?_⟩
      have m_1 : (-1) ≤ (g 186 l1) ∧ (g 186 l1) ≤ 3 := I.1 186 l1
      refine ⟨⟨by omega, by omega⟩, ?_⟩
      refine ⟨fun c4 => ?_, fun c4 => ?_⟩
      · exact k_Thought_firstWithout_l2 I hK17 hK25 hQ n ⟨by omega, by omega⟩ (by first | exact zno_st b1 (by assumption) | (intro j h0 h1; exfalso; omega)) (by omega)
      · exact hK17 _ ⟨by omega, by omega⟩ (by assumption) (by exact b1)
set_option maxRecDepth 100000 in
set_option maxHeartbeats 4000000 in
theorem k_Thought_firstWithout {g : zi_M} {Q : Int → zi_M → Prop} (I : zk_I g) (hQ : ∀ v : Int, ((-1) ≤ v ∧ v ≤ 3) → (¬ v = -1 → g 186 v = -1 ∧ ∀ j : Int, 0 ≤ j → j < v → ¬ g 186 j = -1) → (v = -1 → ∀ j : Int, 0 ≤ j → j ≤ 3 → ¬ g 186 j = -1) → Q v g) : w_Thought_firstWithout g Q := by
  unfold w_Thought_firstWithout
  refine ⟨((4 - 0 : Int).toNat + 1), k_Thought_firstWithout_l2 I (fun k6 b_2 b_3 b_4 => ?_) (fun b_5 => ?_) hQ ((4 - 0 : Int).toNat + 1) ⟨by omega, by omega⟩ (by first | exact zno_st b1 (by assumption) | (intro j h0 h1; exfalso; omega)) (by omega)⟩
  · exact hQ _ ⟨by omega, by omega⟩ (by intro hv; first | (exfalso; omega) | exact ⟨by assumption, by assumption⟩) (by intro hv; first | assumption | (exfalso; omega))
  · exact hQ _ ⟨by omega, by omega⟩ (by intro hv; first | (exfalso; omega) | exact ⟨by assumption, by assumption⟩) (by intro hv; first | assumption | (exfalso; omega))
-- SpoutNews$Thought.dearness(LSpoutNews$Told;II)I
set_option maxRecDepth 100000 in
set_option maxHeartbeats 4000000 in
theorem k_Thought_dearness_l2 {g : zi_M} (I : zk_I g) {l1 : Int} {l2 : Int} {K21 : Int → zi_M → Prop} {K29 : zi_M → Prop} {Q : Int → zi_M → Prop} (q1 : 0 ≤ l1 ∧ l1 ≤ 3) (q2 : 0 ≤ l2 ∧ l2 ≤ 3) (hK21 : ∀ (k3 : Int), (0 ≤ k3 ∧ k3 ≤ 3) → (k3 = zpl (zrw (g 43) l1) l2) → K21 k3 g) (hK29 : (4 = zpl (zrw (g 43) l1) l2) → K29 g) (hQ : ∀ v : Int, (0 ≤ v ∧ v ≤ 4) → (v = zpl (zrw (g 43) l1) l2) → Q v g) : ∀ (n : Nat) {l3 : Int}, (0 ≤ l3 ∧ l3 ≤ 4) → (∀ j : Int, 0 ≤ j → j < l3 → ¬ zrw (g 43) l1 j = l2) → 4 - l3 < (n : Int) → w_Thought_dearness_l2 l1 l2 K21 K29 Q n l3 g
  | 0, l3, b0, b1, hm => by exfalso; omega
  | n + 1, l3, b0, b1, hm => by
    unfold w_Thought_dearness_l2
    refine ⟨⟨by omega, by omega⟩, ?_⟩
    refine ⟨fun c6 => ?_, fun c6 => ?_⟩
    · exact hK29 (by exact zpl_4 b1 (by omega))
    · refine ⟨⟨by omega, by omega⟩, ?_⟩
      have m_1 : 0 ≤ (g 43 ((l1 * 4) + l3)) ∧ (g 43 ((l1 * 4) + l3)) ≤ 3 := I.1 43 ((l1 * 4) + l3)
      refine ⟨⟨by omega, by omega⟩, ⟨by omega, by omega⟩, ?_⟩
      refine ⟨fun c5 => ?_, fun c5 => ?_⟩
      · exact k_Thought_dearness_l2 I q1 q2 hK21 hK29 hQ n ⟨by omega, by omega⟩ (by first | exact zno_st b1 (show ¬ g 43 (l1 * 4 + l3) = l2 by assumption) | (intro j h0 h1; exfalso; omega)) (by omega)
      · exact hK21 _ ⟨by omega, by omega⟩ (by exact zpl_x b1 (show g 43 (l1 * 4 + l3) = l2 by assumption) ⟨by omega, by omega⟩)
set_option maxRecDepth 100000 in
set_option maxHeartbeats 4000000 in
theorem k_Thought_dearness {l1 : Int} {l2 : Int} {g : zi_M} {Q : Int → zi_M → Prop} (I : zk_I g) (p1 : 0 ≤ l1 ∧ l1 ≤ 3) (p2 : 0 ≤ l2 ∧ l2 ≤ 3) (hQ : ∀ v : Int, (0 ≤ v ∧ v ≤ 4) → (v = zpl (zrw (g 43) l1) l2) → Q v g) : w_Thought_dearness l1 l2 g Q := by
  unfold w_Thought_dearness
  refine ⟨((4 - 0 : Int).toNat + 1), k_Thought_dearness_l2 (l1 := l1) (l2 := l2) I ⟨by omega, by omega⟩ ⟨by omega, by omega⟩ (fun k7 b_2 b_3 => ?_) (fun b_4 => ?_) hQ ((4 - 0 : Int).toNat + 1) ⟨by omega, by omega⟩ (by first | exact zno_st b1 (show ¬ g 43 (l1 * 4 + l3) = l2 by assumption) | (intro j h0 h1; exfalso; omega)) (by omega)⟩
  · exact hQ _ ⟨by omega, by omega⟩ (by assumption)
  · exact hQ _ ⟨by omega, by omega⟩ (by assumption)
-- SpoutNews$Thought.offer(LSpoutNews$Told;II)V
theorem k_Thought_offer {l2 : Int} {l3 : Int} {g : zi_M} {Q : Int → zi_M → Prop} (I : zk_I g) (p2 : 0 ≤ l2 ∧ l2 ≤ 3) (p3 : 0 ≤ l3 ∧ l3 ≤ 3) (px0 : ∀ m : Int, 0 ≤ m → m ≤ 3 → g 188 m ≤ 15) (hQ : ∀ g' : zi_M, zk_I g' → zk_fr fr_Thought_offer g g' → (∀ m : Int, 0 ≤ m → m ≤ 3 → g' 188 m ≤ g 188 m + 1) → (zof (zrw (g 43) l3) (g 186) (g 187) (g 188) (g' 186) (g' 187) (g' 188) l2 l3) → Q 0 g') : w_Thought_offer l2 l3 g Q := by
  have q2 : g 188 l2 ≤ 15 := px0 l2 p2.1 p2.2
  have r2 : 0 ≤ g 188 l2 := (I.1 188 l2).1
  have b66 : ∀ g', zk_I g' → zk_fr fr_Thought_offer g g' → (∀ m, 0 ≤ m → m ≤ 3 → g' 188 m ≤ g 188 m + 1) → (∀ g7 : zi_M, g7 186 = zup (g' 186) l2 l3 → g7 187 = zup (g' 187) l3 l2 → g7 188 = g' 188 → zof (zrw (g 43) l3) (g 186) (g 187) (g 188) (g7 186) (g7 187) (g7 188) l2 l3) → w_Thought_offer_b66 l2 l3 g' Q := by
    intro g' I' F' h ho
    unfold w_Thought_offer_b66
    refine ⟨⟨p3.1, by omega⟩, ?_⟩
    intro g5 e5
    have I5 : zk_I g5 := by rw [e5]; exact zk_upd (L := -1) (H := 3) rfl rfl I' ⟨by omega, by omega⟩
    refine ⟨⟨p2.1, by omega⟩, ?_⟩
    intro g7 e7
    have I7 : zk_I g7 := by rw [e7]; exact zk_upd (L := -1) (H := 3) rfl rfl I5 ⟨by omega, by omega⟩
    refine hQ g7 I7 (by rw [e7, e5]; exact zk_fu (zk_fu F' (Or.inr (Or.inl rfl))) (Or.inl rfl)) (fun m m0 m1 => ?_) (ho g7 ?_ ?_ ?_)
    · rw [e7, zi_u_ne (by decide), e5, zi_u_ne (by decide)]
      exact h m m0 m1
    · rw [e7, zup_u]
      congr 1
      rw [e5]
      exact zi_u_row (by decide)
    · rw [e7, zi_u_row (by decide), e5, zup_u]
    · rw [e7, zi_u_row (by decide), e5, zi_u_row (by decide)]
  have h3 : -1 ≤ g 187 l3 ∧ g 187 l3 ≤ 3 := I.1 187 l3
  have b41 : ¬ (¬ g 187 l3 = -1 ∧ zpl (zrw (g 43) l3) (g 187 l3) < zpl (zrw (g 43) l3) l2) → w_Thought_offer_b41 l2 l3 (g 187 l3) g Q := by
    intro nr
    unfold w_Thought_offer_b41
    refine ⟨⟨by omega, by omega⟩, fun e => b66 g I (zk_f0 _) (fun m _ _ => by omega) (fun g7 a b c => ⟨fun z => absurd z nr, fun _ => ⟨b, fun _ => ⟨a, c⟩, fun ne => absurd e ne⟩⟩), fun ne => ⟨⟨by omega, by omega⟩, ?_⟩⟩
    intro g9 e9 g10 e10
    have q4 : g 188 (g 187 l3) ≤ 15 := px0 _ (by omega) h3.2
    have r4 : 0 ≤ g 188 (g 187 l3) := (I.1 188 _).1
    have I9 : zk_I g9 := by rw [e9]; exact zk_upd (L := -1) (H := 3) rfl rfl I ⟨by decide, by decide⟩
    have a9 : ∀ i, g9 188 i = g 188 i := fun i => by rw [e9]; exact zi_u_ne (by decide)
    have I10 : zk_I g10 := by rw [e10]; exact zk_upd (L := 0) (H := 16) rfl rfl I9 ⟨by rw [a9]; omega, by rw [a9]; omega⟩
    have f186 : g10 186 = zup (g 186) (g 187 l3) (-1) := by rw [e10, zi_u_row (by decide), e9, zup_u]
    have f187 : g10 187 = g 187 := by rw [e10, zi_u_row (by decide), e9, zi_u_row (by decide)]
    have f188 : g10 188 = zup (g 188) (g 187 l3) (g 188 (g 187 l3) + 1) := by rw [e10, zup_u, a9, e9, zi_u_row (by decide)]
    refine b66 g10 I10 (by rw [e10, e9]; exact zk_fu (zk_fu (zk_f0 _) (Or.inl rfl)) (Or.inr (Or.inr rfl))) (fun m _ _ => ?_) (fun g7 a b c => ⟨fun z => absurd z nr, fun _ => ⟨?_, fun e => absurd e ne, fun _ => ⟨?_, ?_⟩⟩⟩)
    · by_cases q : m = g 187 l3
      · rw [q, e10, zi_u_eq, a9]; omega
      · rw [e10, zi_u_ni q, a9]; omega
    · rw [b, f187]
    · rw [a, f186]
    · rw [c, f188]
  unfold w_Thought_offer
  refine ⟨⟨p3.1, by omega⟩, zk_rng I _ _, fun e => b41 (fun z => z.1 e), fun ne => ?_⟩
  refine k_Thought_dearness I p3 ⟨by omega, by omega⟩ (fun v12 h12 e12 => ?_)
  refine k_Thought_dearness I p3 ⟨by omega, by omega⟩ (fun v15 h15 e15 => ⟨⟨by omega, by omega⟩, ⟨by omega, by omega⟩, fun hc => b41 (fun z => by have := z.2; omega), fun hc => ⟨⟨p2.1, by omega⟩, ?_⟩⟩)
  intro g21 e21
  refine hQ g21 (by rw [e21]; exact zk_upd (L := 0) (H := 16) rfl rfl I ⟨by omega, by omega⟩) (by rw [e21]; exact zk_fu (zk_f0 _) (Or.inr (Or.inr rfl))) (fun m _ _ => ?_) ⟨fun _ => ⟨?_, ?_, ?_⟩, fun z => absurd ⟨ne, by omega⟩ z⟩
  · by_cases q : m = l2
    · rw [q, e21, zi_u_eq]; omega
    · rw [e21, zi_u_ni q]; omega
  · rw [e21, zi_u_row (by decide)]
  · rw [e21, zi_u_row (by decide)]
  · rw [e21, zup_u]

-- SpoutNews$Thought.makeOffers(LSpoutNews$Told;)V
theorem k_Thought_makeOffers_l31 {g0 : zi_M} {K57 K97 : zi_M → Prop} {Q : Int → zi_M → Prop} (hK : ∀ g, zk_I g → zk_fr fr_Thought_makeOffers g0 g → (zkP g0 → ∃ k : Nat, g 180 11 = (k : Int) ∧ zEnd (zrw (g0 42)) (zrw (g0 43)) k ∧ ∀ m : Int, 0 ≤ m → m ≤ 3 → (0 ≤ g 186 m ∧ g 186 m ≤ 3) ∧ (zru (zrw (g0 42)) (zrw (g0 43)) k).1 (g 186 m) = m + 1) → K57 g ∧ K97 g) :
    ∀ (n : Nat) (l2 : Int) (g : zi_M), 0 ≤ l2 → l2 ≤ 16 → zk_I g → zk_fr fr_Thought_makeOffers g0 g → g 180 11 = l2 → (∀ m, 0 ≤ m → m ≤ 3 → g 188 m ≤ l2) → (zkP g0 → zgo (zrw (g0 42)) (zrw (g0 43)) l2.toNat ∧ zrl (zru (zrw (g0 42)) (zrw (g0 43)) l2.toNat).1 (zru (zrw (g0 42)) (zrw (g0 43)) l2.toNat).2 (g 186) (g 187) (g 188)) → 16 - l2 < (n : Int) → w_Thought_makeOffers_l31 K57 K97 Q n l2 g
  | 0, l2, g, h0, h1, I, F, ho, hr, hp, hm => by exfalso; omega
  | n + 1, l2, g, h0, h1, I, F, ho, hr, hp, hm => by
    have fin : (zkP g0 → zfm (zru (zrw (g0 42)) (zrw (g0 43)) l2.toNat).1 = -1) → K57 g ∧ K97 g := fun z => hK g I F (fun P => by
      have hp1 := hp P
      have z1 := z P
      refine ⟨l2.toNat, by omega, ⟨hp1.1, z1⟩, fun m m0 m1 => ?_⟩
      rcases zfm_all (zru (zrw (g0 42)) (zrw (g0 43)) l2.toNat).1 with q | q
      · have w := (hp1.2.2 m m0 m1).2 (q.2 m m0 m1)
        exact ⟨w.1, w.2.1⟩
      · exfalso; omega)
    have e42 : g 42 = g0 42 := funext (fun i => F 42 i (by unfold fr_Thought_makeOffers; omega))
    have e43 : g 43 = g0 43 := funext (fun i => F 43 i (by unfold fr_Thought_makeOffers; omega))
    unfold w_Thought_makeOffers_l31
    refine ⟨⟨by omega, by omega⟩, fun c => (fin (fun P => zki_16 P.1 (zki_run P.1 _ (hp P).1) (by omega))).2, fun hl => ?_⟩
    refine k_Thought_firstWithout I (fun v6 h6 f1 f2 => ⟨⟨by omega, by omega⟩, fun e => (fin (fun P => by rw [zrl_f (hp P).2 h6 f1 f2]; exact e)).2, fun ne => ⟨⟨by omega, by omega⟩, zk_rng I _ _, fun h4 => ?_, fun h4 => (fin (fun P => ?_)).1⟩⟩)
    · have r0 : 0 ≤ g 188 v6 := (I.1 188 v6).1
      intro g12 e12
      have I12 : zk_I g12 := by rw [e12]; exact zk_upd (L := 0) (H := 16) rfl rfl I ⟨by omega, by omega⟩
      have F12 : zk_fr fr_Thought_makeOffers g0 g12 := by rw [e12]; exact zk_fu F (Or.inr (Or.inr (Or.inr ⟨rfl, rfl⟩)))
      have a : ∀ i, g12 188 i = g 188 i := fun i => by rw [e12]; exact zi_u_ne (by decide)
      have a186 : g12 186 = g 186 := by rw [e12]; exact zi_u_row (by decide)
      have a187 : g12 187 = g 187 := by rw [e12]; exact zi_u_row (by decide)
      have a188 : g12 188 = g 188 := by rw [e12]; exact zi_u_row (by decide)
      have a42 : g12 42 = g0 42 := by rw [e12, zi_u_row (by decide)]; exact e42
      have a43 : g12 43 = g0 43 := by rw [e12, zi_u_row (by decide)]; exact e43
      refine ⟨⟨by rw [a]; omega, by rw [a]; omega⟩, ?_⟩
      refine k_Thought_offer I12 ⟨by omega, by omega⟩ (I12.1 42 _) (fun m m0 m1 => by rw [a]; have := hr m m0 m1; omega) (fun g15 I15 F15 h15 z15 => ?_)
      refine k_Thought_makeOffers_l31 hK n (l2 + 1) g15 (by omega) (by omega) I15 (zk_ft F12 F15 (fun a i h => h.elim Or.inl (fun h => Or.inr (h.elim Or.inl (fun h => Or.inr (Or.inl h)))))) ?_ (fun m m0 m1 => ?_) (fun P => ?_) (by omega)
      · rw [F15 _ _ (by unfold fr_Thought_offer; omega), e12, zi_u_eq]; omega
      · have := h15 m m0 m1
        rw [a] at this
        have := hr m m0 m1
        omega
      · have hp1 := hp P
        have fm := zrl_f hp1.2 h6 f1 f2
        rw [show (l2 + 1).toNat = l2.toNat + 1 by omega]
        refine ⟨fun j hj => ?_, ?_⟩
        · by_cases q : j = l2.toNat
          · rw [q, fm]; exact ne
          · exact hp1.1 j (by omega)
        · rw [a186, a187, a188, a42, a43] at z15
          exact zrl_st P.1 P.2 (zki_run P.1 _ hp1.1) hp1.2 fm ne z15
    · exfalso
      have hp1 := hp P
      have fm := zrl_f hp1.2 h6 f1 f2
      rcases zfm_all (zru (zrw (g0 42)) (zrw (g0 43)) l2.toNat).1 with q | q
      · exact ne (fm.symm.trans q.1)
      · obtain ⟨m0, fr, -⟩ := q
        rw [fm] at m0 fr
        have o3 := zki_3 P.1 (zki_run P.1 _ hp1.1) m0 fr
        have := ((hp1.2.2 v6 m0.1 m0.2).1 fr).2
        omega
theorem k_Thought_makeOffers {g : zi_M} {Q : Int → zi_M → Prop} (I : zk_I g) (hQ : ∀ g' : zi_M, zk_I g' → zk_fr fr_Thought_makeOffers g g' → (zkP g → ∃ k : Nat, g' 180 11 = (k : Int) ∧ zEnd (zrw (g 42)) (zrw (g 43)) k ∧ ∀ m : Int, 0 ≤ m → m ≤ 3 → (0 ≤ g' 186 m ∧ g' 186 m ≤ 3) ∧ (zru (zrw (g 42)) (zrw (g 43)) k).1 (g' 186 m) = m + 1) → Q 0 g') : w_Thought_makeOffers g Q := by
  unfold w_Thought_makeOffers
  intro g1 e1 g2 e2 g3 e3 g4 e4
  have I1 : zk_I g1 := by rw [e1]; exact zk_fill (L := -1) (H := 3) (fun _ => rfl) (fun _ => rfl) I ⟨by decide, by decide⟩
  have I2 : zk_I g2 := by rw [e2]; exact zk_fill (L := -1) (H := 3) (fun _ => rfl) (fun _ => rfl) I1 ⟨by decide, by decide⟩
  have I3 : zk_I g3 := by rw [e3]; exact zk_fill (L := 0) (H := 16) (fun _ => rfl) (fun _ => rfl) I2 ⟨by decide, by decide⟩
  have I4 : zk_I g4 := by rw [e4]; exact zk_upd (L := 0) (H := 16) rfl rfl I3 ⟨by decide, by decide⟩
  have F4 : zk_fr fr_Thought_makeOffers g g4 := by
    rw [e4, e3, e2, e1]
    exact zk_fu (zk_ff (zk_ff (zk_ff (zk_f0 _) (fun _ => Or.inl rfl)) (fun _ => Or.inr (Or.inl rfl))) (fun _ => Or.inr (Or.inr (Or.inl rfl)))) (Or.inr (Or.inr (Or.inr ⟨rfl, rfl⟩)))
  have fl : ∀ (h : zi_M) (a : Nat) (v m : Int), 0 ≤ m → m ≤ 3 → zi_fl h a 4 v a m = v := fun h a v m m0 m1 => by
    unfold zi_fl
    rw [if_pos ⟨rfl, m0, by omega⟩]
  have fn : ∀ (h : zi_M) (a b : Nat) (v m : Int), a ≠ b → zi_fl h b 4 v a m = h a m := fun h a b v m ne => by
    unfold zi_fl
    rw [if_neg (fun q => ne q.1)]
  have c188 : ∀ m : Int, 0 ≤ m → m ≤ 3 → g4 188 m = 0 := fun m m0 m1 => by rw [e4, zi_u_ne (by decide), e3, fl _ _ _ _ m0 m1]
  have c187 : ∀ m : Int, 0 ≤ m → m ≤ 3 → g4 187 m = -1 := fun m m0 m1 => by rw [e4, zi_u_ne (by decide), e3, fn _ _ _ _ _ (by decide), e2, fl _ _ _ _ m0 m1]
  have c186 : ∀ m : Int, 0 ≤ m → m ≤ 3 → g4 186 m = -1 := fun m m0 m1 => by rw [e4, zi_u_ne (by decide), e3, fn _ _ _ _ _ (by decide), e2, fn _ _ _ _ _ (by decide), e1, fl _ _ _ _ m0 m1]
  exact ⟨17, k_Thought_makeOffers_l31 (g0 := g) (fun g' I' F' h => ⟨hQ g' I' F' h, hQ g' I' F' h⟩) 17 0 g4 (by decide) (by decide) I4 F4 (by rw [e4, zi_u_eq]) (fun m m0 m1 => by rw [c188 m m0 m1]; decide) (fun _ => ⟨fun j hj => by exfalso; have : (0 : Int).toNat = 0 := rfl; omega, zrl_0 c186 c187 c188⟩) (by decide)⟩

