-- BOTH over the whole row
noncomputable def zFring (g : zi_M) : Prop := ∀ e k : Int, 0 ≤ e → e < g 91 1 → zRw (g 2 11) k → zRV (g 2 11) g e k = zRW g e k
noncomputable def zFk (g : zi_M) : Prop := (∀ k : Int, zRw (g 47 11) k → zVC (g 47 11) 47 g k = g 250 k) ∧ ∀ n : Int, 0 ≤ n → n < 150 → g 60 n = g 250 (539 + 4 * n) ∧ g 61 n = g 250 (539 + (4 * n + 1)) ∧ g 62 n = g 250 (539 + (4 * n + 2)) ∧ g 63 n = g 250 (539 + (4 * n + 3))
noncomputable def zFth (g : zi_M) : Prop := g 2 0 = 0 ∧ g 165 0 = 1 ∧ g 214 5 = 0
noncomputable def zFD (g : zi_M) : Prop := zVC (g 2 11) 2 g = zVM (g 2 11) g ∧ zFring g ∧ zFth g ∧ (g 0 2 = 1 → zFk g)
noncomputable def zFe (a : Nat) (i : Int) : Prop := (a = 0 ∧ i = 2) ∨ a = 2 ∨ (6 ≤ a ∧ a ≤ 13) ∨ (15 ≤ a ∧ a ≤ 18) ∨ (47 ≤ a ∧ a ≤ 63) ∨ (91 ≤ a ∧ a ≤ 164) ∨ (a = 165 ∧ i = 0) ∨ (177 ≤ a ∧ a ≤ 179) ∨ (a = 214 ∧ (i = 5 ∨ i = 43)) ∨ (a = 215 ∧ 0 ≤ i ∧ i < 264) ∨ a = 216 ∨ a = 221 ∨ a = 237 ∨ a = 238 ∨ a = 250
noncomputable def zFe1 (a : Nat) (i : Int) : Prop := (a = 0 ∧ i = 2) ∨ (a = 2 ∧ i = 0) ∨ (15 ≤ a ∧ a ≤ 18) ∨ (47 ≤ a ∧ a ≤ 63) ∨ (a = 165 ∧ i = 0) ∨ (177 ≤ a ∧ a ≤ 179) ∨ (a = 214 ∧ (i = 5 ∨ i = 43)) ∨ a = 221 ∨ a = 237 ∨ a = 238 ∨ a = 250
theorem zVM_c2 {T : Int} {g g2 : zi_M} (e : ∀ (a : Nat) (i : Int), ((a = 215 ∧ 0 ≤ i ∧ i < 264) ∨ a = 221 ∨ a = 237 ∨ a = 238 ∨ (a = 214 ∧ i = 43)) → g2 a i = g a i) : zVM T g2 = zVM T g := funext fun k => by
  by_cases h : 264 ≤ k
  · exact zVM_hc2 (fun a i q => e a i (by omega)) h
  · by_cases d : zRw T k
    · rw [zVM_rw d, zVM_rw d]
      exact e 215 k (Or.inl ⟨rfl, d.1, d.2.1⟩)
    · have nd := zdm_lo (by omega) d
      rw [zVM_no nd, zVM_no nd]
theorem zFring_n {g g2 : zi_M} (R : zFring g) (c : ∀ (a : Nat) (i : Int), (a = 2 ∧ i = 11) ∨ (91 ≤ a ∧ a ≤ 164) ∨ a = 216 → g2 a i = g a i) : zFring g2 := fun e k e0 e1 h => by
  rw [c 91 1 (by omega)] at e1
  rw [c 2 11 (by omega)] at h ⊢
  rw [zRV_n (g := g) (fun a i q => c a i (by omega)) h, R e k e0 e1 h]
  show g 216 _ = g2 216 _
  rw [c 216 _ (by omega)]
theorem zFring_0 {g : zi_M} (h : g 91 1 = 0) : zFring g := fun e k e0 e1 _ => by exfalso; omega
theorem zFk_n {g g2 : zi_M} (R : zFk g) (e : ∀ (a : Nat) (i : Int), (47 ≤ a ∧ a ≤ 63) ∨ (a = 250 ∧ 0 ≤ i ∧ i < 2004) → g2 a i = g a i) : zFk g2 := by
  have e11 := e 47 11 (by omega)
  refine ⟨fun k hk => ?_, fun n n0 n1 => ?_⟩
  · rw [e11] at hk ⊢
    rw [zVC_wc (zWs_c (fun a i q => e a i (by omega))) hk, e 250 k (Or.inr ⟨rfl, hk.1, by have := hk.2.1; omega⟩)]
    exact R.1 k hk
  · rw [e 60 n (by omega), e 61 n (by omega), e 62 n (by omega), e 63 n (by omega), e 250 _ (by omega), e 250 _ (by omega), e 250 _ (by omega), e 250 _ (by omega)]
    exact R.2 n n0 n1
theorem zFD_n {g g2 : zi_M} (R : zFD g) (e : ∀ (a : Nat) (i : Int), zFe a i → g2 a i = g a i) : zFD g2 := by
  obtain ⟨r1, r2, r3, r4⟩ := R
  have e11 : g2 2 11 = g 2 11 := e 2 11 (by unfold zFe; omega)
  refine ⟨?_, zFring_n r2 (fun a i q => e a i (by unfold zFe; omega)), ⟨by rw [e 2 0 (by unfold zFe; omega)]; exact r3.1, by rw [e 165 0 (by unfold zFe; omega)]; exact r3.2.1, by rw [e 214 5 (by unfold zFe; omega)]; exact r3.2.2⟩, fun h => ?_⟩
  · rw [e11, zVC_c (g := g) (fun a i q => e a i (by unfold zFe; omega)), zVM_c2 (g := g) (fun a i q => e a i (by unfold zFe; omega))]
    exact r1
  · rw [e 0 2 (by unfold zFe; omega)] at h
    exact zFk_n (r4 h) (fun a i q => e a i (by unfold zFe; omega))
noncomputable def zFA (T : Int) (g : zi_M) : Prop := g 2 17 = g 215 0 ∧ g 2 18 = g 215 1 ∧ g 2 19 = g 215 2 ∧ g 2 14 = g 215 3 ∧ g 2 15 = g 215 4 ∧ g 2 16 = g 215 5 ∧ (∀ i : Int, 0 ≤ i → i < 10 → g 6 i = g 215 (6 + i)) ∧ (∀ i : Int, 0 ≤ i → i < 10 → g 7 i = g 215 (16 + i)) ∧ (∀ i : Int, 0 ≤ i → i < 10 → g 8 i = g 215 (26 + i)) ∧ (∀ i : Int, 0 ≤ i → i < 200 → g 9 i = g 215 (36 + i)) ∧ (∀ i : Int, 0 ≤ i → i < 8 → g 10 i = g 215 (236 + i)) ∧ (∀ i : Int, 0 ≤ i → i < 8 → i < T → g 11 i + 1 = g 215 (244 + i)) ∧ (∀ i : Int, 0 ≤ i → i < 6 → g 12 i + 1 = g 215 (252 + i)) ∧ (∀ i : Int, 0 ≤ i → i < 6 → g 13 i = g 215 (258 + i))
theorem zFA_out {T : Int} {g : zi_M} (h : zVC T 2 g = zVM T g) : zFA T g := by
  obtain ⟨p0, p1, p2, p3, p4, p5, p6, p7, p8, p9, p10, p11, p12, p13⟩ := zVC_rd (T := T) (r := 2) (g := g)
  have q : ∀ k : Int, zRw T k → zVC T 2 g k = g 215 k := fun k hk => by rw [h]; exact zVM_rw hk
  exact ⟨by rw [← p0]; exact q 0 ⟨by decide, by decide, by omega⟩, by rw [← p1]; exact q 1 ⟨by decide, by decide, by omega⟩, by rw [← p2]; exact q 2 ⟨by decide, by decide, by omega⟩, by rw [← p3]; exact q 3 ⟨by decide, by decide, by omega⟩, by rw [← p4]; exact q 4 ⟨by decide, by decide, by omega⟩, by rw [← p5]; exact q 5 ⟨by decide, by decide, by omega⟩, fun i i0 i1 => by have z := q (6 + i) ⟨by omega, by omega, by omega⟩; rw [p6 i i0 i1] at z; exact z, fun i i0 i1 => by have z := q (16 + i) ⟨by omega, by omega, by omega⟩; rw [p7 i i0 i1] at z; exact z, fun i i0 i1 => by have z := q (26 + i) ⟨by omega, by omega, by omega⟩; rw [p8 i i0 i1] at z; exact z, fun i i0 i1 => by have z := q (36 + i) ⟨by omega, by omega, by omega⟩; rw [p9 i i0 i1] at z; exact z, fun i i0 i1 => by have z := q (236 + i) ⟨by omega, by omega, by omega⟩; rw [p10 i i0 i1] at z; exact z, fun i i0 i1 i2 => by have z := q (244 + i) ⟨by omega, by omega, by omega⟩; rw [p11 i i0 i1 i2] at z; exact z, fun i i0 i1 => by have z := q (252 + i) ⟨by omega, by omega, by omega⟩; rw [p12 i i0 i1] at z; exact z, fun i i0 i1 => by have z := q (258 + i) ⟨by omega, by omega, by omega⟩; rw [p13 i i0 i1] at z; exact z⟩
theorem zFA_in {T : Int} {g : zi_M} (A : zFA T g) (hi : ∀ k : Int, 264 ≤ k → zVC T 2 g k = zVM T g k) : zVC T 2 g = zVM T g := funext fun k => by
  by_cases c : 264 ≤ k
  · exact hi k c
  by_cases d : zRw T k
  · rw [zVM_rw d]
    obtain ⟨d0, d1, d2⟩ := d
    obtain ⟨p0, p1, p2, p3, p4, p5, p6, p7, p8, p9, p10, p11, p12, p13⟩ := zVC_rd (T := T) (r := 2) (g := g)
    obtain ⟨a0, a1, a2, a3, a4, a5, a6, a7, a8, a9, a10, a11, a12, a13⟩ := A
    by_cases k0 : k = 0
    · rw [k0, p0]; exact a0
    by_cases k1 : k = 1
    · rw [k1, p1]; exact a1
    by_cases k2 : k = 2
    · rw [k2, p2]; exact a2
    by_cases k3 : k = 3
    · rw [k3, p3]; exact a3
    by_cases k4 : k = 4
    · rw [k4, p4]; exact a4
    by_cases k5 : k = 5
    · rw [k5, p5]; exact a5
    by_cases m0 : k < 16
    · obtain ⟨i, rfl⟩ : ∃ i, k = 6 + i := ⟨k - 6, by omega⟩
      rw [p6 i (by omega) (by omega)]; exact a6 i (by omega) (by omega)
    by_cases m1 : k < 26
    · obtain ⟨i, rfl⟩ : ∃ i, k = 16 + i := ⟨k - 16, by omega⟩
      rw [p7 i (by omega) (by omega)]; exact a7 i (by omega) (by omega)
    by_cases m2 : k < 36
    · obtain ⟨i, rfl⟩ : ∃ i, k = 26 + i := ⟨k - 26, by omega⟩
      rw [p8 i (by omega) (by omega)]; exact a8 i (by omega) (by omega)
    by_cases m3 : k < 236
    · obtain ⟨i, rfl⟩ : ∃ i, k = 36 + i := ⟨k - 36, by omega⟩
      rw [p9 i (by omega) (by omega)]; exact a9 i (by omega) (by omega)
    by_cases m4 : k < 244
    · obtain ⟨i, rfl⟩ : ∃ i, k = 236 + i := ⟨k - 236, by omega⟩
      rw [p10 i (by omega) (by omega)]; exact a10 i (by omega) (by omega)
    by_cases m5 : k < 252
    · obtain ⟨i, rfl⟩ : ∃ i, k = 244 + i := ⟨k - 244, by omega⟩
      rw [p11 i (by omega) (by omega) (by omega)]; exact a11 i (by omega) (by omega) (by omega)
    by_cases m6 : k < 258
    · obtain ⟨i, rfl⟩ : ∃ i, k = 252 + i := ⟨k - 252, by omega⟩
      rw [p12 i (by omega) (by omega)]; exact a12 i (by omega) (by omega)
    by_cases m7 : k < 264
    · obtain ⟨i, rfl⟩ : ∃ i, k = 258 + i := ⟨k - 258, by omega⟩
      rw [p13 i (by omega) (by omega)]; exact a13 i (by omega) (by omega)
    · exfalso; omega
  · have nd := zdm_lo (by omega) d
    rw [zVC_no nd, zVM_no nd]
theorem zFD_c {g g2 : zi_M} (R : zFD g) (A : zFA (g2 2 11) g2) (r : zFring g2) (e : ∀ (a : Nat) (i : Int), zFe1 a i → g2 a i = g a i) : zFD g2 := by
  obtain ⟨r1, r2, r3, r4⟩ := R
  refine ⟨zFA_in A (fun k hk => ?_), r, ⟨by rw [e 2 0 (by unfold zFe1; omega)]; exact r3.1, by rw [e 165 0 (by unfold zFe1; omega)]; exact r3.2.1, by rw [e 214 5 (by unfold zFe1; omega)]; exact r3.2.2⟩, fun h => ?_⟩
  · rw [zVC_hh (g := g) (fun a i q => e a i (by unfold zFe1; omega)) hk, zVM_hc2 (g := g) (fun a i q => e a i (by unfold zFe1; omega)) hk, zVC_hi (T' := g 2 11) (r' := 2) hk, zVM_hi (T' := g 2 11) hk]
    exact congrFun r1 k
  · rw [e 0 2 (by unfold zFe1; omega)] at h
    exact zFk_n (r4 h) (fun a i q => e a i (by unfold zFe1; omega))
section
variable {g g1 g2 : zi_M}
noncomputable def zFs0 (a : Nat) (i : Int) : Prop := (a = 2 ∧ (i = 11 ∨ i = 14 ∨ i = 15 ∨ i = 16 ∨ i = 17 ∨ i = 19)) ∨ (6 ≤ a ∧ a ≤ 13)
theorem zFD_state {l : Int} (R : zFD g) (a : g1 91 1 = 0) (a18 : g1 2 18 = l) (m : ∀ k : Int, 0 ≤ k ∧ k < 264 → (k = 1 → g2 215 k = l) ∧ (¬ k = 1 → g2 215 k = g1 215 k)) (hs : ∀ (a : Nat) (i : Int), 214 ≤ a → g1 a i = g a i) (hm : ∀ (a : Nat) (i : Int), a ≤ 213 → g2 a i = g1 a i) (hf1 : ∀ (a : Nat) (i : Int), zFe1 a i ∨ zFs0 a i → g2 a i = g a i) : zFD g2 := by
  have hf : ∀ (a : Nat) (i : Int), (a = 2 ∧ (i = 11 ∨ i = 14 ∨ i = 15 ∨ i = 16 ∨ i = 17 ∨ i = 19)) ∨ (6 ≤ a ∧ a ≤ 13) → g2 a i = g a i := fun a i q => hf1 a i (Or.inr q)
  have u : ∀ k : Int, 0 ≤ k → k < 264 → ¬ k = 1 → g2 215 k = g 215 k := fun k k0 k1 n => by rw [(m k ⟨k0, k1⟩).2 n, hs 215 k (by decide)]
  obtain ⟨y0, y1, y2, y3, y4, y5, y6, y7, y8, y9, y10, y11, y12, y13⟩ := zFA_out R.1
  refine zFD_c R ?_ (zFring_0 (by rw [hm 91 1 (by decide)]; exact a)) (fun a i h => hf1 a i (Or.inl h))
  rw [hf 2 11 (by omega)]
  exact ⟨by rw [hf 2 17 (by omega), u 0 (by decide) (by decide) (by omega)]; exact y0,
    by rw [hm 2 18 (by decide), a18, (m 1 ⟨by decide, by decide⟩).1 rfl],
    by rw [hf 2 19 (by omega), u 2 (by decide) (by decide) (by omega)]; exact y2,
    by rw [hf 2 14 (by omega), u 3 (by decide) (by decide) (by omega)]; exact y3,
    by rw [hf 2 15 (by omega), u 4 (by decide) (by decide) (by omega)]; exact y4,
    by rw [hf 2 16 (by omega), u 5 (by decide) (by decide) (by omega)]; exact y5,
    fun i i0 i1 => by rw [hf 6 i (by omega), u (6 + i) (by omega) (by omega) (by omega)]; exact y6 i i0 i1,
    fun i i0 i1 => by rw [hf 7 i (by omega), u (16 + i) (by omega) (by omega) (by omega)]; exact y7 i i0 i1,
    fun i i0 i1 => by rw [hf 8 i (by omega), u (26 + i) (by omega) (by omega) (by omega)]; exact y8 i i0 i1,
    fun i i0 i1 => by rw [hf 9 i (by omega), u (36 + i) (by omega) (by omega) (by omega)]; exact y9 i i0 i1,
    fun i i0 i1 => by rw [hf 10 i (by omega), u (236 + i) (by omega) (by omega) (by omega)]; exact y10 i i0 i1,
    fun i i0 i1 i2 => by rw [hf 11 i (by omega), u (244 + i) (by omega) (by omega) (by omega)]; exact y11 i i0 i1 i2,
    fun i i0 i1 => by rw [hf 12 i (by omega), u (252 + i) (by omega) (by omega) (by omega)]; exact y12 i i0 i1,
    fun i i0 i1 => by rw [hf 13 i (by omega), u (258 + i) (by omega) (by omega) (by omega)]; exact y13 i i0 i1⟩
noncomputable def zFs1 (a : Nat) (i : Int) : Prop := (a = 2 ∧ (i = 11 ∨ i = 14 ∨ i = 15 ∨ i = 16 ∨ i = 17 ∨ i = 18 ∨ i = 19)) ∨ (9 ≤ a ∧ a ≤ 13)
theorem zFD_spout {v1 v2 : Int} (R : zFD g) (sp : g 2 8 = g 214 6) (hv : v2 = v1) (bS : 0 ≤ g 2 8) (b9 : ¬ v1 = -1 → g 2 8 < 10) (a1 : ¬ v1 = -1 → g1 91 1 = 0) (a2 : v1 = -1 → g1 = g)
    (c6 : ∀ k : Int, 0 ≤ k ∧ k < 10 → (¬ v1 = -1 ∧ k = g 2 8 → g1 6 k = 0) ∧ (¬ (¬ v1 = -1 ∧ k = g 2 8) → g1 6 k = g 6 k)) (c7 : ∀ k : Int, 0 ≤ k ∧ k < 10 → (¬ v1 = -1 ∧ k = g 2 8 → g1 7 k = 0) ∧ (¬ (¬ v1 = -1 ∧ k = g 2 8) → g1 7 k = g 7 k)) (c8 : ∀ k : Int, 0 ≤ k ∧ k < 10 → (¬ v1 = -1 ∧ k = g 2 8 → g1 8 k = 0) ∧ (¬ (¬ v1 = -1 ∧ k = g 2 8) → g1 8 k = g 8 k))
    (m : ∀ k : Int, 0 ≤ k ∧ k < 264 → (¬ v2 = -1 ∧ k = 6 + g1 214 6 → g2 215 k = 0) ∧ (¬ v2 = -1 ∧ k = 16 + g1 214 6 → g2 215 k = 0) ∧ (¬ v2 = -1 ∧ k = 26 + g1 214 6 → g2 215 k = 0) ∧ (¬ (¬ v2 = -1 ∧ (k = 6 + g1 214 6 ∨ k = 16 + g1 214 6 ∨ k = 26 + g1 214 6)) → g2 215 k = g1 215 k))
    (hs : ∀ (a : Nat) (i : Int), 214 ≤ a → g1 a i = g a i) (hm : ∀ (a : Nat) (i : Int), a ≤ 213 → g2 a i = g1 a i) (hr : ∀ (a : Nat) (i : Int), (a = 214 ∧ (i = 5 ∨ i = 43)) ∨ (216 ≤ a ∧ a ≤ 217) ∨ a = 221 ∨ a = 237 ∨ a = 238 ∨ a = 250 → g2 a i = g a i) (hf1 : ∀ (a : Nat) (i : Int), zFe1 a i ∨ zFs1 a i → g2 a i = g a i) : zFD g2 := by
  subst hv
  by_cases c : v2 = -1
  · have e := a2 c
    refine zFD_n R (fun a i h => ?_)
    by_cases q : a ≤ 213
    · rw [hm a i q, e]
    · by_cases q5 : a = 215 ∧ 0 ≤ i ∧ i < 264
      · obtain ⟨q5, q6⟩ := q5
        subst q5
        rw [(m i q6).2.2.2 (fun w => w.1 c), hs 215 i (by decide)]
      · exact hr a i (by unfold zFe at h; omega)
  have hf : ∀ (a : Nat) (i : Int), (a = 2 ∧ (i = 11 ∨ i = 14 ∨ i = 15 ∨ i = 16 ∨ i = 17 ∨ i = 18 ∨ i = 19)) ∨ (9 ≤ a ∧ a ≤ 13) → g2 a i = g a i := fun a i q => hf1 a i (Or.inr q)
  have b10 := b9 c
  rw [hs 214 6 (by decide), ← sp] at m
  have u : ∀ k : Int, 0 ≤ k → k < 264 → ¬ (k = 6 + g 2 8 ∨ k = 16 + g 2 8 ∨ k = 26 + g 2 8) → g2 215 k = g 215 k := fun k k0 k1 n => by rw [(m k ⟨k0, k1⟩).2.2.2 (fun w => n w.2), hs 215 k (by decide)]
  obtain ⟨y0, y1, y2, y3, y4, y5, y6, y7, y8, y9, y10, y11, y12, y13⟩ := zFA_out R.1
  refine zFD_c R ?_ (zFring_0 (by rw [hm 91 1 (by decide)]; exact a1 c)) (fun a i h => hf1 a i (Or.inl h))
  rw [hf 2 11 (by omega)]
  exact ⟨by rw [hf 2 17 (by omega), u 0 (by decide) (by decide) (by omega)]; exact y0,
    by rw [hf 2 18 (by omega), u 1 (by decide) (by decide) (by omega)]; exact y1,
    by rw [hf 2 19 (by omega), u 2 (by decide) (by decide) (by omega)]; exact y2,
    by rw [hf 2 14 (by omega), u 3 (by decide) (by decide) (by omega)]; exact y3,
    by rw [hf 2 15 (by omega), u 4 (by decide) (by decide) (by omega)]; exact y4,
    by rw [hf 2 16 (by omega), u 5 (by decide) (by decide) (by omega)]; exact y5,
    fun i i0 i1 => by
      rw [hm 6 i (by decide)]
      by_cases q : i = g 2 8
      · rw [(c6 i ⟨i0, i1⟩).1 ⟨c, q⟩, (m (6 + i) ⟨by omega, by omega⟩).1 ⟨c, by omega⟩]
      · rw [(c6 i ⟨i0, i1⟩).2 (fun w => q w.2), u (6 + i) (by omega) (by omega) (by omega)]; exact y6 i i0 i1,
    fun i i0 i1 => by
      rw [hm 7 i (by decide)]
      by_cases q : i = g 2 8
      · rw [(c7 i ⟨i0, i1⟩).1 ⟨c, q⟩, (m (16 + i) ⟨by omega, by omega⟩).2.1 ⟨c, by omega⟩]
      · rw [(c7 i ⟨i0, i1⟩).2 (fun w => q w.2), u (16 + i) (by omega) (by omega) (by omega)]; exact y7 i i0 i1,
    fun i i0 i1 => by
      rw [hm 8 i (by decide)]
      by_cases q : i = g 2 8
      · rw [(c8 i ⟨i0, i1⟩).1 ⟨c, q⟩, (m (26 + i) ⟨by omega, by omega⟩).2.2.1 ⟨c, by omega⟩]
      · rw [(c8 i ⟨i0, i1⟩).2 (fun w => q w.2), u (26 + i) (by omega) (by omega) (by omega)]; exact y8 i i0 i1,
    fun i i0 i1 => by rw [hf 9 i (by omega), u (36 + i) (by omega) (by omega) (by omega)]; exact y9 i i0 i1,
    fun i i0 i1 => by rw [hf 10 i (by omega), u (236 + i) (by omega) (by omega) (by omega)]; exact y10 i i0 i1,
    fun i i0 i1 i2 => by rw [hf 11 i (by omega), u (244 + i) (by omega) (by omega) (by omega)]; exact y11 i i0 i1 i2,
    fun i i0 i1 => by rw [hf 12 i (by omega), u (252 + i) (by omega) (by omega) (by omega)]; exact y12 i i0 i1,
    fun i i0 i1 => by rw [hf 13 i (by omega), u (258 + i) (by omega) (by omega) (by omega)]; exact y13 i i0 i1⟩
noncomputable def zFs2 (a : Nat) (i : Int) : Prop := (a = 2 ∧ (i = 14 ∨ i = 15 ∨ i = 16 ∨ i = 17 ∨ i = 18 ∨ i = 19)) ∨ (6 ≤ a ∧ a ≤ 9) ∨ (12 ≤ a ∧ a ≤ 13)
theorem zFD_sitter {v1 v2 l : Int} (R : zFD g) (si : g 2 11 = g 214 7) (hv : v2 = v1) (bT : 0 ≤ g 2 11) (b8 : ¬ v1 = -1 → g 2 11 < 8) (n1 : ¬ v1 = -1 → g1 2 11 = g 2 11 + 1) (a1 : ¬ v1 = -1 → g1 91 1 = 0) (a2 : v1 = -1 → g1 = g)
    (c10 : ∀ k : Int, 0 ≤ k ∧ k < 8 → (¬ v1 = -1 ∧ k = g 2 11 → g1 10 k = l) ∧ (¬ (¬ v1 = -1 ∧ k = g 2 11) → g1 10 k = g 10 k)) (c11 : ∀ k : Int, 0 ≤ k ∧ k < 8 → (¬ v1 = -1 ∧ k = g 2 11 → g1 11 k = (-1)) ∧ (¬ (¬ v1 = -1 ∧ k = g 2 11) → g1 11 k = g 11 k))
    (m : ∀ k : Int, 0 ≤ k ∧ k < 264 → (¬ v2 = -1 ∧ k = 236 + g1 214 7 → g2 215 k = l) ∧ (¬ v2 = -1 ∧ k = 244 + g1 214 7 → g2 215 k = 0) ∧ (¬ (¬ v2 = -1 ∧ (k = 236 + g1 214 7 ∨ k = 244 + g1 214 7)) → g2 215 k = g1 215 k))
    (hs : ∀ (a : Nat) (i : Int), 214 ≤ a → g1 a i = g a i) (hm : ∀ (a : Nat) (i : Int), a ≤ 213 → g2 a i = g1 a i) (hr : ∀ (a : Nat) (i : Int), (a = 214 ∧ (i = 5 ∨ i = 43)) ∨ (216 ≤ a ∧ a ≤ 217) ∨ a = 221 ∨ a = 237 ∨ a = 238 ∨ a = 250 → g2 a i = g a i) (hf1 : ∀ (a : Nat) (i : Int), zFe1 a i ∨ zFs2 a i → g2 a i = g a i) : zFD g2 := by
  subst hv
  by_cases c : v2 = -1
  · have e := a2 c
    refine zFD_n R (fun a i h => ?_)
    by_cases q : a ≤ 213
    · rw [hm a i q, e]
    · by_cases q5 : a = 215 ∧ 0 ≤ i ∧ i < 264
      · obtain ⟨q5, q6⟩ := q5
        subst q5
        rw [(m i q6).2.2 (fun w => w.1 c), hs 215 i (by decide)]
      · exact hr a i (by unfold zFe at h; omega)
  have hf : ∀ (a : Nat) (i : Int), (a = 2 ∧ (i = 14 ∨ i = 15 ∨ i = 16 ∨ i = 17 ∨ i = 18 ∨ i = 19)) ∨ (6 ≤ a ∧ a ≤ 9) ∨ (12 ≤ a ∧ a ≤ 13) → g2 a i = g a i := fun a i q => hf1 a i (Or.inr q)
  have b10 := b8 c
  rw [hs 214 7 (by decide), ← si] at m
  have u : ∀ k : Int, 0 ≤ k → k < 264 → ¬ (k = 236 + g 2 11 ∨ k = 244 + g 2 11) → g2 215 k = g 215 k := fun k k0 k1 n => by rw [(m k ⟨k0, k1⟩).2.2 (fun w => n w.2), hs 215 k (by decide)]
  obtain ⟨y0, y1, y2, y3, y4, y5, y6, y7, y8, y9, y10, y11, y12, y13⟩ := zFA_out R.1
  refine zFD_c R ?_ (zFring_0 (by rw [hm 91 1 (by decide)]; exact a1 c)) (fun a i h => hf1 a i (Or.inl h))
  rw [hm 2 11 (by decide), n1 c]
  exact ⟨by rw [hf 2 17 (by omega), u 0 (by decide) (by decide) (by omega)]; exact y0,
    by rw [hf 2 18 (by omega), u 1 (by decide) (by decide) (by omega)]; exact y1,
    by rw [hf 2 19 (by omega), u 2 (by decide) (by decide) (by omega)]; exact y2,
    by rw [hf 2 14 (by omega), u 3 (by decide) (by decide) (by omega)]; exact y3,
    by rw [hf 2 15 (by omega), u 4 (by decide) (by decide) (by omega)]; exact y4,
    by rw [hf 2 16 (by omega), u 5 (by decide) (by decide) (by omega)]; exact y5,
    fun i i0 i1 => by rw [hf 6 i (by omega), u (6 + i) (by omega) (by omega) (by omega)]; exact y6 i i0 i1,
    fun i i0 i1 => by rw [hf 7 i (by omega), u (16 + i) (by omega) (by omega) (by omega)]; exact y7 i i0 i1,
    fun i i0 i1 => by rw [hf 8 i (by omega), u (26 + i) (by omega) (by omega) (by omega)]; exact y8 i i0 i1,
    fun i i0 i1 => by rw [hf 9 i (by omega), u (36 + i) (by omega) (by omega) (by omega)]; exact y9 i i0 i1,
    fun i i0 i1 => by
      rw [hm 10 i (by decide)]
      by_cases q : i = g 2 11
      · rw [(c10 i ⟨i0, i1⟩).1 ⟨c, q⟩, (m (236 + i) ⟨by omega, by omega⟩).1 ⟨c, by omega⟩]
      · rw [(c10 i ⟨i0, i1⟩).2 (fun w => q w.2), u (236 + i) (by omega) (by omega) (by omega)]; exact y10 i i0 i1,
    fun i i0 i1 i2 => by
      rw [hm 11 i (by decide)]
      by_cases q : i = g 2 11
      · rw [(c11 i ⟨i0, i1⟩).1 ⟨c, q⟩, (m (244 + i) ⟨by omega, by omega⟩).2.1 ⟨c, by omega⟩]; rfl
      · rw [(c11 i ⟨i0, i1⟩).2 (fun w => q w.2), u (244 + i) (by omega) (by omega) (by omega)]; exact y11 i i0 i1 (by omega),
    fun i i0 i1 => by rw [hf 12 i (by omega), u (252 + i) (by omega) (by omega) (by omega)]; exact y12 i i0 i1,
    fun i i0 i1 => by rw [hf 13 i (by omega), u (258 + i) (by omega) (by omega) (by omega)]; exact y13 i i0 i1⟩
noncomputable def zFs3 (a : Nat) (i : Int) : Prop := (a = 2 ∧ (i = 11 ∨ i = 15 ∨ i = 16 ∨ i = 17 ∨ i = 18 ∨ i = 19)) ∨ a = 6 ∨ (8 ≤ a ∧ a ≤ 9) ∨ (11 ≤ a ∧ a ≤ 13)
theorem zFD_set {v1 v2 l1 l2 l3 : Int} (R : zFD g) (hv : v2 = v1) (bS : g 2 8 ≤ 10 ∧ g 2 11 ≤ 8) (o : ¬ zPs (g 2 8) (g 2 11) l1 l2 l3 → v1 = 0) (a1 : ¬ v1 = 0 → g1 91 1 = 0) (a2 : v1 = 0 → g1 = g)
    (c7 : ∀ k : Int, 0 ≤ k ∧ k < 10 → ((¬ v1 = 0 ∧ l1 = 2) ∧ k = l2 → g1 7 k = l3) ∧ (¬ ((¬ v1 = 0 ∧ l1 = 2) ∧ k = l2) → g1 7 k = g 7 k)) (c10 : ∀ k : Int, 0 ≤ k ∧ k < 8 → ((¬ v1 = 0 ∧ l1 = 3) ∧ k = l2 → g1 10 k = l3) ∧ (¬ ((¬ v1 = 0 ∧ l1 = 3) ∧ k = l2) → g1 10 k = g 10 k)) (c14 : (¬ v1 = 0 ∧ l1 = 0 → g1 2 14 = l3) ∧ (¬ (¬ v1 = 0 ∧ l1 = 0) → g1 2 14 = g 2 14))
    (m1 : ¬ v2 = 0 → zMt3 l1 l2 l3 g1 g2) (m2 : v2 = 0 → ∀ k : Int, g2 215 k = g1 215 k) (hs : ∀ (a : Nat) (i : Int), 214 ≤ a → g1 a i = g a i) (hm : ∀ (a : Nat) (i : Int), a ≤ 213 → g2 a i = g1 a i) (hr : ∀ (a : Nat) (i : Int), (a = 214 ∧ (i = 5 ∨ i = 43)) ∨ (216 ≤ a ∧ a ≤ 217) ∨ a = 221 ∨ a = 237 ∨ a = 238 ∨ a = 250 → g2 a i = g a i) (hf1 : ∀ (a : Nat) (i : Int), zFe1 a i ∨ zFs3 a i → g2 a i = g a i) : zFD g2 := by
  subst hv
  by_cases c : v2 = 0
  · have e := a2 c
    refine zFD_n R (fun a i h => ?_)
    by_cases q : a ≤ 213
    · rw [hm a i q, e]
    · by_cases q5 : a = 215 ∧ 0 ≤ i ∧ i < 264
      · obtain ⟨q5, q6⟩ := q5
        subst q5
        rw [m2 c i, hs 215 i (by decide)]
      · exact hr a i (by unfold zFe at h; omega)
  have hf : ∀ (a : Nat) (i : Int), (a = 2 ∧ (i = 11 ∨ i = 15 ∨ i = 16 ∨ i = 17 ∨ i = 18 ∨ i = 19)) ∨ a = 6 ∨ (8 ≤ a ∧ a ≤ 9) ∨ (11 ≤ a ∧ a ≤ 13) → g2 a i = g a i := fun a i q => hf1 a i (Or.inr q)
  have z : zPs (g 2 8) (g 2 11) l1 l2 l3 := Classical.byContradiction (fun n => c (o n))
  unfold zPs at z
  have m := m1 c
  have u : ∀ k : Int, 0 ≤ k → k < 264 → ¬ (l1 = 0 ∧ k = 3) ∧ ¬ (l1 = 2 ∧ k = 16 + l2) ∧ ¬ (l1 = 3 ∧ k = 236 + l2) → g2 215 k = g 215 k := fun k _ _ n => by rw [(m k).2.2.2 n, hs 215 k (by decide)]
  obtain ⟨y0, y1, y2, y3, y4, y5, y6, y7, y8, y9, y10, y11, y12, y13⟩ := zFA_out R.1
  clear m1 m2 o a2
  refine zFD_c R ?_ (zFring_0 (by rw [hm 91 1 (by decide)]; exact a1 c)) (fun a i h => hf1 a i (Or.inl h))
  rw [hf 2 11 (by omega)]
  exact ⟨by rw [hf 2 17 (by omega), u 0 (by decide) (by decide) (by omega)]; exact y0,
    by rw [hf 2 18 (by omega), u 1 (by decide) (by decide) (by omega)]; exact y1,
    by rw [hf 2 19 (by omega), u 2 (by decide) (by decide) (by omega)]; exact y2,
    by
      rw [hm 2 14 (by decide)]
      by_cases q : l1 = 0
      · rw [c14.1 ⟨c, q⟩, (m 3).1 ⟨q, rfl⟩]
      · rw [c14.2 (fun w => q w.2), u 3 (by decide) (by decide) (by omega)]; exact y3,
    by rw [hf 2 15 (by omega), u 4 (by decide) (by decide) (by omega)]; exact y4,
    by rw [hf 2 16 (by omega), u 5 (by decide) (by decide) (by omega)]; exact y5,
    fun i i0 i1 => by rw [hf 6 i (by omega), u (6 + i) (by omega) (by omega) (by omega)]; exact y6 i i0 i1,
    fun i i0 i1 => by
      rw [hm 7 i (by decide)]
      by_cases q : l1 = 2 ∧ i = l2
      · rw [(c7 i ⟨i0, i1⟩).1 ⟨⟨c, q.1⟩, q.2⟩, (m (16 + i)).2.1 ⟨q.1, by omega⟩]
      · rw [(c7 i ⟨i0, i1⟩).2 (fun w => q ⟨w.1.2, w.2⟩), u (16 + i) (by omega) (by omega) (by omega)]; exact y7 i i0 i1,
    fun i i0 i1 => by rw [hf 8 i (by omega), u (26 + i) (by omega) (by omega) (by omega)]; exact y8 i i0 i1,
    fun i i0 i1 => by rw [hf 9 i (by omega), u (36 + i) (by omega) (by omega) (by omega)]; exact y9 i i0 i1,
    fun i i0 i1 => by
      rw [hm 10 i (by decide)]
      by_cases q : l1 = 3 ∧ i = l2
      · rw [(c10 i ⟨i0, i1⟩).1 ⟨⟨c, q.1⟩, q.2⟩, (m (236 + i)).2.2.1 ⟨q.1, by omega⟩]
      · rw [(c10 i ⟨i0, i1⟩).2 (fun w => q ⟨w.1.2, w.2⟩), u (236 + i) (by omega) (by omega) (by omega)]; exact y10 i i0 i1,
    fun i i0 i1 i2 => by rw [hf 11 i (by omega), u (244 + i) (by omega) (by omega) (by omega)]; exact y11 i i0 i1 i2,
    fun i i0 i1 => by rw [hf 12 i (by omega), u (252 + i) (by omega) (by omega) (by omega)]; exact y12 i i0 i1,
    fun i i0 i1 => by rw [hf 13 i (by omega), u (258 + i) (by omega) (by omega) (by omega)]; exact y13 i i0 i1⟩
end
