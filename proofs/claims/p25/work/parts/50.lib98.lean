-- ANSWERS: jar, book, look, of, state
section
variable {g g1 : zi_M}
theorem zSt_m {x : Int} {a : Nat} {i : Int} (e : g1 = zi_u g 214 0 x) (h : ¬ (a = 214 ∧ i = 0)) : g1 a i = g a i := by
  rw [e]
  unfold zi_u
  rw [if_neg h]
noncomputable def zJm (g : zi_M) (l1 l2 v : Int) : Prop := (0 ≤ l1 ∧ l1 < 6 → (l2 = 0 → v = g 215 (252 + l1) - 1) ∧ (l2 = 1 → v = g 215 (258 + l1))) ∧ (¬ (0 ≤ l1 ∧ l1 < 6) ∨ (¬ l2 = 0 ∧ ¬ l2 = 1) → v = -2)
theorem zJm_a {l1 l2 x : Int} (e : g1 = zi_u g 214 0 x) (h : l2 = 0) (b : 0 ≤ l1 ∧ l1 < 6) : zJm g l1 l2 (g1 215 (252 + l1) - 1) := by
  rw [e, zi_u_ne (by decide)]
  exact ⟨fun _ => ⟨fun _ => rfl, fun q => by omega⟩, fun q => by omega⟩
theorem zJm_c {l1 l2 x : Int} (e : g1 = zi_u g 214 0 x) (h : l2 = 1) (b : 0 ≤ l1 ∧ l1 < 6) : zJm g l1 l2 (g1 215 (258 + l1)) := by
  rw [e, zi_u_ne (by decide)]
  exact ⟨fun _ => ⟨fun q => by omega, fun _ => rfl⟩, fun q => by omega⟩
theorem zJm_n {l1 l2 : Int} (h : ¬ (0 ≤ l1 ∧ l1 < 6) ∨ (¬ l2 = 0 ∧ ¬ l2 = 1)) : zJm g l1 l2 (-2) := ⟨fun b => ⟨fun q => by omega, fun q => by omega⟩, fun _ => rfl⟩
theorem zJa_r {l1 l2 v : Int} (I : zk_I g) (a1 : l1 < 0 → v = (-2)) (a2 : 0 ≤ l1 → l1 < 6 → (l2 = 0) → v = g 12 l1) (a3 : 0 ≤ l1 → l1 < 6 → (l2 = 1) → v = g 13 l1) (a4 : 0 ≤ l1 → l1 < 6 → ¬ l2 = 0 → ¬ l2 = 1 → v = (-2)) (a5 : 0 ≤ l1 → 6 ≤ l1 → v = (-2)) : zi_r v := by
  by_cases h1 : l1 < 0
  · rw [a1 h1]; exact ⟨by decide, by decide⟩
  by_cases h2 : 6 ≤ l1
  · rw [a5 (by omega) h2]; exact ⟨by decide, by decide⟩
  by_cases h3 : l2 = 0
  · rw [a2 (by omega) (by omega) h3]; exact zk_rng I _ _
  by_cases h4 : l2 = 1
  · rw [a3 (by omega) (by omega) h4]; exact zk_rng I _ _
  · rw [a4 (by omega) (by omega) h3 h4]; exact ⟨by decide, by decide⟩
theorem zJa_eq {l1 l2 v1 v2 : Int} (R : zFD g) (a1 : l1 < 0 → v1 = (-2)) (a2 : 0 ≤ l1 → l1 < 6 → (l2 = 0) → v1 = g 12 l1) (a3 : 0 ≤ l1 → l1 < 6 → (l2 = 1) → v1 = g 13 l1) (a4 : 0 ≤ l1 → l1 < 6 → ¬ l2 = 0 → ¬ l2 = 1 → v1 = (-2)) (a5 : 0 ≤ l1 → 6 ≤ l1 → v1 = (-2)) (b : zJm g l1 l2 v2) : v2 = v1 := by
  obtain ⟨b1, b2⟩ := b
  obtain ⟨-, -, -, -, -, -, -, -, -, -, -, -, y12, y13⟩ := zFA_out R.1
  by_cases h1 : l1 < 0
  · rw [a1 h1, b2 (Or.inl (by omega))]
  by_cases h2 : 6 ≤ l1
  · rw [a5 (by omega) h2, b2 (Or.inl (by omega))]
  by_cases h3 : l2 = 0
  · have e := y12 l1 (by omega) (by omega)
    rw [a2 (by omega) (by omega) h3, (b1 ⟨by omega, by omega⟩).1 h3]
    omega
  by_cases h4 : l2 = 1
  · rw [a3 (by omega) (by omega) h4, (b1 ⟨by omega, by omega⟩).2 h4, y13 l1 (by omega) (by omega)]
  · rw [a4 (by omega) (by omega) h3 h4, b2 (Or.inr ⟨h3, h4⟩)]
-- the book
noncomputable def zBm (g : zi_M) (l1 l2 v : Int) : Prop := (0 ≤ l1 ∧ l1 < g 215 2 ∧ 0 ≤ l2 ∧ l2 ≤ 3 → v = g 221 ((4 * l1) + l2)) ∧ (¬ (0 ≤ l1 ∧ l1 < g 215 2 ∧ 0 ≤ l2 ∧ l2 ≤ 3) → v = -1)
theorem zBm_y {l1 l2 x : Int} (e : g1 = zi_u g 214 0 x) (h : 0 ≤ l1 ∧ l1 < g1 215 2 ∧ 0 ≤ l2 ∧ l2 ≤ 3) : zBm g l1 l2 (g1 221 ((4 * l1) + l2)) := by
  rw [e, zi_u_ne (by decide)] at h
  rw [e, zi_u_ne (by decide)]
  exact ⟨fun _ => rfl, fun q => absurd h q⟩
theorem zBm_n {l1 l2 x : Int} (e : g1 = zi_u g 214 0 x) (h : ¬ (0 ≤ l1 ∧ l1 < g1 215 2 ∧ 0 ≤ l2 ∧ l2 ≤ 3)) : zBm g l1 l2 (-1) := by
  rw [e, zi_u_ne (by decide)] at h
  exact ⟨fun q => absurd q h, fun _ => rfl⟩
theorem zBo_r {l1 l2 v : Int} (I : zk_I g) (a1 : l1 < 0 → v = (-1)) (a2 : 0 ≤ l1 → (g 2 19) ≤ l1 → v = (-1)) (a3 : 0 ≤ l1 → l1 < (g 2 19) → l1 < 150 → (l2 = 0) → v = g 15 l1) (a4 : 0 ≤ l1 → l1 < (g 2 19) → l1 < 150 → (l2 = 1) → v = g 16 l1) (a5 : 0 ≤ l1 → l1 < (g 2 19) → l1 < 150 → (l2 = 2) → v = g 17 l1) (a6 : 0 ≤ l1 → l1 < (g 2 19) → l1 < 150 → (l2 = 3) → v = g 18 l1) (a7 : 0 ≤ l1 → l1 < (g 2 19) → l1 < 150 → ¬ l2 = 0 → ¬ l2 = 1 → ¬ l2 = 2 → ¬ l2 = 3 → v = (-1)) (a8 : 0 ≤ l1 → l1 < (g 2 19) → 150 ≤ l1 → v = (-1)) : zi_r v := by
  have n1 : zi_r (-1) := ⟨by decide, by decide⟩
  by_cases h1 : l1 < 0
  · rw [a1 h1]; exact n1
  by_cases h2 : g 2 19 ≤ l1
  · rw [a2 (by omega) h2]; exact n1
  by_cases h3 : 150 ≤ l1
  · rw [a8 (by omega) (by omega) h3]; exact n1
  by_cases k0 : l2 = 0
  · rw [a3 (by omega) (by omega) (by omega) k0]; exact zk_rng I _ _
  by_cases k1 : l2 = 1
  · rw [a4 (by omega) (by omega) (by omega) k1]; exact zk_rng I _ _
  by_cases k2 : l2 = 2
  · rw [a5 (by omega) (by omega) (by omega) k2]; exact zk_rng I _ _
  by_cases k3 : l2 = 3
  · rw [a6 (by omega) (by omega) (by omega) k3]; exact zk_rng I _ _
  · rw [a7 (by omega) (by omega) (by omega) k0 k1 k2 k3]; exact n1
theorem zBo_eq {l1 l2 v1 v2 : Int} (I : zk_I g) (R : zFD g) (a1 : l1 < 0 → v1 = (-1)) (a2 : 0 ≤ l1 → (g 2 19) ≤ l1 → v1 = (-1)) (a3 : 0 ≤ l1 → l1 < (g 2 19) → l1 < 150 → (l2 = 0) → v1 = g 15 l1) (a4 : 0 ≤ l1 → l1 < (g 2 19) → l1 < 150 → (l2 = 1) → v1 = g 16 l1) (a5 : 0 ≤ l1 → l1 < (g 2 19) → l1 < 150 → (l2 = 2) → v1 = g 17 l1) (a6 : 0 ≤ l1 → l1 < (g 2 19) → l1 < 150 → (l2 = 3) → v1 = g 18 l1) (a7 : 0 ≤ l1 → l1 < (g 2 19) → l1 < 150 → ¬ l2 = 0 → ¬ l2 = 1 → ¬ l2 = 2 → ¬ l2 = 3 → v1 = (-1)) (a8 : 0 ≤ l1 → l1 < (g 2 19) → 150 ≤ l1 → v1 = (-1)) (b : zBm g l1 l2 v2) : v2 = v1 := by
  obtain ⟨b1, b2⟩ := b
  have y2 := (zFA_out R.1).2.2.1
  have b19 : (0 : Int) ≤ g 2 19 ∧ g 2 19 ≤ 150 := I.1 2 19
  rw [← y2] at b1 b2
  by_cases h1 : l1 < 0
  · rw [a1 h1, b2 (by omega)]
  by_cases h2 : g 2 19 ≤ l1
  · rw [a2 (by omega) h2, b2 (by omega)]
  obtain ⟨d1, d2, d3, d4⟩ := zFbk R.1 (n := l1) (by omega) (by omega)
  by_cases k0 : l2 = 0
  · rw [a3 (by omega) (by omega) (by omega) k0, b1 (by omega), d1, k0, Int.add_zero]
  by_cases k1 : l2 = 1
  · rw [a4 (by omega) (by omega) (by omega) k1, b1 (by omega), d2, k1]
  by_cases k2 : l2 = 2
  · rw [a5 (by omega) (by omega) (by omega) k2, b1 (by omega), d3, k2]
  by_cases k3 : l2 = 3
  · rw [a6 (by omega) (by omega) (by omega) k3, b1 (by omega), d4, k3]
  · rw [a7 (by omega) (by omega) (by omega) k0 k1 k2 k3, b2 (by omega)]
-- look
noncomputable def zLoS (g : zi_M) (l v : Int) : Prop := (l = 0 → v = g 2 8) ∧ (l = 1 → v = g 2 11) ∧ (l = 2 → v = g 2 14) ∧ (l = 3 → v = g 2 15) ∧ (l = 4 → v = g 2 16) ∧ (l = 5 → v = g 2 17) ∧ (l = 6 → v = g 2 19) ∧ (l = 7 → v = g 2 18) ∧ (l = 8 → v = g 20 7) ∧ (l = 9 → v = g 19 2) ∧ (l = 10 → v = g 19 5) ∧ (l = 11 → v = g 19 10) ∧ (l = 12 → v = g 91 1) ∧ (l < 0 ∨ 12 < l → v = -1)
noncomputable def zLoM (g : zi_M) (l v : Int) : Prop := (l = 0 → v = g 214 6) ∧ (l = 1 → v = g 214 7) ∧ (l = 2 → v = g 215 3) ∧ (l = 3 → v = g 215 4) ∧ (l = 4 → v = g 215 5) ∧ (l = 5 → v = g 215 0) ∧ (l = 6 → v = g 215 2) ∧ (l = 7 → v = g 215 1) ∧ (l = 8 → v = g 224 0) ∧ (l = 9 → v = g 214 35) ∧ (l = 10 → v = g 214 37) ∧ (l = 11 → v = g 214 39) ∧ (l = 12 → v = g 214 3) ∧ (l < 0 ∨ 12 < l → v = -1)
theorem zLoM_c {l v x : Int} (e : g1 = zi_u g 214 0 x) (h : zLoM g1 l v) : zLoM g l v := by
  obtain ⟨h0, h1, h2, h3, h4, h5, h6, h7, h8, h9, h10, h11, h12, h13⟩ := h
  exact ⟨fun q => (h0 q).trans (zSt_m e (by decide)), fun q => (h1 q).trans (zSt_m e (by decide)), fun q => (h2 q).trans (zSt_m e (by decide)), fun q => (h3 q).trans (zSt_m e (by decide)), fun q => (h4 q).trans (zSt_m e (by decide)), fun q => (h5 q).trans (zSt_m e (by decide)), fun q => (h6 q).trans (zSt_m e (by decide)), fun q => (h7 q).trans (zSt_m e (by decide)), fun q => (h8 q).trans (zSt_m e (by decide)), fun q => (h9 q).trans (zSt_m e (by decide)), fun q => (h10 q).trans (zSt_m e (by decide)), fun q => (h11 q).trans (zSt_m e (by decide)), fun q => (h12 q).trans (zSt_m e (by decide)), h13⟩
theorem zLW_l (lw : zLW g) : g 20 7 = g 224 0 := by
  obtain ⟨Ls, -, ⟨-, c2⟩, r1, -⟩ := lw
  rw [← c2, ← r1]
theorem zLo_eq {l v1 v2 : Int} (R : zFD g) (B : zBD g) (w : zXw g) (gu : zXg g) (lw : zLW g) (sp : g 2 8 = g 214 6) (si : g 2 11 = g 214 7) (a : zLoS g l v1) (b : zLoM g l v2) : v2 = v1 := by
  obtain ⟨a0, a1, a2, a3, a4, a5, a6, a7, a8, a9, a10, a11, a12, a13⟩ := a
  obtain ⟨b0, b1, b2, b3, b4, b5, b6, b7, b8, b9, b10, b11, b12, b13⟩ := b
  obtain ⟨y17, y18, y19, y14, y15, y16, -⟩ := zFA_out R.1
  by_cases n : l < 0 ∨ 12 < l
  · rw [a13 n, b13 n]
  rcases (show l = 0 ∨ l = 1 ∨ l = 2 ∨ l = 3 ∨ l = 4 ∨ l = 5 ∨ l = 6 ∨ l = 7 ∨ l = 8 ∨ l = 9 ∨ l = 10 ∨ l = 11 ∨ l = 12 by omega) with e | e | e | e | e | e | e | e | e | e | e | e | e
  · rw [a0 e, b0 e, sp]
  · rw [a1 e, b1 e, si]
  · rw [a2 e, b2 e, y14]
  · rw [a3 e, b3 e, y15]
  · rw [a4 e, b4 e, y16]
  · rw [a5 e, b5 e, y17]
  · rw [a6 e, b6 e, y19]
  · rw [a7 e, b7 e, y18]
  · rw [a8 e, b8 e, zLW_l lw]
  · rw [a9 e, b9 e, gu.1]
  · rw [a10 e, b10 e, w.1]
  · rw [a11 e, b11 e, B.2.2.1.1]
  · rw [a12 e, b12 e, B.2.1.1]
-- of
noncomputable def zOfS (g : zi_M) (l1 l2 v : Int) : Prop := (¬ (0 ≤ l1 ∧ l1 < g 2 8) → v = -2) ∧ (0 ≤ l1 ∧ l1 < g 2 8 → (l2 = 0 → v = g 3 l1) ∧ (l2 = 1 → v = g 4 l1) ∧ (l2 = 2 → v = g 5 l1) ∧ (l2 = 3 → v = g 6 l1) ∧ (l2 = 4 → v = g 8 l1) ∧ (l2 = 5 → v = g 7 l1) ∧ (l2 = 6 → v = g 29 l1) ∧ (l2 = 7 → ∀ T : Int, v = zLc g 2 0 l1 0 (zVC T 2 g)) ∧ (l2 = 8 → ∀ T : Int, v = zLc g 2 1 l1 0 (zVC T 2 g)) ∧
  (20 ≤ l2 ∧ l2 < 40 ∧ l2 - 20 < g 8 l1 → v = g (2 + 7) ((l1 * 20) + (l2 - 20))) ∧ (40 ≤ l2 ∧ l2 < 56 → ∀ T : Int, v = zLc g 2 2 l1 (l2 - 40) (zVC T 2 g)) ∧ (l2 < 0 ∨ (8 < l2 ∧ l2 < 20) ∨ (20 ≤ l2 ∧ l2 < 40 ∧ g 8 l1 ≤ l2 - 20) ∨ 56 ≤ l2 → v = -2))
theorem zOfS_e {g0 : zi_M} {l1 l2 v : Int} (e : g = g0) (h : zOfS g l1 l2 v) : zOfS g0 l1 l2 v := by rw [← e]; exact h
noncomputable def zOfM (g : zi_M) (l1 l2 v : Int) : Prop := (¬ (0 ≤ l1 ∧ l1 < g 214 6) → v = -2) ∧ (0 ≤ l1 ∧ l1 < g 214 6 → (l2 = 0 → v = g 218 l1) ∧ (l2 = 1 → v = g 219 l1) ∧ (l2 = 2 → v = g 220 l1) ∧ (l2 = 3 → v = g 215 (6 + l1)) ∧ (l2 = 4 → v = g 215 (26 + l1)) ∧ (l2 = 5 → v = g 215 (16 + l1)) ∧ (l2 = 6 → v = (g 232 l1) - 1) ∧ (l2 = 7 → zLk g → ∀ T : Int, v = zLm g 0 l1 0 (zVM T g)) ∧ (l2 = 8 → zLk g → ∀ T : Int, v = zLm g 1 l1 0 (zVM T g)) ∧
  (20 ≤ l2 ∧ l2 ≤ 19 + g 215 (26 + l1) → v = g 215 ((36 + (20 * l1)) + (l2 - 20))) ∧ (40 ≤ l2 ∧ l2 ≤ 55 ∧ 19 + g 215 (26 + l1) < l2 → zLk g → ∀ T : Int, v = zLm g 2 l1 (l2 - 40) (zVM T g)) ∧ (l2 < 0 ∨ (8 < l2 ∧ l2 < 20) ∨ (20 ≤ l2 ∧ l2 < 40 ∧ 19 + g 215 (26 + l1) < l2) ∨ (55 < l2 ∧ 19 + g 215 (26 + l1) < l2) → v = -2))
theorem zOfM_c {l1 l2 v : Int} (r : ∀ (a : Nat) (i : Int), 214 ≤ a → ¬ (a = 214 ∧ i = 0) → g1 a i = g a i) (h : zOfM g1 l1 l2 v) : zOfM g l1 l2 v := by
  have q : ∀ a : Nat, 215 ≤ a → g1 a = g a := fun a h => funext fun i => r a i (by omega) (by omega)
  have lm : zLm g1 = zLm g := zLm_c (r 224 0 (by omega) (by omega)) (fun a i h => r a i (by omega) (by omega))
  have lk : zLk g → zLk g1 := fun k => zLk_c k (r 224 0 (by omega) (by omega)) (fun a i h => r a i (by omega) (by omega))
  have vm : ∀ T : Int, zVM T g1 = zVM T g := fun T => zVM_c (fun a i h => r a i (by omega) (by omega))
  obtain ⟨h1, h2⟩ := h
  rw [r 214 6 (by decide) (by decide)] at h1 h2
  refine ⟨h1, fun b => ?_⟩
  have h3 := h2 b
  rw [q 215 (by decide), q 218 (by decide), q 219 (by decide), q 220 (by decide), q 232 (by decide), lm] at h3
  obtain ⟨c0, c1, c2, c3, c4, c5, c6, c7, c8, c9, c10, c11⟩ := h3
  exact ⟨c0, c1, c2, c3, c4, c5, c6, fun e k T => by rw [← vm T]; exact c7 e (lk k) T, fun e k T => by rw [← vm T]; exact c8 e (lk k) T, c9, fun e k T => by rw [← vm T]; exact c10 e (lk k) T, c11⟩
theorem zOfM_e {l1 l2 v x : Int} (e : g1 = zi_u g 214 0 x) (h : zOfM g1 l1 l2 v) : zOfM g l1 l2 v := zOfM_c (fun a i _ n => zSt_m e n) h
theorem zOf_eq {l1 l2 v1 v2 : Int} (I : zk_I g) (R : zFD g) (gu : zXg g) (lw : zLW g) (L3 : zRA 3 218 0 10 (fun _ => 0) g) (L4 : zRA 4 219 0 10 (fun _ => 0) g) (L5 : zRA 5 220 0 10 (fun _ => 0) g) (sp : g 2 8 = g 214 6) (a : zOfS g l1 l2 v1) (b : zOfM g1 l1 l2 v2) (hs : ∀ (a : Nat) (i : Int), 214 ≤ a → g1 a i = g a i) : v2 = v1 := by
  have b' := zOfM_c (fun a i h _ => hs a i h) b
  clear b
  obtain ⟨a1, a2⟩ := a
  obtain ⟨b1, b2⟩ := b'
  rw [← sp] at b1 b2
  have b8 : (0 : Int) ≤ g 2 8 ∧ g 2 8 ≤ 10 := I.1 2 8
  have lk := zLk_I I
  by_cases c : 0 ≤ l1 ∧ l1 < g 2 8
  · obtain ⟨x0, x1, x2, x3, x4, x5, x6, x7, x8, x9, x10, x11⟩ := a2 c
    obtain ⟨z0, z1, z2, z3, z4, z5, z6, z7, z8, z9, z10, z11⟩ := b2 c
    clear a1 a2 b1 b2
    obtain ⟨-, -, -, -, -, -, y6, y7, y8, y9, -⟩ := zFA_out R.1
    have hc : (0 : Int) ≤ g 8 l1 ∧ g 8 l1 ≤ 20 := I.1 8 l1
    have e8 := y8 l1 c.1 (by omega)
    have w3 := zRA_0 L3 c.1 (by omega)
    have w4 := zRA_0 L4 c.1 (by omega)
    have w5 := zRA_0 L5 c.1 (by omega)
    rw [← e8] at z4 z9 z10 z11
    by_cases k0 : l2 = 0
    · rw [x0 k0, z0 k0, w3]
    by_cases k1 : l2 = 1
    · rw [x1 k1, z1 k1, w4]
    by_cases k2 : l2 = 2
    · rw [x2 k2, z2 k2, w5]
    by_cases k3 : l2 = 3
    · rw [x3 k3, z3 k3, y6 l1 c.1 (by omega)]
    by_cases k4 : l2 = 4
    · rw [x4 k4, z4 k4]
    by_cases k5 : l2 = 5
    · rw [x5 k5, z5 k5, y7 l1 c.1 (by omega)]
    by_cases k6 : l2 = 6
    · rw [x6 k6, z6 k6, gu.2 l1 c.1 (by omega)]
    by_cases k7 : l2 = 7
    · rw [x7 k7 (g 2 11), z7 k7 lk (g 2 11), R.1]
      exact (zLcm_eq I lw w3 w4 w5).symm
    by_cases k8 : l2 = 8
    · rw [x8 k8 (g 2 11), z8 k8 lk (g 2 11), R.1]
      exact (zLcm_eq I lw w3 w4 w5).symm
    by_cases k9 : 20 ≤ l2 ∧ l2 < 40 ∧ l2 - 20 < g 8 l1
    · have e := y9 ((l1 * 20) + (l2 - 20)) (by omega) (by omega)
      rw [x9 k9, z9 (by omega), show (36 + (20 * l1)) + (l2 - 20) = 36 + ((l1 * 20) + (l2 - 20)) by omega]
      exact e.symm
    by_cases k10 : 40 ≤ l2 ∧ l2 < 56
    · rw [x10 k10 (g 2 11), z10 (by omega) lk (g 2 11), R.1]
      exact (zLcm_eq I lw w3 w4 w5).symm
    · rw [x11 (by omega), z11 (by omega)]
  · rw [a1 c, b1 c]
end
