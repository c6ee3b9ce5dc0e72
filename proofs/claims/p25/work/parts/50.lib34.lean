-- TEXTS, class against reference
noncomputable def zyTx (r0 r1 : Nat) (g g' : zi_M) : Prop := zyTg r0 r1 g g' ∧ zyTw r0 r1 g g' ∧ zyTp r0 r1 g g'
theorem zyTg_q {r0 r1 : Nat} {g h g' k : zi_M} (t : zyTg r0 r1 h g') (e2 : h r1 2 = g r1 2) (e10 : ∀ i : Int, h (r1 + 10) i = g (r1 + 10) i) (f2 : k r0 2 = g' r0 2) (f10 : ∀ i : Int, k (r0 + 10) i = g' (r0 + 10) i) : zyTg r0 r1 g k := ⟨by rw [f2, t.1, e2], fun i i0 i1 => by rw [f10, t.2 i i0 i1, e10]⟩
theorem zyTw_q {r0 r1 : Nat} {g h g' k : zi_M} (t : zyTw r0 r1 h g') (e5 : h r1 5 = g r1 5) (e11 : ∀ i : Int, h (r1 + 11) i = g (r1 + 11) i) (e12 : ∀ i : Int, h (r1 + 12) i = g (r1 + 12) i) (f5 : k r0 5 = g' r0 5) (f11 : ∀ i : Int, k (r0 + 11) i = g' (r0 + 11) i) (f12 : ∀ i : Int, k (r0 + 12) i = g' (r0 + 12) i) : zyTw r0 r1 g k := ⟨by rw [f5, t.1, e5], fun i i0 i1 => by rw [f11, t.2.1 i i0 i1, e11], fun i i0 i1 => by rw [f12, t.2.2 i i0 i1, e12]⟩
theorem zyTp_q {r0 r1 : Nat} {g h g' k : zi_M} (t : zyTp r0 r1 h g') (e10 : h r1 10 = g r1 10) (e : ∀ (a : Nat) (i : Int), r1 + 13 ≤ a → a ≤ r1 + 16 → h a i = g a i) (f10 : k r0 10 = g' r0 10) (f : ∀ (a : Nat) (i : Int), r0 + 13 ≤ a → a ≤ r0 + 16 → k a i = g' a i) : zyTp r0 r1 g k := ⟨by rw [f10, t.1, e10], fun i i0 i1 => by rw [f _ _ (by omega) (by omega), t.2.1 i i0 i1, e _ _ (by omega) (by omega)], fun i i0 i1 => by rw [f _ _ (by omega) (by omega), t.2.2.1 i i0 i1, e _ _ (by omega) (by omega)], fun i i0 i1 => by rw [f _ _ (by omega) (by omega), t.2.2.2.1 i i0 i1, e _ _ (by omega) (by omega)], fun i i0 i1 => by rw [f _ _ (by omega) (by omega), t.2.2.2.2 i i0 i1, e _ _ (by omega) (by omega)]⟩
theorem zyTx_q {r0 r1 : Nat} {g h g' k : zi_M} (t : zyTx r0 r1 h g') (e : ∀ (a : Nat) (i : Int), r1 ≤ a → a ≤ r1 + 16 → h a i = g a i) (f : ∀ (a : Nat) (i : Int), r0 ≤ a → a ≤ r0 + 16 → k a i = g' a i) : zyTx r0 r1 g k := ⟨zyTg_q t.1 (e _ _ (by omega) (by omega)) (fun i => e _ _ (by omega) (by omega)) (f _ _ (by omega) (by omega)) (fun i => f _ _ (by omega) (by omega)), zyTw_q t.2.1 (e _ _ (by omega) (by omega)) (fun i => e _ _ (by omega) (by omega)) (fun i => e _ _ (by omega) (by omega)) (f _ _ (by omega) (by omega)) (fun i => f _ _ (by omega) (by omega)) (fun i => f _ _ (by omega) (by omega)), zyTp_q t.2.2 (e _ _ (by omega) (by omega)) (fun a i h1 h2 => e _ _ (by omega) (by omega)) (f _ _ (by omega) (by omega)) (fun a i h1 h2 => f _ _ (by omega) (by omega))⟩
theorem zyTx_all {r0 r1 : Nat} {g h1 h2 h3 h4 : zi_M} (hr0 : zs_sh r0 = some (6, 11)) (hr1 : zs_sh r1 = some (6, 11)) (F1 : zk_fr (fr_Law_copyFrom (r0 + 1) (r1 + 1)) g h1) (F2 : zk_fr (fr_Texts_copyGutters r0 r1) h1 h2) (F3 : zk_fr (fr_Texts_copyWeather r0 r1) h2 h3) (F4 : zk_fr (fr_Texts_copyPlan r0 r1) h3 h4) (G : zyTg r0 r1 h1 h2) (W : zyTw r0 r1 h2 h3) (P : zyTp r0 r1 h3 h4) : zyTx r0 r1 g h4 := by
  have q0 := zs_txtI hr0
  have q1 := zs_txtI hr1
  clear hr0 hr1
  have k1 : ∀ (a : Nat) (i : Int), (a = r1 ∨ (r1 + 10 ≤ a ∧ a ≤ r1 + 16)) → h1 a i = g a i := fun a i h => F1 a i (fun q => by unfold fr_Law_copyFrom at q; omega)
  have k2 : ∀ (a : Nat) (i : Int), ((a = r1 ∧ ¬ i = 2) ∨ (r1 + 11 ≤ a ∧ a ≤ r1 + 16)) → h2 a i = h1 a i := fun a i h => F2 a i (fun q => by unfold fr_Texts_copyGutters at q; omega)
  have k3 : ∀ (a : Nat) (i : Int), ((a = r1 ∧ ¬ i = 5) ∨ (r1 + 13 ≤ a ∧ a ≤ r1 + 16)) → h3 a i = h2 a i := fun a i h => F3 a i (fun q => by unfold fr_Texts_copyWeather at q; omega)
  have m3 : ∀ (a : Nat) (i : Int), ((a = r0 ∧ ¬ i = 5) ∨ a = r0 + 10) → h3 a i = h2 a i := fun a i h => F3 a i (fun q => by unfold fr_Texts_copyWeather at q; omega)
  have m4 : ∀ (a : Nat) (i : Int), ((a = r0 ∧ ¬ i = 10) ∨ (r0 + 10 ≤ a ∧ a ≤ r0 + 12)) → h4 a i = h3 a i := fun a i h => F4 a i (fun q => by unfold fr_Texts_copyPlan at q; omega)
  clear F1 F2 F3 F4 q0 q1
  refine ⟨zyTg_q G ?_ ?_ ?_ ?_, zyTw_q W ?_ ?_ ?_ ?_ ?_ ?_, zyTp_q P ?_ ?_ rfl (fun _ _ _ _ => rfl)⟩
  · exact k1 _ _ (Or.inl rfl)
  · exact fun i => k1 _ _ (by omega)
  · rw [m4 _ _ (Or.inl ⟨rfl, by decide⟩), m3 _ _ (Or.inl ⟨rfl, by decide⟩)]
  · exact fun i => by rw [m4 _ _ (by omega), m3 _ _ (by omega)]
  · rw [k2 _ _ (Or.inl ⟨rfl, by decide⟩), k1 _ _ (Or.inl rfl)]
  · exact fun i => by rw [k2 _ _ (by omega), k1 _ _ (by omega)]
  · exact fun i => by rw [k2 _ _ (by omega), k1 _ _ (by omega)]
  · exact m4 _ _ (Or.inl ⟨rfl, by decide⟩)
  · exact fun i => m4 _ _ (by omega)
  · exact fun i => m4 _ _ (by omega)
  · rw [k3 _ _ (Or.inl ⟨rfl, by decide⟩), k2 _ _ (Or.inl ⟨rfl, by decide⟩), k1 _ _ (Or.inl rfl)]
  · exact fun a i h1 h2 => by rw [k3 _ _ (by omega), k2 _ _ (by omega), k1 _ _ (by omega)]
theorem zyTx_C {r0 r1 : Nat} {g g2 g5 g8 g11 : zi_M} (hr0 : zs_sh r0 = some (1, 4)) (hr1 : zs_sh r1 = some (1, 4)) (F2 : zk_fr (fr_World_copyFrom (r0 + 1) (r1 + 1)) g g2) (F5 : zk_fr (fr_Book_copyFrom (r0 + 13) (r1 + 13)) g2 g5) (T : zyTx (r0 + 18) (r1 + 18) g5 g8) (F11 : zk_fr (fr_Told_copyFrom (r0 + 35) (r1 + 35)) g8 g11) : zyTx (r0 + 18) (r1 + 18) g g11 := by
  have q0 := zs_cathI hr0
  have q1 := zs_cathI hr1
  clear hr0 hr1
  refine zyTx_q T (fun a i k1 k2 => ?_) (fun a i k1 k2 => ?_)
  · rw [F5 a i (fun q => by unfold fr_Book_copyFrom at q; clear F2 F5 F11 T; omega), F2 a i (fun q => by unfold fr_World_copyFrom at q; clear F2 F5 F11 T; omega)]
  · exact F11 a i (fun q => by unfold fr_Told_copyFrom at q; clear F2 F5 F11 T; omega)
noncomputable def zyTk (r : Nat) (g g' : zi_M) : Prop := ∀ (a : Nat) (i : Int), r ≤ a → a ≤ r + 16 → g' a i = g a i
theorem zyTs_t {g g4 g7 : zi_M} (F : zk_fr (fr_Cathedral_copyFrom 46 1) g g4) (T : zyTx (46 + 18) (1 + 18) g g4) (e : g7 = zi_u g4 0 2 1) : zyTx 64 19 g g7 ∧ zyTk 19 g g7 := by
  have u : ∀ (a : Nat) (i : Int), 19 ≤ a → g7 a i = g4 a i := fun a i h => by rw [e]; exact zi_u_ne (by omega)
  refine ⟨zyTx_q T (fun _ _ _ _ => rfl) (fun a i h1 h2 => u a i (by omega)), fun a i h1 h2 => ?_⟩
  rw [u a i (by omega)]
  exact F a i (fun q => by unfold fr_Cathedral_copyFrom at q; clear F T u e; omega)
theorem zyTs_r {g g4 g7 : zi_M} (F : zk_fr (fr_Cathedral_copyFrom 1 46) g g4) (T : zyTx (1 + 18) (46 + 18) g g4) (F2 : zk_fr fr_Past_forget g4 g7) : zyTx 19 64 g g7 ∧ zyTk 64 g g7 := by
  have u : ∀ (a : Nat) (i : Int), a ≤ 90 → g7 a i = g4 a i := fun a i h => F2 a i (fun q => by unfold fr_Past_forget at q; clear F T F2; omega)
  refine ⟨zyTx_q T (fun _ _ _ _ => rfl) (fun a i h1 h2 => u a i (by omega)), fun a i h1 h2 => ?_⟩
  rw [u a i (by omega)]
  exact F a i (fun q => by unfold fr_Cathedral_copyFrom at q; clear F T u F2; omega)
-- WEATHER, GUTTERS, alike in both, now and in the image
noncomputable def zXw (g : zi_M) : Prop := g 19 5 = g 214 37 ∧ ∀ m : Int, 0 ≤ m → m < g 19 5 → g 30 m = g 233 (2 * m) ∧ g 31 m = g 233 (2 * m + 1)
noncomputable def zXwk (g : zi_M) : Prop := g 64 5 = g 250 267 ∧ ∀ m : Int, 0 ≤ m → m < g 64 5 → g 75 m = g 250 (443 + 2 * m) ∧ g 76 m = g 250 (443 + (2 * m + 1))
noncomputable def zXg (g : zi_M) : Prop := g 19 2 = g 214 35 ∧ ∀ k : Int, 0 ≤ k → k < 10 → g 29 k = g 232 k - 1
noncomputable def zXgk (g : zi_M) : Prop := g 64 2 = g 250 266 ∧ ∀ k : Int, 0 ≤ k → k < 10 → g 74 k = g 250 (276 + 5 * k) - 1
theorem zXw_n {g g' : zi_M} (h : zXw g) (e1 : g' 19 5 = g 19 5) (e2 : g' 214 37 = g 214 37) (e3 : ∀ i : Int, g' 30 i = g 30 i) (e4 : ∀ i : Int, g' 31 i = g 31 i) (e5 : ∀ i : Int, i < 32 → g' 233 i = g 233 i) (b : g 19 5 ≤ 16) : zXw g' := ⟨by rw [e1, e2]; exact h.1, fun m m0 m1 => by
  rw [e1] at m1
  rw [e3, e4, e5 _ (by omega), e5 _ (by omega)]
  exact h.2 m m0 m1⟩
theorem zXwk_n {g g' : zi_M} (h : zXwk g) (e1 : g' 64 5 = g 64 5) (e3 : ∀ i : Int, g' 75 i = g 75 i) (e4 : ∀ i : Int, g' 76 i = g 76 i) (e5 : ∀ i : Int, g' 250 i = g 250 i) : zXwk g' := ⟨by rw [e1, e5]; exact h.1, fun m m0 m1 => by
  rw [e1] at m1
  rw [e3, e4, e5, e5]
  exact h.2 m m0 m1⟩
theorem zXg_n {g g' : zi_M} (h : zXg g) (e1 : g' 19 2 = g 19 2) (e2 : g' 214 35 = g 214 35) (e3 : ∀ i : Int, g' 29 i = g 29 i) (e5 : ∀ i : Int, i < 10 → g' 232 i = g 232 i) : zXg g' := ⟨by rw [e1, e2]; exact h.1, fun k k0 k1 => by
  rw [e3, e5 _ k1]
  exact h.2 k k0 k1⟩
theorem zXgk_n {g g' : zi_M} (h : zXgk g) (e1 : g' 64 2 = g 64 2) (e3 : ∀ i : Int, g' 74 i = g 74 i) (e5 : ∀ i : Int, g' 250 i = g 250 i) : zXgk g' := ⟨by rw [e1, e5]; exact h.1, fun k k0 k1 => by
  rw [e3, e5]
  exact h.2 k k0 k1⟩
theorem zXw_text {l v1 v2 : Int} {g g1 g2 : zi_M} (R : zXw g) (b16 : g 19 5 ≤ 16) (a : l = 2 → zySw g g1 v1) (b : ¬ l = 2 → zyUw g g1) (c : l = 2 → zyMw g1 g2 v2) (d : ¬ l = 2 → zyNw g1 g2) (e37 : g1 214 37 = g 214 37) (e233 : ∀ i : Int, g1 233 i = g 233 i) (f19 : g2 19 5 = g1 19 5) (f30 : ∀ i : Int, g2 30 i = g1 30 i) (f31 : ∀ i : Int, g2 31 i = g1 31 i) : zXw g2 := by
  by_cases h : l = 2
  · obtain ⟨s, s1, s2, s3⟩ := a h
    obtain ⟨t, t1, t2, t3⟩ := c h
    have e := zyI_u s1 t1
    subst e
    by_cases z : zyW (zyM g1) s = -1
    · obtain ⟨p1, p2, p3, -⟩ := s2 z
      obtain ⟨q1, q2, q3, -⟩ := t2 z
      have ev : v1 = v2 := by omega
      refine ⟨by rw [f19, q3, ← p1, ev], fun m m0 m1 => ?_⟩
      rw [f19, ← p1] at m1
      have u := p3 m m0 m1
      have w := q2 m m0 (by omega)
      rw [f30, f31, u.1, u.2, w.1, w.2]
      exact ⟨rfl, rfl⟩
    · obtain ⟨-, -, -, p4, p5, p6⟩ := s3 z
      obtain ⟨-, -, -, -, q5⟩ := t3 z
      exact zXw_n R (by rw [f19, p4]) (by rw [q5.1, e37]) (fun i => by rw [f30, p5]) (fun i => by rw [f31, p6]) (fun i hi => by rw [q5.2 i hi, e233]) b16
  · have p := b h
    have q := d h
    exact zXw_n R (by rw [f19, p.1]) (by rw [q.1, e37]) (fun i => by rw [f30, p.2.1]) (fun i => by rw [f31, p.2.2]) (fun i hi => by rw [q.2 i hi, e233]) b16
theorem zXg_text {l v1 v2 : Int} {g g1 g2 : zi_M} (R : zXg g) (sp : g 2 8 = g1 214 6) (a : l = 1 → zySg (g 2 8) g g1 v1) (b : ¬ l = 1 → zyUg g g1) (c : l = 1 → zyMg g1 g2 v2) (d : ¬ l = 1 → zyNg g1 g2) (e35 : g1 214 35 = g 214 35) (e232 : ∀ i : Int, g1 232 i = g 232 i) (f19 : g2 19 2 = g1 19 2) (f29 : ∀ i : Int, g2 29 i = g1 29 i) : zXg g2 := by
  by_cases h : l = 1
  · obtain ⟨-, s, s1, s2, s3⟩ := a h
    obtain ⟨t, t1, t2, t3⟩ := c h
    rw [← sp] at t1 t2 t3
    have e := zyI_u s1 t1
    subst e
    by_cases z : zyH (zyM g1) (g 2 8) s = -1
    · obtain ⟨p1, p2, p3, -⟩ := s2 z
      obtain ⟨q1, q2, q3, -⟩ := t2 z
      have ev : v1 = v2 := by omega
      subst ev
      refine ⟨by rw [f19, q3, ← p1], fun k k0 k1 => ?_⟩
      rw [f29, p3 k k0 k1, q2 k k0 k1]
      omega
    · obtain ⟨-, -, p4, p5⟩ := s3 z
      obtain ⟨-, -, -, q5⟩ := t3 z
      exact zXg_n R (by rw [f19, p4]) (by rw [q5.1, e35]) (fun i => by rw [f29, p5]) (fun i hi => by rw [q5.2 i hi, e232])
  · have p := b h
    have q := d h
    exact zXg_n R (by rw [f19, p.1]) (by rw [q.1, e35]) (fun i => by rw [f29, p.2]) (fun i hi => by rw [q.2 i hi, e232])
-- an image: taken, gone back to
theorem zXw_t {g g1 g2 : zi_M} (T : zyTx 64 19 g g1) (K : zyTk 19 g g1) (e37 : g1 214 37 = g 214 37) (e233 : ∀ i : Int, g1 233 i = g 233 i) (M : zimT g1 g2) (F2 : ∀ (a : Nat) (i : Int), 19 ≤ a → a ≤ 80 → g2 a i = g1 a i) (b : g 19 5 ≤ 16) (R : zXw g) : zXw g2 ∧ zXwk g2 := by
  have a233 : ∀ p : Nat, p < 32 → za (443 + (p : Int)) = 233 ∧ zb (443 + (p : Int)) = (p : Int) := by decide +kernel
  have im : ∀ p : Int, 0 ≤ p → p < 32 → g2 250 (443 + p) = g 233 p := fun p p0 p1 => by
    have h := a233 p.toNat (by omega)
    rw [show ((p.toNat : Nat) : Int) = p by omega] at h
    rw [M.1 (443 + p) (by omega) (by omega), h.1, h.2, e233]
  have i37 : g2 250 267 = g 214 37 := by
    rw [M.1 267 (by decide) (by decide), show za 267 = 214 by decide +kernel, show zb 267 = 37 by decide +kernel, e37]
  have n : zXw g2 := zXw_n R (by rw [F2 _ _ (by decide) (by decide), K _ _ (by decide) (by decide)]) (by rw [M.2.2 37 (by decide) (by decide) (by decide) (by decide), e37]) (fun i => by rw [F2 _ _ (by decide) (by decide), K _ _ (by decide) (by decide)]) (fun i => by rw [F2 _ _ (by decide) (by decide), K _ _ (by decide) (by decide)]) (fun i _ => by rw [M.2.1 233 i (by decide) (by decide), e233]) b
  refine ⟨n, ?_, fun m m0 m1 => ?_⟩
  · rw [F2 _ _ (by decide) (by decide), T.2.1.1, i37]
    exact R.1
  · rw [F2 _ _ (by decide) (by decide), T.2.1.1] at m1
    rw [F2 75 m (by decide) (by decide), F2 76 m (by decide) (by decide), T.2.1.2.1 m m0 (by omega), T.2.1.2.2 m m0 (by omega), im (2 * m) (by omega) (by omega), im (2 * m + 1) (by omega) (by omega)]
    exact R.2 m m0 m1
theorem zXw_r {g g1 g2 : zi_M} (T : zyTx 19 64 g g1) (K : zyTk 64 g g1) (e250 : ∀ i : Int, g1 250 i = g 250 i) (M : zimR g1 g2) (F2 : ∀ (a : Nat) (i : Int), 19 ≤ a → a ≤ 80 → g2 a i = g1 a i) (b : g 64 5 ≤ 16) (R : zXwk g) : zXw g2 ∧ zXwk g2 := by
  have a233 : ∀ p : Nat, p < 32 → zv 233 (p : Int) = 443 + (p : Int) := by decide +kernel
  have im : ∀ p : Int, 0 ≤ p → p < 32 → g2 233 p = g 250 (443 + p) := fun p p0 p1 => by
    have h := a233 p.toNat (by omega)
    rw [show ((p.toNat : Nat) : Int) = p by omega] at h
    rw [M.1 233 p (by omega), h, e250]
  have i37 : g2 214 37 = g 250 267 := by
    rw [M.1 214 37 (by decide +kernel), show zv 214 37 = 267 by decide +kernel, e250]
  have z250 : ∀ p : Nat, p < 2004 → zv 250 (p : Int) = -1 := by decide +kernel
  have m250 : ∀ p : Int, 0 ≤ p → p < 2004 → g2 250 p = g 250 p := fun p p0 p1 => by
    have h := z250 p.toNat (by omega)
    rw [show ((p.toNat : Nat) : Int) = p by omega] at h
    rw [M.2.1 250 p h (by decide), e250]
  refine ⟨⟨?_, fun m m0 m1 => ?_⟩, ?_, fun m m0 m1 => ?_⟩
  · rw [F2 _ _ (by decide) (by decide), T.2.1.1, i37]
    exact R.1
  · rw [F2 _ _ (by decide) (by decide), T.2.1.1] at m1
    rw [F2 30 m (by decide) (by decide), F2 31 m (by decide) (by decide), T.2.1.2.1 m m0 (by omega), T.2.1.2.2 m m0 (by omega), im (2 * m) (by omega) (by omega), im (2 * m + 1) (by omega) (by omega)]
    exact R.2 m m0 m1
  · rw [F2 _ _ (by decide) (by decide), K _ _ (by decide) (by decide), m250 _ (by decide) (by decide)]
    exact R.1
  · rw [F2 _ _ (by decide) (by decide), K _ _ (by decide) (by decide)] at m1
    rw [F2 75 m (by decide) (by decide), F2 76 m (by decide) (by decide), K 75 m (by decide) (by decide), K 76 m (by decide) (by decide), m250 (443 + 2 * m) (by omega) (by omega), m250 (443 + (2 * m + 1)) (by omega) (by omega)]
    exact R.2 m m0 m1
theorem zXg_t {g g1 g2 : zi_M} (T : zyTx 64 19 g g1) (K : zyTk 19 g g1) (e35 : g1 214 35 = g 214 35) (e232 : ∀ i : Int, g1 232 i = g 232 i) (M : zimT g1 g2) (F2 : ∀ (a : Nat) (i : Int), 19 ≤ a → a ≤ 80 → g2 a i = g1 a i) (R : zXg g) : zXg g2 ∧ zXgk g2 := by
  have a232 : ∀ p : Nat, p < 10 → za (276 + 5 * (p : Int)) = 232 ∧ zb (276 + 5 * (p : Int)) = (p : Int) := by decide +kernel
  have im : ∀ p : Int, 0 ≤ p → p < 10 → g2 250 (276 + 5 * p) = g 232 p := fun p p0 p1 => by
    have h := a232 p.toNat (by omega)
    rw [show ((p.toNat : Nat) : Int) = p by omega] at h
    rw [M.1 (276 + 5 * p) (by omega) (by omega), h.1, h.2, e232]
  have i35 : g2 250 266 = g 214 35 := by
    rw [M.1 266 (by decide) (by decide), show za 266 = 214 by decide +kernel, show zb 266 = 35 by decide +kernel, e35]
  refine ⟨zXg_n R (by rw [F2 _ _ (by decide) (by decide), K _ _ (by decide) (by decide)]) (by rw [M.2.2 35 (by decide) (by decide) (by decide) (by decide), e35]) (fun i => by rw [F2 _ _ (by decide) (by decide), K _ _ (by decide) (by decide)]) (fun i _ => by rw [M.2.1 232 i (by decide) (by decide), e232]), ?_, fun m m0 m1 => ?_⟩
  · rw [F2 _ _ (by decide) (by decide), T.1.1, i35]
    exact R.1
  · rw [F2 _ _ (by decide) (by decide), T.1.2 m m0 m1, im m m0 m1]
    exact R.2 m m0 m1
theorem zXg_r {g g1 g2 : zi_M} (T : zyTx 19 64 g g1) (K : zyTk 64 g g1) (e250 : ∀ i : Int, g1 250 i = g 250 i) (M : zimR g1 g2) (F2 : ∀ (a : Nat) (i : Int), 19 ≤ a → a ≤ 80 → g2 a i = g1 a i) (R : zXgk g) : zXg g2 ∧ zXgk g2 := by
  have a232 : ∀ p : Nat, p < 10 → zv 232 (p : Int) = 276 + 5 * (p : Int) := by decide +kernel
  have im : ∀ p : Int, 0 ≤ p → p < 10 → g2 232 p = g 250 (276 + 5 * p) := fun p p0 p1 => by
    have h := a232 p.toNat (by omega)
    rw [show ((p.toNat : Nat) : Int) = p by omega] at h
    rw [M.1 232 p (by omega), h, e250]
  have i35 : g2 214 35 = g 250 266 := by
    rw [M.1 214 35 (by decide +kernel), show zv 214 35 = 266 by decide +kernel, e250]
  have z250 : ∀ p : Nat, p < 2004 → zv 250 (p : Int) = -1 := by decide +kernel
  have m250 : ∀ p : Int, 0 ≤ p → p < 2004 → g2 250 p = g 250 p := fun p p0 p1 => by
    have h := z250 p.toNat (by omega)
    rw [show ((p.toNat : Nat) : Int) = p by omega] at h
    rw [M.2.1 250 p h (by decide), e250]
  refine ⟨⟨?_, fun m m0 m1 => ?_⟩, ?_, fun m m0 m1 => ?_⟩
  · rw [F2 _ _ (by decide) (by decide), T.1.1, i35]
    exact R.1
  · rw [F2 _ _ (by decide) (by decide), T.1.2 m m0 m1, im m m0 m1]
    exact R.2 m m0 m1
  · rw [F2 _ _ (by decide) (by decide), K _ _ (by decide) (by decide), m250 _ (by decide) (by decide)]
    exact R.1
  · rw [F2 _ _ (by decide) (by decide), K _ _ (by decide) (by decide), m250 _ (by omega) (by omega)]
    exact R.2 m m0 m1
