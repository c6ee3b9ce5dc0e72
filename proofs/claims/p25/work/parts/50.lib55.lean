-- RAIN, the other side
noncomputable def zYl (r : Nat) (s : Int) (g g' : zi_M) (v : Int) : Prop := ∀ T : Int, zVC T r g' = zsd (g r 0) (zVC T r g) ∧ (zsq (g r 0) s (zsd (g r 0) (zVC T r g)) → v = 1) ∧ (¬ zsq (g r 0) s (zsd (g r 0) (zVC T r g)) → v = 0)
theorem zYl_v {r : Nat} (hr : zs_sh r = some (10, 20)) {g g2 : zi_M} {T : Int} (c : g r 0 = 0) (e : g2 = zi_u g r 18 (zi_w (1664525 * g r 18 + 1013904223))) : zVC T r g2 = zsd (g r 0) (zVC T r g) ∧ zsd (g r 0) (zVC T r g) 1 = g2 r 18 := by
  have v1 := (zVC_rd (T := T) (r := r) (g := g)).2.1
  unfold zsd
  rw [zite_p c, v1, zup_e, e, zV_draw (zs_wb hr), zi_u_eq]
  exact ⟨rfl, rfl⟩
theorem zYl_a {r : Nat} (hr : zs_sh r = some (10, 20)) {g g2 : zi_M} {s : Int} (c : g r 0 = 0) (e : g2 = zi_u g r 18 (zi_w (1664525 * g r 18 + 1013904223))) (d : s ≤ Int.tmod (zi_ush (g2 r 18) 8) 1000) : zYl r s g g2 0 := fun T => by
  obtain ⟨w, w1⟩ := zYl_v (T := T) hr c e
  refine ⟨w, ?_, fun _ => rfl⟩
  rintro (⟨-, q⟩ | ⟨q, -⟩)
  · rw [w1] at q; omega
  · exact absurd c q
theorem zYl_b {r : Nat} (hr : zs_sh r = some (10, 20)) {g g2 : zi_M} {s : Int} (c : g r 0 = 0) (e : g2 = zi_u g r 18 (zi_w (1664525 * g r 18 + 1013904223))) (d : Int.tmod (zi_ush (g2 r 18) 8) 1000 < s) : zYl r s g g2 1 := fun T => by
  obtain ⟨w, w1⟩ := zYl_v (T := T) hr c e
  exact ⟨w, fun _ => rfl, fun n => absurd (Or.inl ⟨c, by rw [w1]; exact d⟩) n⟩
theorem zYl_c {r : Nat} {g : zi_M} {s : Int} (c : ¬ g r 0 = 0) (d : s < 500) : zYl r s g g 0 := fun T => by
  refine ⟨by unfold zsd; rw [zite_n c], ?_, fun _ => rfl⟩
  rintro (⟨q, -⟩ | ⟨-, q⟩)
  · exact absurd q c
  · omega
theorem zYl_d {r : Nat} {g : zi_M} {s : Int} (c : ¬ g r 0 = 0) (d : 500 ≤ s) : zYl r s g g 1 := fun T => ⟨by unfold zsd; rw [zite_n c], fun _ => rfl, fun n => absurd (Or.inr ⟨c, d⟩) n⟩
-- jars
noncomputable def zJI (r : Nat) (p w : Int) (g0 g : zi_M) (n : Int) : Prop := ∀ T : Int, zVC T r g = zjr p w n.toNat (zVC T r g0)
theorem zJI_0 {r : Nat} {p w : Int} {g : zi_M} : zJI r p w g g 0 := fun _ => rfl
theorem zJI_n {r : Nat} {p w n : Int} {g0 g : zi_M} (h : zJI r p w g0 g n) (n0 : 0 ≤ n) (n6 : n < 6) (c : ¬ g (r + 10) n = p) : zJI r p w g0 g (n + 1) := fun T => by
  rw [show (n + 1).toNat = n.toNat + 1 by omega]
  show _ = zite _ _ _
  rw [← h T, show ((n.toNat : Nat) : Int) = n by omega, zite_n]
  rw [(zVC_rd (T := T) (r := r) (g := g)).2.2.2.2.2.2.2.2.2.2.2.2.1 n n0 n6]
  omega
theorem zJI_y {r : Nat} (hr : zs_sh r = some (10, 20)) {p w n : Int} {g0 g g5 : zi_M} (h : zJI r p w g0 g n) (n0 : 0 ≤ n) (n6 : n < 6) (c : g (r + 10) n = p) (e : g5 = zi_u g (r + 11) n (zi_or (g (r + 11) n) (zi_shl 1 w))) : zJI r p w g0 g5 (n + 1) := fun T => by
  obtain ⟨-, -, -, -, -, -, -, -, -, -, -, -, vj, vc⟩ := zVC_rd (T := T) (r := r) (g := g)
  rw [show (n + 1).toNat = n.toNat + 1 by omega]
  show _ = zite _ _ _
  rw [← h T, show ((n.toNat : Nat) : Int) = n by omega, zite_p (by rw [vj n n0 n6]; omega), vc n n0 n6, e, zV_ca (zs_wb hr) ⟨n0, n6⟩]
noncomputable def zJF (r : Nat) (p w : Int) (g0 g : zi_M) : Prop := ∀ T : Int, zVC T r g = zjr p w 6 (zVC T r g0)
theorem zJI_x {r : Nat} {p w n : Int} {g0 g : zi_M} (h : zJI r p w g0 g n) (e : n = 6) : zJF r p w g0 g := by
  rw [e] at h
  exact h
-- the first goes
noncomputable def zDp (r : Nat) (p : Int) (g g' : zi_M) : Prop := 1 ≤ g (r + 6) p → ∀ T : Int, zVC T r g' = zdf p (zVC T r g)
theorem zVC_cp {T : Int} {r : Nat} {g : zi_M} {p n : Int} (h : r = 2 ∨ r = 47 ∨ (93 ≤ r ∧ r ≤ 165)) (hp : 0 ≤ p ∧ p ≤ 9) (hn : 0 ≤ n ∧ n ≤ 19) (k : Int) : zVC T r (zi_cp g (r + 7) (p * 20 + 1) (r + 7) (p * 20) n) k = zite (36 + 20 * p ≤ k ∧ k < 36 + 20 * p + n) (zVC T r g (k + 1)) (zVC T r g k) := by
  have fs : ∀ (a : Nat) (i : Int), ¬ (a = r + 7 ∧ p * 20 ≤ i ∧ i < p * 20 + n) → zi_cp g (r + 7) (p * 20 + 1) (r + 7) (p * 20) n a i = g a i := fun a i q => by unfold zi_cp; exact if_neg q
  by_cases q : 36 + 20 * p ≤ k ∧ k < 36 + 20 * p + n
  · rw [zite_p q]
    have v1 := (zVC_rd (T := T) (r := r) (g := zi_cp g (r + 7) (p * 20 + 1) (r + 7) (p * 20) n)).2.2.2.2.2.2.2.2.2.1 (k - 36) (by omega) (by omega)
    have v2 := (zVC_rd (T := T) (r := r) (g := g)).2.2.2.2.2.2.2.2.2.1 (k + 1 - 36) (by omega) (by omega)
    rw [show 36 + (k - 36) = k by omega] at v1
    rw [show 36 + (k + 1 - 36) = k + 1 by omega] at v2
    rw [v1, v2]
    unfold zi_cp
    rw [if_pos ⟨rfl, by omega, by omega⟩]
    congr 1
    omega
  · rw [zite_n q]
    unfold zVC
    by_cases d : zdm T k
    · rw [zite_p d, zite_p d, fs]
      rintro ⟨a, b, c⟩
      have z := (zca_in h k).2.2.2.2.1 a
      rw [zci_r.2.2.2.1 k z.1 z.2] at b c
      omega
    · rw [zite_n d, zite_n d]
theorem zDp_of {r : Nat} (hr : zs_sh r = some (10, 20)) {g g4 g5 : zi_M} {p : Int} (hp : 0 ≤ p ∧ p ≤ 9) (b : 0 ≤ g (r + 6) p ∧ g (r + 6) p ≤ 20) (c : 1 ≤ g (r + 6) p) (e4 : g4 = zi_cp g (r + 7) (p * 20 + 1) (r + 7) (p * 20) (g (r + 6) p - 1)) (e5 : g5 = zi_u g4 (r + 6) p (g (r + 6) p - 1)) : zDp r p g g5 := fun _ T => by
  have hb := zs_wb hr
  rw [e5, zV_hc hb ⟨hp.1, by omega⟩]
  funext k
  have vh := zVC_hc (T := T) (r := r) (g := g) hp
  unfold zdf
  by_cases q : k = 26 + p
  · rw [q, zup_e, zite_n (by omega), zite_p rfl, vh]
  · rw [zup_n q, e4, zVC_cp hb hp ⟨by omega, by omega⟩, vh]
    by_cases z : 36 + 20 * p ≤ k ∧ k < 36 + 20 * p + (g (r + 6) p - 1)
    · rw [zite_p z, zite_p (by omega)]
    · rw [zite_n z, zite_n (by omega), zite_n q]
theorem zDp_n {r : Nat} {g : zi_M} {p : Int} (c : g (r + 6) p < 1) : zDp r p g g := fun h => by omega
-- one word is said
/-- up to the slip -/
noncomputable def zYi (r : Nat) (p w : Int) (g0 g : zi_M) : Prop := p < g0 r 8 → ∀ T : Int, w = zsw (g0 r 0) (zLc g0 r 2 p (zVC T r g0 (36 + 20 * p)) (zVC T r g0)) (zVC T r g0 (36 + 20 * p)) (zVC T r g0) ∧ zVC T r g = zsf (g0 r 0) (zLc g0 r 2 p (zVC T r g0 (36 + 20 * p)) (zVC T r g0)) (zVC T r g0)
theorem zYi_a {r : Nat} {g0 g5 g8 : zi_M} {p v1 v4 v7 : Int} (hr : zs_sh r = some (10, 20)) (hp : 0 ≤ p ∧ p ≤ 9) (h1 : 0 ≤ p → p < g0 r 8 → (0 : Int) ≤ 0 → (0 : Int) < 20 → v1 = g0 (r + 7) (p * 20 + 0)) (F : zk_fr (fr_Law_tells r) g0 g5) (h4 : ∀ T : Int, v4 = zLc g0 r 2 p v1 (zVC T r g0)) (h7 : zYl r v4 g5 g8 v7) (c : v7 = 0) : zYi r p v1 g0 g8 := fun q T => by
  have hb := zs_wb hr
  have ev : zVC T r g5 = zVC T r g0 := zVC_c (fun a i h => F a i (fun w => by unfold fr_Law_tells at w; omega))
  have e0 : g5 r 0 = g0 r 0 := F r 0 (fun w => by unfold fr_Law_tells at w; omega)
  have e1 : v1 = zVC T r g0 (36 + 20 * p) := by
    have := zVC_hd (T := T) (r := r) (g := g0) (p := p) (i := 0) hp ⟨by decide, by decide⟩
    rw [Int.add_zero] at this
    rw [this]
    exact h1 hp.1 q (by decide) (by decide)
  obtain ⟨s1, s2, s3⟩ := h7 T
  rw [e0, ev] at s1 s2 s3
  have n7 : ¬ zsq (g0 r 0) v4 (zsd (g0 r 0) (zVC T r g0)) := fun z => by have := s2 z; omega
  have h4' := h4 T
  rw [e1] at h4'
  rw [h4'] at n7
  unfold zsw zsf
  rw [zite_n n7, zite_n n7]
  exact ⟨e1, s1⟩
theorem zYi_b {r : Nat} {g0 g5 g8 g39 : zi_M} {p v1 v4 v7 : Int} (hr : zs_sh r = some (10, 20)) (hp : 0 ≤ p ∧ p ≤ 9) (h1 : 0 ≤ p → p < g0 r 8 → (0 : Int) ≤ 0 → (0 : Int) < 20 → v1 = g0 (r + 7) (p * 20 + 0)) (F : zk_fr (fr_Law_tells r) g0 g5) (h4 : ∀ T : Int, v4 = zLc g0 r 2 p v1 (zVC T r g0)) (h7 : zYl r v4 g5 g8 v7) (c : ¬ v7 = 0) (e : g39 = zi_u g8 r 16 (zi_w (g8 r 16 + 1))) : zYi r p (Int.tmod (v1 + 1) 16) g0 g39 := fun q T => by
  have hb := zs_wb hr
  have ev : zVC T r g5 = zVC T r g0 := zVC_c (fun a i h => F a i (fun w => by unfold fr_Law_tells at w; omega))
  have e0 : g5 r 0 = g0 r 0 := F r 0 (fun w => by unfold fr_Law_tells at w; omega)
  have e1 : v1 = zVC T r g0 (36 + 20 * p) := by
    have := zVC_hd (T := T) (r := r) (g := g0) (p := p) (i := 0) hp ⟨by decide, by decide⟩
    rw [Int.add_zero] at this
    rw [this]
    exact h1 hp.1 q (by decide) (by decide)
  obtain ⟨s1, s2, s3⟩ := h7 T
  rw [e0, ev] at s1 s2 s3
  have y7 : zsq (g0 r 0) v4 (zsd (g0 r 0) (zVC T r g0)) := Classical.byContradiction (fun z => c (s3 z))
  have h4' := h4 T
  rw [e1] at h4'
  rw [h4'] at y7
  unfold zsw zsf
  rw [zite_p y7, zite_p y7, e, zV_wrong hb, s1, ← e1]
  refine ⟨rfl, ?_⟩
  congr 2
  rw [← s1]
  exact congrArg (· + 1) (zVC_rd (T := T) (r := r) (g := g8)).2.2.2.2.2.1.symm
noncomputable def zSF (r : Nat) (p : Int) (g0 g : zi_M) : Prop := p < g0 r 8 → 1 ≤ g0 (r + 6) p → ∀ T : Int, zVC T r g = zsy (g0 r 0) (zLc g0 r) (zeg g0) p (zVC T r g0)
theorem zSb_k {r : Nat} {g0 g g10 g12 g15 g18 g22 : zi_M} {p w i : Int} (hr : zs_sh r = some (10, 20)) (h : zYi r p w g0 g) (e0 : g r 0 = g0 r 0) (ec : g18 (r + 6) p = g0 (r + 6) p) (e10 : g10 = zi_u g r 15 (zi_w (g r 15 + 1))) (hj : zJF r p w g10 g12) (hw : zBw r 1 p w g12 g15) (et : g12 r 0 = g r 0) (ei : i = zeg g0 p) (hv : ∀ T : Int, zVC T r g18 = zwt i w (zVC T r g15)) (hd : zDp r p g18 g22) : zSF r p g0 g22 := fun q c T => by
  obtain ⟨x1, x2⟩ := h q T
  rw [hd (by rw [ec]; exact c) T, hv T, hw T, et, e0, hj T, e10, zV_said (zs_wb hr), x2, ei]
  have v4 : g r 15 = zVC T r g 4 := (zVC_rd (T := T) (r := r) (g := g)).2.2.2.2.1.symm
  rw [v4, x2]
  unfold zsy zsb
  rw [← x1]
