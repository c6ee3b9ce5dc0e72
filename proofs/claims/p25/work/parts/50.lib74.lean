-- a thought: the row kept and put back
noncomputable def zTh (l : Int) (g0 g : zi_M) : Prop := ∀ k : Int, 0 ≤ k → k < l → g 217 k = g0 215 k
noncomputable def zTe (l : Int) (g0 g : zi_M) : Prop := ∀ k : Int, 0 ≤ k → k < l → g 215 k = g0 217 k
noncomputable def zTq (g0 g : zi_M) : Prop := ∀ k : Int, 0 ≤ k → k < 264 → g 217 k = g0 215 k
theorem zTh_0 {g : zi_M} : zTh 0 g g := fun k k0 k1 => by exfalso; omega
theorem zTe_0 {g : zi_M} : zTe 0 g g := fun k k0 k1 => by exfalso; omega
theorem zTh_s {l : Int} {g0 g g3 : zi_M} (h : zTh l g0 g) (F : zk_fr fr_M_thinks g0 g) (e : g3 = zi_u g 217 l (g 215 l)) : zTh (l + 1) g0 g3 := fun k k0 k1 => by
  by_cases q : k = l
  · rw [q, e, zi_u_eq]
    exact F 215 l (fun w => by unfold fr_M_thinks at w; omega)
  · rw [e, zi_u_ni q]
    exact h k k0 (by omega)
theorem zTe_s {l : Int} {g0 g g3 : zi_M} (h : zTe l g0 g) (F : zk_fr fr_M_endsThought g0 g) (e : g3 = zi_u g 215 l (g 217 l)) : zTe (l + 1) g0 g3 := fun k k0 k1 => by
  by_cases q : k = l
  · rw [q, e, zi_u_eq]
    exact F 217 l (fun w => by unfold fr_M_endsThought at w; omega)
  · rw [e, zi_u_ni q]
    exact h k k0 (by omega)
theorem zTh_x {l : Int} {g0 g : zi_M} (h : zTh l g0 g) (e : 264 ≤ l) : zTh 264 g0 g := fun k k0 k1 => h k k0 (by omega)
theorem zTe_x {l : Int} {g0 g : zi_M} (h : zTe l g0 g) (e : 264 ≤ l) : zTe 264 g0 g := fun k k0 k1 => h k k0 (by omega)
theorem zTh_p {g0 g5 g6 : zi_M} {v : Int} (h : zTh 264 g0 g5) (e : g6 = zi_u g5 214 5 v) : zTh 264 g0 g6 := fun k k0 k1 => by
  rw [e, zi_u_ne (by decide)]
  exact h k k0 k1
theorem zTe_p {g0 g5 g6 : zi_M} {v : Int} (h : zTe 264 g0 g5) (e : g6 = zi_u g5 214 5 v) : zTe 264 g0 g6 := fun k k0 k1 => by
  rw [e, zi_u_ne (by decide)]
  exact h k k0 k1
theorem zTq_0 {g0 g1 g9 : zi_M} {v : Int} (e : g1 = zi_u g0 214 0 v) (h : zTh 264 g1 g9) : zTq g0 g9 := fun k k0 k1 => by
  rw [h k k0 k1, e, zi_u_ne (by decide)]
theorem zTq_s {g0 g g14 : zi_M} (h : zTq g0 g) (F : zk_fr fr_M_goesBy g g14) : zTq g0 g14 := fun k k0 k1 => by
  rw [F 217 k (fun w => by unfold fr_M_goesBy at w; omega)]
  exact h k k0 k1
theorem zTj_0 {g g1 : zi_M} {v : Int} (e : g1 = zi_u g 214 0 v) : ∀ k : Int, 0 ≤ k → k < 264 → g1 215 k = g 215 k := fun k _ _ => by rw [e, zi_u_ne (by decide)]
theorem zTj_e {g0 g23 g27 : zi_M} (h : zTq g0 g23) (q : zTe 264 g23 g27) : ∀ k : Int, 0 ≤ k → k < 264 → g27 215 k = g0 215 k := fun k k0 k1 => by rw [q k k0 k1, h k k0 k1]
theorem zUn_eq {g g1 g2 : zi_M} {v1 v2 : Int} (R : zBD g) (b0 : 0 ≤ g 91 1) (a : zUk v1 g g1) (b : zUm v2 g1 g2) (e : g1 214 3 = g 214 3) : v2 = v1 := by
  obtain ⟨n1, y1⟩ := a
  obtain ⟨n2, y2⟩ := b
  rw [e, ← R.2.1.1] at n2 y2
  by_cases c : g 91 1 = 0
  · rw [(n1 (by omega)).1, (n2 c).1]
  · rw [(y1 (by omega)).1, (y2 c).1]
