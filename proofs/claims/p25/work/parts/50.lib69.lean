-- SET on the reference's row
noncomputable def zMt1 (l1 l3 : Int) (g0 g : zi_M) : Prop := ∀ k : Int, (l1 = 0 ∧ k = 3 → g 215 k = l3) ∧ (¬ (l1 = 0 ∧ k = 3) → g 215 k = g0 215 k)
noncomputable def zMt2 (l1 l2 l3 : Int) (g0 g : zi_M) : Prop := ∀ k : Int, (l1 = 0 ∧ k = 3 → g 215 k = l3) ∧ (l1 = 2 ∧ k = 16 + l2 → g 215 k = l3) ∧ (¬ (l1 = 0 ∧ k = 3) ∧ ¬ (l1 = 2 ∧ k = 16 + l2) → g 215 k = g0 215 k)
theorem zMt_a {l1 l3 x : Int} {g0 g1 : zi_M} (e : g1 = zi_u g0 214 0 x) (c : ¬ l1 = 0) : zMt1 l1 l3 g0 g1 := fun k => ⟨fun q => absurd q.1 c, fun _ => by rw [e, zi_u_ne (by decide)]⟩
theorem zMt_b {l1 l3 x : Int} {g0 g1 g2 : zi_M} (e : g1 = zi_u g0 214 0 x) (e2 : g2 = zi_u g1 215 3 l3) (c : l1 = 0) : zMt1 l1 l3 g0 g2 := fun k => ⟨fun q => by rw [q.2, e2, zi_u_eq], fun q => by rw [e2, zi_u_ni (fun z => q ⟨c, z⟩), e, zi_u_ne (by decide)]⟩
theorem zMt_c {l1 l2 l3 : Int} {g0 g g' : zi_M} (h : zMt1 l1 l3 g0 g) (e : g' = zi_u g 220 l2 l3) : zMt1 l1 l3 g0 g' := fun k => by
  rw [e, zi_u_ne (by decide)]
  exact h k
theorem zMt_d {l1 l2 l3 : Int} {g0 g : zi_M} (h : zMt1 l1 l3 g0 g) (c : ¬ l1 = 2) : zMt2 l1 l2 l3 g0 g := fun k => ⟨(h k).1, fun q => absurd q.1 c, fun q => (h k).2 q.1⟩
theorem zMt_e {l1 l2 l3 : Int} {g0 g g' : zi_M} (h : zMt1 l1 l3 g0 g) (e : g' = zi_u g 215 (16 + l2) l3) (c : l1 = 2) : zMt2 l1 l2 l3 g0 g' := fun k => ⟨fun q => by exfalso; omega, fun q => by rw [q.2, e, zi_u_eq], fun q => by rw [e, zi_u_ni (fun z => q.2 ⟨c, z⟩)]; exact (h k).2 q.1⟩
noncomputable def zMt3 (l1 l2 l3 : Int) (g0 g : zi_M) : Prop := ∀ k : Int, (l1 = 0 ∧ k = 3 → g 215 k = l3) ∧ (l1 = 2 ∧ k = 16 + l2 → g 215 k = l3) ∧ (l1 = 3 ∧ k = 236 + l2 → g 215 k = l3) ∧ (¬ (l1 = 0 ∧ k = 3) ∧ ¬ (l1 = 2 ∧ k = 16 + l2) ∧ ¬ (l1 = 3 ∧ k = 236 + l2) → g 215 k = g0 215 k)
theorem zMt_f {l1 l2 l3 x : Int} {g0 g g' : zi_M} (h : zMt2 l1 l2 l3 g0 g) (c : ¬ l1 = 3) (e : g' = zi_u g 214 3 x) : zMt3 l1 l2 l3 g0 g' := fun k => by
  rw [e, zi_u_ne (by decide)]
  exact ⟨(h k).1, (h k).2.1, fun q => absurd q.1 c, fun q => (h k).2.2 ⟨q.1, q.2.1⟩⟩
theorem zMt_g {l1 l2 l3 x : Int} {g0 g g2 g' : zi_M} (h : zMt2 l1 l2 l3 g0 g) (e2 : g2 = zi_u g 215 (236 + l2) l3) (c : l1 = 3) (e : g' = zi_u g2 214 3 x) : zMt3 l1 l2 l3 g0 g' := fun k => by
  rw [e, zi_u_ne (by decide)]
  refine ⟨fun q => by exfalso; omega, fun q => by exfalso; omega, fun q => by rw [q.2, e2, zi_u_eq], fun q => ?_⟩
  rw [e2, zi_u_ni (fun z => q.2.2 ⟨c, z⟩)]
  exact (h k).2.2 ⟨q.1, q.2.1⟩
theorem zMt_0 {l1 l2 l3 x : Int} {g0 g1 : zi_M} (e : g1 = zi_u g0 214 0 x) : ∀ k : Int, g1 215 k = g0 215 k := fun k => by rw [e, zi_u_ne (by decide)]
