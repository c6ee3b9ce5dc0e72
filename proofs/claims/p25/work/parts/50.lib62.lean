-- A DAY, the reference: dry, rain, led on, the day
/-- what a day leaves alone -/
noncomputable def zMfr (g0 g : zi_M) : Prop := (∀ (a : Nat) (i : Int), (218 ≤ a ∧ a ≤ 220) ∨ (224 ≤ a ∧ a ≤ 230) ∨ (232 ≤ a ∧ a ≤ 234) → g a i = g0 a i) ∧ g 214 5 = g0 214 5 ∧ g 214 6 = g0 214 6 ∧ g 214 7 = g0 214 7 ∧ g 214 37 = g0 214 37 ∧ g 214 39 = g0 214 39
theorem zMfr_o {g0 g : zi_M} (f : zMfr g0 g) : zLm g = zLm g0 ∧ zf g = zf g0 ∧ (zLk g0 → zLk g) :=
  ⟨zLm_c (f.1 224 0 (by omega)) (fun a i q => f.1 a i (by omega)), funext fun p => by unfold zf; rw [f.1 232 p (by omega)], fun k => zLk_c k (f.1 224 0 (by omega)) (fun a i q => f.1 a i (by omega))⟩
theorem zMfr_d {g0 g : zi_M} (F : zk_fr fr_M_isDry g0 g) : zMfr g0 g :=
  ⟨fun a i h => F a i (fun w => by unfold fr_M_isDry at w; omega), F 214 5 (fun w => by unfold fr_M_isDry at w; omega), F 214 6 (fun w => by unfold fr_M_isDry at w; omega), F 214 7 (fun w => by unfold fr_M_isDry at w; omega), F 214 37 (fun w => by unfold fr_M_isDry at w; omega), F 214 39 (fun w => by unfold fr_M_isDry at w; omega)⟩
theorem zMfr_r {g0 g : zi_M} (F : zk_fr fr_M_rains g0 g) : zMfr g0 g :=
  ⟨fun a i h => F a i (fun w => by unfold fr_M_rains at w; omega), F 214 5 (fun w => by unfold fr_M_rains at w; omega), F 214 6 (fun w => by unfold fr_M_rains at w; omega), F 214 7 (fun w => by unfold fr_M_rains at w; omega), F 214 37 (fun w => by unfold fr_M_rains at w; omega), F 214 39 (fun w => by unfold fr_M_rains at w; omega)⟩
theorem zMfr_b {g0 g : zi_M} (F : zk_fr fr_M_goesBy g0 g) : zMfr g0 g :=
  ⟨fun a i h => F a i (fun w => by unfold fr_M_goesBy at w; omega), F 214 5 (fun w => by unfold fr_M_goesBy at w; omega), F 214 6 (fun w => by unfold fr_M_goesBy at w; omega), F 214 7 (fun w => by unfold fr_M_goesBy at w; omega), F 214 37 (fun w => by unfold fr_M_goesBy at w; omega), F 214 39 (fun w => by unfold fr_M_goesBy at w; omega)⟩
-- dry
noncomputable def zMI (p i : Int) (g0 g : zi_M) : Prop := zLk g0 → zVM (g0 214 7) g = zdT (g0 214 5) (zLm g0) p i.toNat (zVM (g0 214 7) g0)
theorem zMI_0 {p : Int} {g : zi_M} : zMI p 0 g g := fun _ => rfl
theorem zMI_k {p i : Int} {g0 g g' : zi_M} (h : zMI p i g0 g) (h0 : 0 ≤ i) (k : zLk g0 → zVM (g0 214 7) g' = zite (¬ zVM (g0 214 7) g (6 + p) = 2 ∧ zVM (g0 214 7) g (244 + i) = p + 1) (zls (g0 214 5) p (zVM (g0 214 7) g (236 + i)) 16 0 (zLm g0 0 p 0 (zVM (g0 214 7) g)) (zVM (g0 214 7) g)) (zVM (g0 214 7) g)) : zMI p (i + 1) g0 g' := fun q => by
  rw [k q, h q, show (i + 1).toNat = i.toNat + 1 by omega]
  show _ = zite _ _ _
  rw [show ((i.toNat : Nat) : Int) = i by omega]
theorem zMI_l {p i : Int} {g0 g : zi_M} (h : zMI p i g0 g) (hp : 0 ≤ p ∧ p ≤ 9) (h0 : 0 ≤ i) (c : g 215 (6 + p) = 2) : zMI p (i + 1) g0 g := zMI_k h h0 (fun _ => by
  rw [zite_n (fun z => z.1 (by rw [zVM_r ⟨by omega, by omega⟩ (by omega)]; exact c))])
theorem zMI_n {p i : Int} {g0 g : zi_M} (h : zMI p i g0 g) (h0 : 0 ≤ i) (f : zMfr g0 g) (h1 : i < g 214 7) (h8 : g 214 7 ≤ 8) (c : ¬ g 215 (244 + i) = p + 1) : zMI p (i + 1) g0 g := zMI_k h h0 (fun _ => by
  have e7 := f.2.2.2.1
  rw [zite_n (fun z => c (by rw [← z.2, zVM_r ⟨by omega, by omega⟩ (by omega)]))])
theorem zMI_y {p i : Int} {g0 g g9 : zi_M} (h : zMI p i g0 g) (hp : 0 ≤ p ∧ p ≤ 9) (h0 : 0 ≤ i) (f : zMfr g0 g) (h1 : i < g 214 7) (h8 : g 214 7 ≤ 8) (c : ¬ g 215 (6 + p) = 2) (c2 : g 215 (244 + i) = p + 1) (k : zLk g → zNF p i g g9) : zMI p (i + 1) g0 g9 := zMI_k h h0 (fun q => by
  have e7 := f.2.2.2.1
  have o := zMfr_o f
  rw [zite_p ⟨by rw [zVM_r ⟨by omega, by omega⟩ (by omega)]; exact c, by rw [zVM_r ⟨by omega, by omega⟩ (by omega)]; exact c2⟩, k (o.2.2 q) (g0 214 7), f.2.1, o.1, zVM_r (i := 236 + i) ⟨by omega, by omega⟩ (by omega)])
noncomputable def zMB (p : Int) (g0 g : zi_M) : Prop := zLk g0 → zVM (g0 214 7) g = zdT (g0 214 5) (zLm g0) p (g0 214 7).toNat (zVM (g0 214 7) g0)
theorem zMI_x {p i : Int} {g0 g : zi_M} (h : zMI p i g0 g) (e : i = g0 214 7) : zMB p g0 g := by
  rw [e] at h
  exact h
noncomputable def zMP (p : Int) (g0 g : zi_M) : Prop := zLk g0 → zVM (g0 214 7) g = zdp (g0 214 5) (zLm g0) (g0 214 7).toNat p (zVM (g0 214 7) g0)
theorem zMP_of {p v : Int} {g0 g g19 : zi_M} (h : zMB p g0 g) (hp : 0 ≤ p ∧ p ≤ 9) (e : g19 = zi_u g 215 (16 + p) v) (hv : v = min (g 215 (16 + p) + 1) 999) : zMP p g0 g19 := fun q => by
  rw [e, zN_row ⟨by omega, by omega⟩ (by omega), hv]
  unfold zdp
  rw [← h q, zVM_r (i := 16 + p) ⟨by omega, by omega⟩ (by omega)]
noncomputable def zMO (n : Int) (g0 g : zi_M) : Prop := zLk g0 → zVM (g0 214 7) g = zdy (g0 214 5) (zLm g0) (g0 214 7).toNat n.toNat (zVM (g0 214 7) g0)
theorem zMO_0 {g : zi_M} : zMO 0 g g := fun _ => rfl
theorem zMO_s {n : Int} {g0 g g23 : zi_M} (h : zMO n g0 g) (f : zMfr g0 g) (n0 : 0 ≤ n) (k : zMP n g g23) : zMO (n + 1) g0 g23 := fun q => by
  have o := zMfr_o f
  have kk : zVM (g 214 7) g23 = _ := k (o.2.2 q)
  rw [f.2.1, o.1, f.2.2.2.1, h q] at kk
  rw [kk, show (n + 1).toNat = n.toNat + 1 by omega]
  show _ = zdp _ _ _ _ _
  rw [show ((n.toNat : Nat) : Int) = n by omega]
-- rain
noncomputable def zRf (p : Int) (g0 : zi_M) (T : Int) : Int → Int := zwp (g0 214 5) (zLm g0) (zf g0) p.toNat (zup (zVM T g0) 2000 0)
noncomputable def zRp (p : Int) (g0 g : zi_M) : Prop := zLk g0 → ∀ T : Int, zVM T g = zRf p g0 T
noncomputable def zRn (p n : Int) (g0 g : zi_M) : Prop := zLk g0 → ∀ T : Int, zVM T g = zsn (g0 214 5) (zLm g0) (zf g0) p n.toNat (zRf p g0 T)
noncomputable def zRj (p m : Int) (g0 : zi_M) : Prop := zLk g0 → ∀ T : Int, (zsk (zRf p g0 T) p ∧ m = min (zLm g0 1 p 0 (zRf p g0 T)) (zRf p g0 T (26 + p))) ∨ (¬ zsk (zRf p g0 T) p ∧ m = 0)
theorem zRp_0 {g g1 : zi_M} (e : g1 = zi_u g 214 43 0) : zRp 0 g g1 := fun _ T => by
  rw [e, zN_wn]
  rfl
theorem zRn_0 {p : Int} {g0 g : zi_M} (h : zRp p g0 g) : zRn p 0 g0 g := h
theorem zRn_j {p : Int} {g0 g g17 : zi_M} (h : zRp p g0 g) (F : zk_fr fr_M_jetOf g g17) : zRn p 0 g0 g17 := fun q T => by
  rw [zVM_c (g := g) (fun a i h => F a i (fun w => by unfold fr_M_jetOf at w; omega)), h q T]
  rfl
theorem zRj_0 {p v : Int} {g0 g : zi_M} (h : zRp p g0 g) (hp : 0 ≤ p ∧ p ≤ 9) (y : (g 215 (6 + p) = 0 → v = 1) ∧ (¬ g 215 (6 + p) = 0 → g 215 (6 + p) = 1 → 5 ≤ g 215 3 → v = 1)) (c : v = 0) : zRj p 0 g0 := fun q T => by
  refine Or.inr ⟨?_, rfl⟩
  rw [← h q T]
  rintro (w | ⟨w1, w2⟩)
  · rw [zVM_r ⟨by omega, by omega⟩ (by omega)] at w
    have := y.1 w
    omega
  · rw [zVM_r ⟨by omega, by omega⟩ (by omega)] at w1
    rw [zVM_r ⟨by decide, by decide⟩ (by omega)] at w2
    have := y.2 (by omega) w1 w2
    omega
theorem zRj_1 {p v j m : Int} {g0 g : zi_M} (h : zRp p g0 g) (hp : 0 ≤ p ∧ p ≤ 9) (f : zMfr g0 g) (y : (¬ g 215 (6 + p) = 0 → ¬ g 215 (6 + p) = 1 → v = 0) ∧ (¬ g 215 (6 + p) = 0 → g 215 (6 + p) = 1 → g 215 3 < 5 → v = 0)) (c : ¬ v = 0) (hj : zLk g → ∀ T : Int, j = zLm g 1 p 0 (zVM T g)) (hm : m = min j (g 215 (26 + p))) : zRj p m g0 := fun q T => by
  have o := zMfr_o f
  refine Or.inl ⟨?_, ?_⟩
  · rw [← h q T]
    unfold zsk
    rw [zVM_r (i := 6 + p) ⟨by omega, by omega⟩ (by omega), zVM_r (i := 3) ⟨by decide, by decide⟩ (by omega)]
    refine Classical.byContradiction (fun n => c ?_)
    by_cases q0 : g 215 (6 + p) = 0
    · exact absurd (Or.inl q0) n
    · by_cases q1 : g 215 (6 + p) = 1
      · exact y.2 q0 q1 (by omega)
      · exact y.1 q0 q1
  · rw [← h q T, zVM_hc hp, ← o.1, ← hj (o.2.2 q) T]
    exact hm
theorem zRn_s {p n : Int} {g0 g g10 : zi_M} (h : zRn p n g0 g) (f : zMfr g0 g) (n0 : 0 ≤ n) (k : zNY p g g10) : zRn p (n + 1) g0 g10 := fun q T => by
  have o := zMfr_o f
  rw [k (o.2.2 q) T, h q T, f.2.1, o.1, o.2.1, show (n + 1).toNat = n.toNat + 1 by omega]
  rfl
theorem zRn_x {p n m : Int} {g0 g : zi_M} (h : zRn p n g0 g) (hm : zRj p m g0) (hp : 0 ≤ p) (e : n = m ∨ (n = 0 ∧ m ≤ 0)) : zRp (p + 1) g0 g := fun q T => by
  rw [h q T]
  unfold zRf
  rw [show (p + 1).toNat = p.toNat + 1 by omega]
  show _ = zite _ _ _
  rw [show ((p.toNat : Nat) : Int) = p by omega]
  rcases hm q T with ⟨a, b⟩ | ⟨a, b⟩
  · unfold zRf at a b
    rw [zite_p a, ← b, show n.toNat = m.toNat by omega]
  · unfold zRf at a
    rw [zite_n a, show n.toNat = 0 by omega]
    rfl
noncomputable def zRQ (g0 g : zi_M) : Prop := zRp (g0 214 6) g0 g
theorem zRp_x {p : Int} {g0 g : zi_M} (h : zRp p g0 g) (e : p = g0 214 6) : zRQ g0 g := by
  rw [e] at h
  exact h
/-- led on: the first i of those that wait -/
noncomputable def zRl (i : Int) (g0 g : zi_M) : Prop := ∃ g1 : zi_M, zRQ g0 g1 ∧ g1 214 43 = g 214 43 ∧ ∀ T : Int, zVM T g = zlD (g0 214 5) i.toNat (zVM T g1)
theorem zRl_0 {g0 g : zi_M} (h : zRQ g0 g) : zRl 0 g0 g := ⟨g, h, rfl, fun _ => rfl⟩
theorem zRl_a {i : Int} {g0 g : zi_M} (h : zRl i g0 g) (i0 : 0 ≤ i) (i1 : i < 90) (b : 0 ≤ g 237 i ∧ g 237 i ≤ 9) (c : g 215 (6 + g 237 i) = 2) : zRl (i + 1) g0 g := by
  obtain ⟨g1, a1, a2, a3⟩ := h
  refine ⟨g1, a1, a2, fun T => ?_⟩
  have x := a3 T
  have w1 := (zVM_w (T := T) (g := g)).2.1 i i0 i1
  rw [show (i + 1).toNat = i.toNat + 1 by omega]
  show _ = zite _ _ _
  rw [← x, show ((i.toNat : Nat) : Int) = i by omega, w1, zite_n]
  rintro ⟨z, -⟩
  exact z (by rw [zVM_r ⟨by omega, by omega⟩ (by omega)]; exact c)
theorem zRl_b {i v : Int} {g0 g g33 : zi_M} (h : zRl i g0 g) (i0 : 0 ≤ i) (i1 : i < 90) (k : zMk (g 237 i) (g 238 i) g g33 v) (z : v = 0) (e43 : g33 214 43 = g 214 43) : zRl (i + 1) g0 g33 := by
  obtain ⟨g1, a1, a2, a3⟩ := h
  refine ⟨g1, a1, by rw [e43]; exact a2, fun T => ?_⟩
  have x := a3 T
  have w1 := (zVM_w (T := T) (g := g)).2.1 i i0 i1
  have w2 := (zVM_w (T := T) (g := g)).2.2 i i0 i1
  obtain ⟨k1, k2⟩ := k T
  have nq : ¬ zInq (zVM T g) (g 237 i) (g 238 i) := fun y => by have := (k1 y).1; omega
  rw [(k2 nq).2, show (i + 1).toNat = i.toNat + 1 by omega]
  show _ = zite _ _ _
  rw [← x, show ((i.toNat : Nat) : Int) = i by omega, w1, w2, zite_n (fun q => nq q.2)]
theorem zRl_c {i v : Int} {g0 g g33 g36 : zi_M} (h : zRl i g0 g) (i0 : 0 ≤ i) (i1 : i < 90) (b : 0 ≤ g 237 i ∧ g 237 i ≤ 9) (c : ¬ g 215 (6 + g 237 i) = 2) (k : zMk (g 237 i) (g 238 i) g g33 v) (z : ¬ v = 0) (e7 : g33 237 i = g 237 i) (e8 : g33 238 i = g 238 i) (e43 : g36 214 43 = g 214 43) (W : zMw 2 (g33 237 i) (g33 238 i) g33 g36) (f : zMfr g0 g33) : zRl (i + 1) g0 g36 := by
  obtain ⟨g1, a1, a2, a3⟩ := h
  refine ⟨g1, a1, by rw [e43]; exact a2, fun T => ?_⟩
  have x := a3 T
  have w1 := (zVM_w (T := T) (g := g)).2.1 i i0 i1
  have w2 := (zVM_w (T := T) (g := g)).2.2 i i0 i1
  obtain ⟨k1, k2⟩ := k T
  have yq : zInq (zVM T g) (g 237 i) (g 238 i) := Classical.byContradiction (fun y => z (k2 y).1)
  rw [W T, e7, e8, (k1 yq).2, f.2.1, show (i + 1).toNat = i.toNat + 1 by omega]
  show _ = zite _ _ _
  rw [← x, show ((i.toNat : Nat) : Int) = i by omega, w1, w2, zite_p ⟨by rw [zVM_r ⟨by omega, by omega⟩ (by omega)]; exact c, yq⟩]
noncomputable def zRL (g0 g : zi_M) : Prop := zLk g0 → ∀ T : Int, zVM T g = zwl (g0 214 5) (zRf (g0 214 6) g0 T)
theorem zRl_x {i : Int} {g0 g : zi_M} (h : zRl i g0 g) (e : i = g 214 43) : zRL g0 g := fun q T => by
  obtain ⟨g1, a1, a2, a3⟩ := h
  unfold zwl
  rw [a3 T, ← a1 q T, (zVM_w (T := T) (g := g1)).1, a2, e]
noncomputable def zRZ (n : Int) (g0 g : zi_M) : Prop := zLk g0 → ∀ T : Int, zVM T g = zdz n.toNat (zwl (g0 214 5) (zRf (g0 214 6) g0 T))
theorem zRZ_0 {g0 g : zi_M} (h : zRL g0 g) : zRZ 0 g0 g := h
theorem zRZ_s {n : Int} {g0 g g45 : zi_M} (h : zRZ n g0 g) (n0 : 0 ≤ n) (n1 : n < 10) (e : g45 = zi_u g 215 (16 + n) 0) : zRZ (n + 1) g0 g45 := fun q T => by
  rw [e, zN_row ⟨by omega, by omega⟩ (by omega), h q T, show (n + 1).toNat = n.toNat + 1 by omega]
  show _ = zup _ _ _
  rw [show ((n.toNat : Nat) : Int) = n by omega]
noncomputable def zRY (g0 g : zi_M) : Prop := zLk g0 → ∀ T : Int, zVM T g = zwy (g0 214 5) (zLm g0) (zf g0) (g0 214 6).toNat (zVM T g0)
theorem zRZ_x {n : Int} {g0 g : zi_M} (h : zRZ n g0 g) (e : n = g0 214 6) : zRY g0 g := by
  rw [e] at h
  exact h
theorem zk_r6 {g : zi_M} (I : zk_I g) : 0 ≤ g 214 6 ∧ g 214 6 ≤ 10 := I.1 214 6
theorem zk_r7 {g : zi_M} (I : zk_I g) : 0 ≤ g 214 7 ∧ g 214 7 ≤ 8 := I.1 214 7
theorem zk_r43 {g : zi_M} (I : zk_I g) : 0 ≤ g 214 43 ∧ g 214 43 ≤ 90 := I.1 214 43
theorem zk_r39 {g : zi_M} (I : zk_I g) : 0 ≤ g 214 39 ∧ g 214 39 ≤ 16 := I.1 214 39
