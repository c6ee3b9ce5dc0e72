-- RAIN, the reference: one word said
/-- i words have moved up -/
noncomputable def zSh (p i : Int) (f : Int → Int) : Int → Int := fun k => zite (36 + 20 * p ≤ k ∧ k < 36 + 20 * p + i) (f (k + 1)) (f k)
/-- the word as it is said, and the row up to the slip -/
noncomputable def zNv (g0 : zi_M) (p T : Int) : Int := zsw (g0 214 5) (zLm g0 2 p (zVM T g0 (36 + 20 * p)) (zVM T g0)) (zVM T g0 (36 + 20 * p)) (zVM T g0)
noncomputable def zNr (g0 : zi_M) (p T : Int) : Int → Int := zsf (g0 214 5) (zLm g0 2 p (zVM T g0 (36 + 20 * p)) (zVM T g0)) (zVM T g0)
noncomputable def zNa0 (p w : Int) (g0 : zi_M) : Prop := zLk g0 → ∀ T : Int, w = zNv g0 p T
noncomputable def zN1 (p i : Int) (g0 g : zi_M) : Prop := zLk g0 → ∀ T : Int, zVM T g = zSh p i (zNr g0 p T)
theorem zNa0_of {p v1 w : Int} {g0 g5 : zi_M} (hp : 0 ≤ p ∧ p ≤ 9) (h : zAF p v1 g0 g5 w) (e : v1 = g0 215 (36 + 20 * p + 0)) : zNa0 p w g0 := fun k T => by
  have x := (h k T).1
  have e1 : zVM T g0 (36 + 20 * p) = v1 := by
    have := zVM_hd (T := T) (g := g0) (p := p) (i := 0) hp ⟨by decide, by decide⟩
    rw [Int.add_zero] at this e
    rw [this, e]
  unfold zNv
  rw [e1]
  exact x
theorem zN1_0 {p v1 w : Int} {g0 g5 : zi_M} (hp : 0 ≤ p ∧ p ≤ 9) (h : zAF p v1 g0 g5 w) (e : v1 = g0 215 (36 + 20 * p + 0)) : zN1 p 0 g0 g5 := fun k T => by
  have x := (h k T).2
  have e1 : zVM T g0 (36 + 20 * p) = v1 := by
    have := zVM_hd (T := T) (g := g0) (p := p) (i := 0) hp ⟨by decide, by decide⟩
    rw [Int.add_zero] at this e
    rw [this, e]
  unfold zNr
  rw [e1, x]
  funext j
  unfold zSh
  rw [zite_n (by omega)]
theorem zN1_s {p i : Int} {g0 g g12 : zi_M} (h : zN1 p i g0 g) (hp : 0 ≤ p ∧ p ≤ 9) (h0 : 0 ≤ i) (h1 : i < 19) (e : g12 = zi_u g 215 (36 + 20 * p + i) (g 215 (36 + 20 * p + i + 1))) : zN1 p (i + 1) g0 g12 := fun k T => by
  have x := h k T
  have r : g 215 (36 + 20 * p + i + 1) = zNr g0 p T (36 + 20 * p + i + 1) := by
    rw [← zVM_r (T := T) (g := g) (i := 36 + 20 * p + i + 1) ⟨by omega, by omega⟩ (by omega), x]
    unfold zSh
    rw [zite_n (by omega)]
  rw [e, zN_row ⟨by omega, by omega⟩ (by omega), x, r]
  funext j
  unfold zSh
  by_cases q : j = 36 + 20 * p + i
  · rw [q, zup_e, zite_p (by omega)]
  · rw [zup_n q]
    by_cases z : 36 + 20 * p ≤ j ∧ j < 36 + 20 * p + i
    · rw [zite_p z, zite_p (by omega)]
    · rw [zite_n z, zite_n (by omega)]
/-- all moved up -/
noncomputable def zN2 (p : Int) (g0 g : zi_M) : Prop := zLk g0 → ∀ T : Int, zVM T g = zSh p (g0 215 (26 + p) - 1) (zNr g0 p T)
theorem zN1_x {p i : Int} {g0 g : zi_M} (h : zN1 p i g0 g) (e : i = g0 215 (26 + p) - 1) : zN2 p g0 g := by
  rw [e] at h
  exact h
/-- up to the jars -/
noncomputable def zNj (g0 : zi_M) (p w T : Int) : Int → Int := zNt (g0 214 5) (zup (zdf p (zNr g0 p T)) 4 (zi_w (zdf p (zNr g0 p T) 4 + 1))) 1 p w
noncomputable def zN3 (p w n : Int) (g0 g : zi_M) : Prop := zLk g0 → ∀ T : Int, zVM T g = zjr p w n.toNat (zNj g0 p w T)
theorem zN3_0 {p w : Int} {g0 g g16 g17 g19 : zi_M} (h : zN2 p g0 g) (hp : 0 ≤ p ∧ p ≤ 9) (hc : g 215 (26 + p) = g0 215 (26 + p)) (hb : 0 ≤ g0 215 (26 + p) ∧ g0 215 (26 + p) ≤ 20) (e16 : g16 = zi_u g 215 (26 + p) (g 215 (26 + p) - 1)) (e17 : g17 = zi_u g16 215 4 (zi_w (g16 215 4 + 1))) (W : zMw 1 p w g17 g19) (e5 : g17 214 5 = g0 214 5) : zN3 p w 0 g0 g19 := fun k T => by
  have x := h k T
  have n26 : zNr g0 p T (26 + p) = g0 215 (26 + p) := by
    rw [← zVM_hc (T := T) (g := g0) hp]
    exact zsf_o (by omega) (by omega)
  have s : zVM T g16 = zdf p (zNr g0 p T) := by
    rw [e16, zN_row ⟨by omega, by omega⟩ (by omega), x, hc]
    funext j
    unfold zSh zdf
    rw [n26]
    by_cases q : j = 26 + p
    · rw [q, zup_e, zite_n (by omega), zite_p rfl, n26]
    · rw [zup_n q]
      by_cases z : 36 + 20 * p ≤ j ∧ j < 36 + 20 * p + (g0 215 (26 + p) - 1)
      · rw [zite_p z, zite_p (by omega)]
      · rw [zite_n z, zite_n (by omega), zite_n q]
  have v4 : g16 215 4 = zdf p (zNr g0 p T) 4 := by rw [← s, zVM_r ⟨by decide, by decide⟩ (by omega)]
  rw [W T, e5, e17, zN_row ⟨by decide, by decide⟩ (by omega), s, v4]
  rfl
theorem zN3_n {p w n : Int} {g0 g : zi_M} (h : zN3 p w n g0 g) (n0 : 0 ≤ n) (n6 : n < 6) (c : ¬ g 215 (252 + n) = p + 1) : zN3 p w (n + 1) g0 g := fun k T => by
  have x := h k T
  rw [show (n + 1).toNat = n.toNat + 1 by omega]
  show _ = zite _ _ _
  rw [← x, show ((n.toNat : Nat) : Int) = n by omega, zite_n]
  rw [zVM_r ⟨by omega, by omega⟩ (by omega)]
  exact c
theorem zN3_y {p w n : Int} {g0 g g26 : zi_M} (h : zN3 p w n g0 g) (n0 : 0 ≤ n) (n6 : n < 6) (c : g 215 (252 + n) = p + 1) (e : g26 = zi_u g 215 (258 + n) (zi_or (g 215 (258 + n)) (zi_shl 1 w))) : zN3 p w (n + 1) g0 g26 := fun k T => by
  have x := h k T
  rw [show (n + 1).toNat = n.toNat + 1 by omega]
  show _ = zite _ _ _
  rw [← x, show ((n.toNat : Nat) : Int) = n by omega, zite_p (by rw [zVM_r ⟨by omega, by omega⟩ (by omega)]; exact c), e, zN_row ⟨by omega, by omega⟩ (by omega), zVM_r (i := 258 + n) ⟨by omega, by omega⟩ (by omega)]
noncomputable def zN4 (p w : Int) (g0 g : zi_M) : Prop := zLk g0 → ∀ T : Int, zVM T g = zjr p w 6 (zNj g0 p w T)
theorem zN3_x {p w n : Int} {g0 g : zi_M} (h : zN3 p w n g0 g) (e : n = 6) : zN4 p w g0 g := by
  rw [e] at h
  exact h
/-- one word said -/
noncomputable def zNY (p : Int) (g0 g : zi_M) : Prop := zLk g0 → ∀ T : Int, zVM T g = zsy (g0 214 5) (zLm g0) (zf g0) p (zVM T g0)
theorem zNY_k {p w i : Int} {g0 g g41 : zi_M} (I0 : zk_I g0) (h0 : zNa0 p w g0) (h : zN4 p w g0 g) (hp : 0 ≤ p ∧ p ≤ 9) (hb : 0 ≤ g0 215 (26 + p) ∧ g0 215 (26 + p) ≤ 20) (ei : i = zf g0 p) (hv : ∀ T : Int, zVM T g41 = zwt i w (zVM T g)) : zNY p g0 g41 := fun k T => by
  have b2 : 0 ≤ g0 215 2 ∧ g0 215 2 ≤ 150 := zk_now2 I0 (i := 2) ⟨by decide, by decide⟩
  have b43 : 0 ≤ g0 214 43 ∧ g0 214 43 ≤ 90 := I0.1 214 43
  have n26 : zNr g0 p T (26 + p) = g0 215 (26 + p) := by
    rw [← zVM_hc (T := T) (g := g0) hp]
    exact zsf_o (by omega) (by omega)
  have n2 : zNr g0 p T 2 = g0 215 2 := by
    rw [← zVM_r (T := T) (g := g0) (i := 2) ⟨by decide, by decide⟩ (by omega)]
    exact zsf_o (by decide) (by decide)
  have nw : zNr g0 p T 2000 = g0 214 43 := by
    rw [← (zVM_w (T := T) (g := g0)).1]
    exact zsf_o (by decide) (by decide)
  have w0 := h0 k T
  have m := zsb_m (th := g0 214 5) (i := i) (p := p) (w := w) (f := zNr g0 p T) hp (by rw [n26]; exact hb.2) (by rw [n2]; exact b2.1) (by rw [nw]; exact b43.1)
  rw [hv T, h k T]
  unfold zsy
  rw [show zwt i w (zjr p w 6 (zNj g0 p w T)) = zsb (g0 214 5) i p w (zNr g0 p T) from m.symm, ei]
  unfold zNv at w0
  unfold zNr
  rw [← w0]
theorem zNY_n {p w i : Int} {g0 g : zi_M} (I0 : zk_I g0) (h0 : zNa0 p w g0) (h : zN4 p w g0 g) (hp : 0 ≤ p ∧ p ≤ 9) (hb : 0 ≤ g0 215 (26 + p) ∧ g0 215 (26 + p) ≤ 20) (e : i = g 232 p - 1) (r : g 232 p = g0 232 p) (c : i = -1) : zNY p g0 g :=
  zNY_k (i := i) I0 h0 h hp hb (by rw [e, r]; rfl) (fun T => by unfold zwt; rw [zite_n (fun z => z.1 c)])
theorem zNY_y {p w i j : Int} {g0 g g38 g40 g41 : zi_M} (I0 : zk_I g0) (h0 : zNa0 p w g0) (h : zN4 p w g0 g) (hp : 0 ≤ p ∧ p ≤ 9) (hb : 0 ≤ g0 215 (26 + p) ∧ g0 215 (26 + p) ≤ 20) (e : i = g 232 p - 1) (r : g 232 p = g0 232 p) (c : ¬ i = -1) (ej : j = g 232 p - 1) (b43 : 0 ≤ g 214 43 ∧ g 214 43 ≤ 89) (e38 : g38 = zi_u g 237 (g 214 43) j) (e40 : g40 = zi_u g38 238 (g38 214 43) w) (e41 : g41 = zi_u g40 214 43 (g40 214 43 + 1)) : zNY p g0 g41 :=
  zNY_k (i := i) I0 h0 h hp hb (by rw [e, r]; rfl) (fun T => by
    have n38 : g38 214 43 = g 214 43 := by rw [e38]; exact zi_u_ne (by decide)
    have n40 : g40 214 43 = g 214 43 := by rw [e40, zi_u_ne (by decide)]; exact n38
    have v := (zVM_w (T := T) (g := g)).1
    unfold zwt
    rw [zite_p ⟨c, by rw [v]; omega⟩, v, e41, zN_wn, n40, e40, zN_ww ⟨by omega, by omega⟩, n38, e38, zN_wi ⟨by omega, by omega⟩, ej, ← e]
    rw [zup_c (a := 2001 + g 214 43) (b := 2101 + g 214 43) (by omega)])
theorem zNY_r {g0 g : zi_M} (F : zk_fr fr_M_saysFirst g0 g) (p : Int) : g 232 p = g0 232 p := F 232 p (fun w => by unfold fr_M_saysFirst at w; omega)
theorem zNY_5 {g0 g : zi_M} (F : zk_fr fr_M_saysFirst g0 g) : g 214 5 = g0 214 5 := F 214 5 (fun w => by unfold fr_M_saysFirst at w; omega)
