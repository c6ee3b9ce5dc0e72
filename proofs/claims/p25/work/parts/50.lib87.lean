-- THE LAW as a text: how many lines, which fault, where
noncomputable def zqVl (T : zyT) : Int := if (zLaw T).2.1 = 0 then ((zLaw T).1.length : Int) else -1
noncomputable def zqVe (T : zyT) : Int := (zLaw T).2.1
noncomputable def zqVp (T : zyT) : Int := if (zLaw T).2.1 = 0 then -1 else T.2.2.1 (zLaw T).2.2
/-- the class's outcome -/
noncomputable def zqVc (v : Int) (g' : zi_M) : Prop := v = zqVl (zyM g') ∧ g' 191 5 = zqVe (zyM g') ∧ g' 191 6 = zqVp (zyM g')
/-- the reference's -/
noncomputable def zqVr (T : zyT) (v : Int) (g' : zi_M) : Prop := v = zqVl T ∧ g' 214 33 = zqVe T ∧ g' 214 34 = zqVp T
noncomputable def zqVq (T : zyT) (v : Int) (g : zi_M) : Prop := ((zLaw T).2.1 = 0 → v = ((zLaw T).1.length : Int)) ∧ (¬ (zLaw T).2.1 = 0 → v = -1 ∧ zyG T g (zLaw T).2.1 (zLaw T).2.2)
theorem zqVc_y {T : zyT} {g5 g8 : zi_M} (h : ((zLaw T).2.1 = 0 → (1 : Int) = 1 ∧ zLd_ g5 (zLaw T).1 (g5 196 2) ∧ ((zLaw T).1.length : Int) = g5 196 7 ∧ g5 191 5 = 0 ∧ g5 191 6 = -1)) (z : (zLaw T).2.1 = 0) (m : zyM g8 = T) (e7 : g8 196 7 = g5 196 7) (e5 : g8 191 5 = g5 191 5) (e6 : g8 191 6 = g5 191 6) : zqVc (g8 196 7) g8 := by
  obtain ⟨_, _, h3, h4, h5⟩ := h z
  unfold zqVc zqVl zqVe zqVp
  rw [m, if_pos z, if_pos z, e7, e5, e6]
  exact ⟨h3.symm, h4.trans z.symm, h5⟩
theorem zqVc_n {T : zyT} {g5 : zi_M} (z : ¬ (zLaw T).2.1 = 0) (h : zyF T g5 (zLaw T).2.1 (zLaw T).2.2) (m : zyM g5 = T) : zqVc (-1) g5 := by
  unfold zqVc zqVl zqVe zqVp
  rw [m, if_neg z, if_neg z]
  exact ⟨rfl, h.1, h.2⟩
theorem zqVr_y {T : zyT} {v : Int} {x y : zi_M} (h : zqVq T v x) (n : ¬ v = -1) (e : y 214 33 = 0) (f : y 214 34 = -1) : zqVr T v y := by
  have z : (zLaw T).2.1 = 0 := Classical.byContradiction (fun z => n (h.2 z).1)
  unfold zqVr zqVl zqVe zqVp
  rw [if_pos z, if_pos z]
  exact ⟨h.1 z, e.trans z.symm, f⟩
theorem zqVr_n {T : zyT} {x y : zi_M} (h : zqVq T (-1) x) (e : y 214 33 = x 214 31) (f : y 214 34 = x 214 32) : zqVr T (-1) y := by
  have z : ¬ (zLaw T).2.1 = 0 := fun z => by have := h.1 z; omega
  have k := (h.2 z).2
  unfold zqVr zqVl zqVe zqVp
  rw [if_neg z, if_neg z]
  exact ⟨rfl, e.trans k.1, f.trans k.2⟩
