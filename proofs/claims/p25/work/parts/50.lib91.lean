-- THE LAW that is run: the class's, the reference's
theorem zs_law : ∀ r, r < 251 → zs_sh r = some (3, 10) → r = 20 ∨ r = 65 ∨ r = 196 := by decide +kernel
theorem zs_lawI {r : Nat} (h : zs_sh r = some (3, 10)) : r = 20 ∨ r = 65 ∨ r = 196 := zs_law r (zs_lt h).1 h
noncomputable def zlcL (r : Nat) (g : zi_M) (Ls : List zLi) : Prop := zLs (g (r + 1)) (g (r + 2)) (g (r + 3)) (g (r + 4)) (g (r + 5)) (g (r + 6)) Ls 0 0 (g r 2) ∧ (Ls.length : Int) = g r 7
noncomputable def zLcp (r0 r1 : Nat) (g g' : zi_M) : Prop := (g' r0 2 = g r1 2 ∧ g' r0 7 = g r1 7) ∧ (∀ i : Int, 0 ≤ i → i < g r1 2 → g' (r0 + 1) i = g (r1 + 1) i) ∧ (∀ i : Int, 0 ≤ i → i < g r1 2 → g' (r0 + 2) i = g (r1 + 2) i) ∧ (∀ i : Int, 0 ≤ i → i < 16 → g' (r0 + 3) i = g (r1 + 3) i) ∧ (∀ i : Int, 0 ≤ i → i < 16 → g' (r0 + 4) i = g (r1 + 4) i) ∧ (∀ i : Int, 0 ≤ i → i < 16 → g' (r0 + 5) i = g (r1 + 5) i) ∧ ∀ i : Int, 0 ≤ i → i < 16 → g' (r0 + 6) i = g (r1 + 6) i
theorem zLcp_all {r0 r1 : Nat} {g h1 h2 h3 h4 h5 h6 h7 h8 : zi_M} (hr0 : zs_sh r0 = some (3, 10)) (hr1 : zs_sh r1 = some (3, 10)) (e1 : h1 = zi_cp g (r1 + 1) 0 (r0 + 1) 0 (g r1 2)) (e2 : h2 = zi_cp h1 (r1 + 2) 0 (r0 + 2) 0 (h1 r1 2)) (e3 : h3 = zi_u h2 r0 2 (h2 r1 2)) (e4 : h4 = zi_cp h3 (r1 + 3) 0 (r0 + 3) 0 16) (e5 : h5 = zi_cp h4 (r1 + 4) 0 (r0 + 4) 0 16) (e6 : h6 = zi_cp h5 (r1 + 5) 0 (r0 + 5) 0 16) (e7 : h7 = zi_cp h6 (r1 + 6) 0 (r0 + 6) 0 16) (e8 : h8 = zi_u h7 r0 7 (h7 r1 7)) : zLcp r0 r1 g h8 := by
  have q0 := zs_lawI hr0
  have q1 := zs_lawI hr1
  clear hr0 hr1
  subst e1 e2 e3 e4 e5 e6 e7 e8
  rcases q0 with q0 | q0 | q0 <;> rcases q1 with q1 | q1 | q1 <;> subst q0 q1 <;> refine ⟨⟨?_, ?_⟩, ?_, ?_, ?_, ?_, ?_, ?_⟩ <;> first | (simp [zi_u, zi_cp]; done) | (intro i h0 h1; simp [zi_u, zi_cp, h0, h1]; done)
theorem zlcL_cp {r0 r1 : Nat} {g g' : zi_M} {Ls : List zLi} (h : zlcL r1 g Ls) (b : g r1 7 ≤ 16) (c : zLcp r0 r1 g g') : zlcL r0 g' Ls := by
  obtain ⟨⟨c1, c2⟩, c3, c4, c5, c6, c7, c8⟩ := c
  unfold zlcL
  rw [c1, c2]
  exact ⟨zLs_c h.1 (fun i i0 i1 => ⟨c3 i i0 i1, c4 i i0 i1⟩) (fun i i0 i1 => ⟨c5 i i0 (by have := h.2; omega), c6 i i0 (by have := h.2; omega), c7 i i0 (by have := h.2; omega), c8 i i0 (by have := h.2; omega)⟩), h.2⟩
noncomputable def zlcS (v : Int) (g g' : zi_M) : Prop := (¬ v = -1 → (zLaw (zyM g')).2.1 = 0 ∧ zlcL 20 g' (zLaw (zyM g')).1) ∧ (v = -1 → ∀ (a : Nat) (i : Int), 20 ≤ a → a ≤ 26 → g' a i = g a i)
noncomputable def zlcX (l v : Int) (g g' : zi_M) : Prop := (l = 0 → zlcS v g g') ∧ (¬ l = 0 → ∀ (a : Nat) (i : Int), 20 ≤ a → a ≤ 26 → g' a i = g a i)
theorem zlcX_n {l v : Int} {g g' : zi_M} (h : ¬ l = 0) (e : ∀ (a : Nat) (i : Int), 20 ≤ a → a ≤ 26 → g' a i = g a i) : zlcX l v g g' := ⟨fun q => absurd q h, fun _ => e⟩
theorem zlcX_0 {l v : Int} {g g1 g' : zi_M} (h : l = 0) (k : zlcS v g1 g') (e : ∀ (a : Nat) (i : Int), 20 ≤ a → a ≤ 26 → g1 a i = g a i) : zlcX l v g g' := ⟨fun _ => ⟨k.1, fun q a i a0 a1 => (k.2 q a i a0 a1).trans (e a i a0 a1)⟩, fun n => absurd h n⟩
-- the reference
noncomputable def zlrL (g : zi_M) (Ls : List zLi) : Prop := (Ls.length : Int) = g 224 0 ∧ ∃ e : Int, e ≤ 400 ∧ zLs (g 229) (g 230) (g 225) (g 226) (g 227) (g 228) (Ls.map zxl) 0 0 e
noncomputable def zlrT (l : Int) (g g' : zi_M) : Prop := g' 224 0 = l ∧ (∀ i : Int, 0 ≤ i → i < l → g' 225 i = g 225 (32 + i) ∧ g' 226 i = g 226 (32 + i) ∧ g' 227 i = g 227 (32 + i) ∧ g' 228 i = g 228 (32 + i)) ∧ ∀ i : Int, 0 ≤ i → i < g 214 27 → g' 229 i = g 229 (800 + i) ∧ g' 230 i = g 230 (800 + i)
theorem zlrT_l {l : Int} {g g' : zi_M} {Ls : List zLi} (h : zlrT l g g') (k : zLr_ g Ls (g 214 27)) (n : (Ls.length : Int) = l) (b : g 214 27 ≤ 400) : zlrL g' Ls := by
  obtain ⟨h1, h2, h3⟩ := h
  refine ⟨by rw [h1]; exact n, g 214 27, b, zLs_c k (fun i i0 i1 => h3 i i0 i1) (fun i i0 i1 => h2 i i0 (by rw [List.length_map] at i1; omega))⟩
noncomputable def zlrS (l : Int) (T : zyT) (v : Int) (g g' : zi_M) : Prop := (l = 0 → (¬ v = -1 → (zLaw T).2.1 = 0 ∧ zLr_ g' (zLaw T).1 (g' 214 27) ∧ ((zLaw T).1.length : Int) = v) ∧ (v = -1 → zlrw g g')) ∧ (1 ≤ l → l ≤ 3 → zlrw g g')
theorem zlrS_n {l v : Int} {T : zyT} {g g' : zi_M} (h : ¬ l = 0) (e : zlrw g g') : zlrS l T v g g' := ⟨fun q => absurd q h, fun _ _ => e⟩
theorem zlrS_0 {l v : Int} {T : zyT} {g g3 g' : zi_M} (h : l = 0) (r : ((zLaw T).2.1 = 0 → v = ((zLaw T).1.length : Int) ∧ zLr_ g' (zLaw T).1 (g' 214 27)) ∧ (¬ (zLaw T).2.1 = 0 → v = -1 ∧ zyG T g' (zLaw T).2.1 (zLaw T).2.2 ∧ zlrw g3 g')) (e : zlrw g g3) : zlrS l T v g g' := by
  refine ⟨fun _ => ⟨fun n => ?_, fun n => ?_⟩, fun a _ => by exfalso; omega⟩
  · have z : (zLaw T).2.1 = 0 := Classical.byContradiction (fun z => n (r.2 z).1)
    exact ⟨z, (r.1 z).2, (r.1 z).1.symm⟩
  · have z : ¬ (zLaw T).2.1 = 0 := fun z => by have := (r.1 z).1; omega
    exact zlrw_t e (r.2 z).2.2
theorem zlrw_w {g g1 : zi_M} (F : ∀ (a : Nat) (i : Int), 225 ≤ a → a ≤ 230 → g1 a i = g a i) : zlrw g g1 := ⟨fun i _ => ⟨F 229 i (by decide) (by decide), F 230 i (by decide) (by decide)⟩, fun a i a0 a1 _ => F a i a0 (by omega)⟩
noncomputable def zlrX (l : Int) (T : zyT) (v : Int) (g g' : zi_M) : Prop := (l = 0 → ¬ v = -1 → (zLaw T).2.1 = 0 ∧ zlrL g' (zLaw T).1) ∧ (¬ (l = 0 ∧ ¬ v = -1) → zlrw g g' ∧ ∀ i : Int, g' 224 i = g 224 i)
