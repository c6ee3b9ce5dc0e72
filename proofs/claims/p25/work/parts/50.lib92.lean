-- THE LAW kept alike in both
noncomputable def zgt : List zLi → Prop
  | [] => True
  | x :: Ls => (zwty x.2.1 [] [false] ∧ (x.2.2 = [] ∨ zwty x.2.2 [] [true])) ∧ zgt Ls
theorem zgt_ln {T : zyT} (n : Nat) : ∀ (k t : Int), (zLn T n k t).2.1 = 0 → zgt (zLn T n k t).1 := by
  induction n with
  | zero =>
    intro k t h
    have h9 : (9 : Int) = 0 := h
    exact absurd h9 (by decide)
  | succ n ih =>
    intro k t h
    by_cases e4 : T.1 t = 4
    · rw [zLn_e e4]
      exact trivial
    · by_cases c : T.1 t = 2 ∧ 0 ≤ T.2.1 t ∧ T.2.1 t ≤ 2
      · by_cases k16 : 16 ≤ k
        · rw [zLn_3 c k16] at h
          exact absurd h (show ¬ (3 : Int) = 0 by decide)
        · by_cases s : (zSu T (t + 1)).2.1 = 0
          · by_cases w : (zWhn T (zSu T (t + 1)).2.2).2.1 = 0
            · by_cases e : zSg T 59 (zWhn T (zSu T (t + 1)).2.2).2.2
              · rw [zLn_y c k16 s w e] at h ⊢
                have r := ih (k + 1) _ h
                refine ⟨⟨zwty_su s (by decide), ?_⟩, r⟩
                by_cases y : T.1 (zSu T (t + 1)).2.2 = 2 ∧ T.2.1 (zSu T (t + 1)).2.2 = 3
                · rw [zWhn_1 y] at w ⊢
                  exact Or.inr (zwty_cnd w)
                · rw [zWhn_0 y]
                  exact Or.inl rfl
              · rw [zLn_n c k16 s w e] at h
                exact absurd h (show ¬ (1 : Int) = 0 by decide)
            · rw [zLn_w c k16 s w] at h
              exact absurd h w
          · rw [zLn_s c k16 s] at h
            exact absurd h s
      · rw [zLn_1 e4 c] at h
        exact absurd h (show ¬ (1 : Int) = 0 by decide)
theorem zgt_law {T : zyT} (h : (zLaw T).2.1 = 0) : zgt (zLaw T).1 := zgt_ln 402 0 0 h
theorem zlcL_n {r : Nat} {g g' : zi_M} {Ls : List zLi} (h : zlcL r g Ls) (e : ∀ (a : Nat) (i : Int), r ≤ a → a ≤ r + 6 → g' a i = g a i) : zlcL r g' Ls := by
  have q : ∀ k : Nat, k ≤ 6 → g' (r + k) = g (r + k) := fun k hk => funext (fun i => e _ i (by omega) (by omega))
  unfold zlcL at *
  rw [q 1 (by decide), q 2 (by decide), q 3 (by decide), q 4 (by decide), q 5 (by decide), q 6 (by decide), e r 2 (by omega) (by omega), e r 7 (by omega) (by omega)]
  exact h
theorem zlrL_n {g g' : zi_M} {Ls : List zLi} (h : zlrL g Ls) (b : g 224 0 ≤ 16) (w : zlrw g g') (e : g' 224 0 = g 224 0) : zlrL g' Ls := by
  obtain ⟨h1, x, h2, h3⟩ := h
  exact ⟨by rw [e]; exact h1, x, h2, zLs_c h3 (fun i i0 i1 => w.1 i (by omega)) (fun i i0 i1 => by
    rw [List.length_map] at i1
    exact ⟨w.2 _ i (by decide) (by decide) (by omega), w.2 _ i (by decide) (by decide) (by omega), w.2 _ i (by decide) (by decide) (by omega), w.2 _ i (by decide) (by decide) (by omega)⟩)⟩
noncomputable def zLW (g : zi_M) : Prop := ∃ Ls : List zLi, zgt Ls ∧ zlcL 20 g Ls ∧ zlrL g Ls
/-- in the image -/
noncomputable def zlrI (g : zi_M) (Ls : List zLi) : Prop := (Ls.length : Int) = g 250 1139 ∧ ∃ e : Int, e ≤ 400 ∧ zLs (fun i => g 250 (1204 + 2 * i)) (fun i => g 250 (1205 + 2 * i)) (fun i => g 250 (1140 + 4 * i)) (fun i => g 250 (1141 + 4 * i)) (fun i => g 250 (1142 + 4 * i)) (fun i => g 250 (1143 + 4 * i)) (Ls.map zxl) 0 0 e
noncomputable def zLWk (g : zi_M) : Prop := ∃ Ls : List zLi, zgt Ls ∧ zlcL 65 g Ls ∧ zlrI g Ls
section
variable {g g1 g2 : zi_M} {l v1 v2 : Int}
theorem zLW_n (R : zLW g) (b : g 224 0 ≤ 16) (e : ∀ (a : Nat) (i : Int), (20 ≤ a ∧ a ≤ 26) ∨ (224 ≤ a ∧ a ≤ 230) → g1 a i = g a i) : zLW g1 := by
  obtain ⟨Ls, t, c, r⟩ := R
  exact ⟨Ls, t, zlcL_n c (fun a i a0 a1 => e a i (by omega)), zlrL_n r b (zlrw_w (fun a i a0 a1 => e a i (by omega))) (e 224 0 (by omega))⟩
theorem zLWk_n (R : zLWk g) (e : ∀ (a : Nat) (i : Int), (65 ≤ a ∧ a ≤ 71) ∨ a = 250 → g1 a i = g a i) : zLWk g1 := by
  obtain ⟨Ls, t, c, r⟩ := R
  have q : g1 250 = g 250 := funext (fun i => e 250 i (Or.inr rfl))
  refine ⟨Ls, t, zlcL_n c (fun a i a0 a1 => e a i (by omega)), ?_⟩
  unfold zlrI at *
  rw [q]
  exact r
theorem zLW_0 (c2 : g 20 2 = 0) (c7 : g 20 7 = 0) (r : g 224 0 = 0) : zLW g := by
  refine ⟨[], trivial, ⟨?_, ?_⟩, ?_, 0, by decide, rfl⟩
  · show (0 : Int) = g 20 2
    omega
  · show (0 : Int) = g 20 7
    omega
  · show (0 : Int) = g 224 0
    omega
/-- a text -/
theorem zLW_text (R : zLW g) (b : g 224 0 ≤ 16) (a : zlcX l v1 g g1) (c : zlrX l (zyM g1) v2 g1 g2) (ev : v1 = v2) (hs : ∀ (a : Nat) (i : Int), 214 ≤ a → g1 a i = g a i) (hm : ∀ (a : Nat) (i : Int), a ≤ 213 → g2 a i = g1 a i) : zLW g2 := by
  by_cases h : l = 0 ∧ ¬ v2 = -1
  · obtain ⟨z, k⟩ := (a.1 h.1).1 (by omega)
    exact ⟨_, zgt_law z, zlcL_n k (fun a i a0 a1 => hm a i (by omega)), (c.1 h.1 h.2).2⟩
  · obtain ⟨Ls, t, k, r⟩ := R
    have e : ∀ (a : Nat) (i : Int), 20 ≤ a → a ≤ 26 → g1 a i = g a i := by
      by_cases l0 : l = 0
      · exact (a.1 l0).2 (by omega)
      · exact a.2 l0
    have c2 := c.2 h
    have e224 : g1 224 0 = g 224 0 := hs 224 0 (by decide)
    exact ⟨Ls, t, zlcL_n k (fun a i a0 a1 => (hm a i (by omega)).trans (e a i a0 (by omega))), zlrL_n r b (zlrw_t (zlrw_w (fun a i a0 a1 => hs a i (by omega))) c2.1) ((c2.2 0).trans e224)⟩
/-- an image is taken -/
theorem zLWk_t (R : zLW g) (b : g 20 7 ≤ 16) (C : zLcp 65 20 g g1) (hs : ∀ (a : Nat) (i : Int), 214 ≤ a → g1 a i = g a i) (M : zimT g1 g2) : zLWk g2 := by
  obtain ⟨Ls, t, k, r⟩ := R
  obtain ⟨r1, e, r2, r3⟩ := r
  have z1 : za 1139 = 224 ∧ zb 1139 = 0 := by decide +kernel
  have a4 : ∀ n : Nat, n < 16 → (za (1140 + 4 * (n : Int)) = 225 ∧ zb (1140 + 4 * (n : Int)) = n) ∧ (za (1141 + 4 * (n : Int)) = 226 ∧ zb (1141 + 4 * (n : Int)) = n) ∧ (za (1142 + 4 * (n : Int)) = 227 ∧ zb (1142 + 4 * (n : Int)) = n) ∧ (za (1143 + 4 * (n : Int)) = 228 ∧ zb (1143 + 4 * (n : Int)) = n) := by decide +kernel
  have a2 : ∀ n : Nat, n < 400 → (za (1204 + 2 * (n : Int)) = 229 ∧ zb (1204 + 2 * (n : Int)) = n) ∧ (za (1205 + 2 * (n : Int)) = 230 ∧ zb (1205 + 2 * (n : Int)) = n) := by decide +kernel
  have n16 : (Ls.length : Int) ≤ 16 := by have := k.2; omega
  refine ⟨Ls, t, zlcL_n (zlcL_cp (r1 := 20) k b C) (fun a i a0 a1 => M.2.1 a i (by omega) (by omega)), ?_, e, r2, zLs_c r3 (fun i i0 i1 => ?_) (fun i i0 i1 => ?_)⟩
  · rw [M.1 1139 (by decide) (by decide), z1.1, z1.2, hs 224 0 (by decide)]
    exact r1
  · obtain ⟨⟨p1, p2⟩, p3, p4⟩ := a2 i.toNat (by omega)
    have ei : ((i.toNat : Nat) : Int) = i := by omega
    rw [ei] at p1 p2 p3 p4
    show g2 250 (1204 + 2 * i) = g 229 i ∧ g2 250 (1205 + 2 * i) = g 230 i
    rw [M.1 _ (by omega) (by omega), M.1 _ (by omega) (by omega), p1, p2, p3, p4, hs 229 i (by decide), hs 230 i (by decide)]
    exact ⟨rfl, rfl⟩
  · rw [List.length_map] at i1
    obtain ⟨⟨p1, p2⟩, ⟨p3, p4⟩, ⟨p5, p6⟩, p7, p8⟩ := a4 i.toNat (by omega)
    have ei : ((i.toNat : Nat) : Int) = i := by omega
    rw [ei] at p1 p2 p3 p4 p5 p6 p7 p8
    show g2 250 (1140 + 4 * i) = g 225 i ∧ g2 250 (1141 + 4 * i) = g 226 i ∧ g2 250 (1142 + 4 * i) = g 227 i ∧ g2 250 (1143 + 4 * i) = g 228 i
    rw [M.1 _ (by omega) (by omega), M.1 _ (by omega) (by omega), M.1 _ (by omega) (by omega), M.1 _ (by omega) (by omega), p1, p2, p3, p4, p5, p6, p7, p8, hs 225 i (by decide), hs 226 i (by decide), hs 227 i (by decide), hs 228 i (by decide)]
    exact ⟨rfl, rfl, rfl, rfl⟩
/-- an image is gone back to -/
theorem zLW_r (R : zLWk g) (b : g 65 7 ≤ 16) (C : zLcp 20 65 g g1) (hs : ∀ (a : Nat) (i : Int), 214 ≤ a → g1 a i = g a i) (hm : ∀ (a : Nat) (i : Int), a ≤ 213 → g2 a i = g1 a i) (M : zimR g1 g2) : zLW g2 := by
  obtain ⟨Ls, t, k, r⟩ := R
  obtain ⟨r1, e, r2, r3⟩ := r
  have z1 : zv 224 0 = 1139 := by decide +kernel
  have a4 : ∀ n : Nat, n < 16 → zv 225 (n : Int) = 1140 + 4 * (n : Int) ∧ zv 226 (n : Int) = 1141 + 4 * (n : Int) ∧ zv 227 (n : Int) = 1142 + 4 * (n : Int) ∧ zv 228 (n : Int) = 1143 + 4 * (n : Int) := by decide +kernel
  have a2 : ∀ n : Nat, n < 400 → zv 229 (n : Int) = 1204 + 2 * (n : Int) ∧ zv 230 (n : Int) = 1205 + 2 * (n : Int) := by decide +kernel
  have n16 : (Ls.length : Int) ≤ 16 := by have := k.2; omega
  refine ⟨Ls, t, zlcL_n (zlcL_cp (r1 := 65) k b C) (fun a i a0 a1 => hm a i (by omega)), ?_, e, r2, zLs_c r3 (fun i i0 i1 => ?_) (fun i i0 i1 => ?_)⟩
  · rw [M.1 224 0 (by rw [z1]; decide), z1, hs 250 _ (by decide)]
    exact r1
  · obtain ⟨p1, p2⟩ := a2 i.toNat (by omega)
    have ei : ((i.toNat : Nat) : Int) = i := by omega
    rw [ei] at p1 p2
    show g2 229 i = g 250 (1204 + 2 * i) ∧ g2 230 i = g 250 (1205 + 2 * i)
    rw [M.1 229 i (by omega), M.1 230 i (by omega), p1, p2, hs 250 _ (by decide), hs 250 _ (by decide)]
    exact ⟨rfl, rfl⟩
  · rw [List.length_map] at i1
    obtain ⟨p1, p2, p3, p4⟩ := a4 i.toNat (by omega)
    have ei : ((i.toNat : Nat) : Int) = i := by omega
    rw [ei] at p1 p2 p3 p4
    show g2 225 i = g 250 (1140 + 4 * i) ∧ g2 226 i = g 250 (1141 + 4 * i) ∧ g2 227 i = g 250 (1142 + 4 * i) ∧ g2 228 i = g 250 (1143 + 4 * i)
    rw [M.1 225 i (by omega), M.1 226 i (by omega), M.1 227 i (by omega), M.1 228 i (by omega), p1, p2, p3, p4, hs 250 _ (by decide), hs 250 _ (by decide), hs 250 _ (by decide), hs 250 _ (by decide)]
    exact ⟨rfl, rfl, rfl, rfl⟩
/-- an image is taken: the law stays -/
theorem zLW_t (R : zLW g) (b : g 224 0 ≤ 16) (K : zyTk 19 g g1) (hs : ∀ (a : Nat) (i : Int), 214 ≤ a → g1 a i = g a i) (hm : ∀ (a : Nat) (i : Int), a ≤ 213 → g2 a i = g1 a i) (M : zimT g1 g2) : zLW g2 := zLW_n R b (fun a i h => by
  rcases h with h | h
  · rw [hm a i (by omega)]; exact K a i (by omega) (by omega)
  · rw [M.2.1 a i (by omega) (by omega)]; exact hs a i (by omega))
/-- an image is gone back to: it stays -/
theorem zLWk_r (R : zLWk g) (K : zyTk 64 g g1) (hs : ∀ (a : Nat) (i : Int), 214 ≤ a → g1 a i = g a i) (hm : ∀ (a : Nat) (i : Int), a ≤ 213 → g2 a i = g1 a i) (M : zimR g1 g2) : zLWk g2 := zLWk_n R (fun a i h => by
  rcases h with h | h
  · rw [hm a i (by omega)]; exact K a i (by omega) (by omega)
  · subst h
    rw [M.2.1 250 i (zv_250 i) (by decide)]; exact hs 250 i (by decide))
end
noncomputable def zFlw (a : Nat) (i : Int) : Prop := (20 ≤ a ∧ a ≤ 26) ∨ (224 ≤ a ∧ a ≤ 230)
noncomputable def zFlk (a : Nat) (i : Int) : Prop := (65 ≤ a ∧ a ≤ 71) ∨ a = 250
