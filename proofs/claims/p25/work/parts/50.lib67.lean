-- UNDO on the rows
noncomputable def zUk (v : Int) (g g' : zi_M) : Prop := (g 91 1 < 1 → v = 0 ∧ g' = g) ∧ (1 ≤ g 91 1 → v = 1 ∧ g' 91 1 = g 91 1 - 1 ∧ (∀ T k : Int, zRw T k → zVC T 2 g' k = zRV T g (g 91 1 - 1) k) ∧ (∀ T e k : Int, 0 ≤ e → e < g 91 1 - 1 → zRw T k → zRV T g' e k = zRV T g e k) ∧ ∀ T k : Int, ¬ zRw T k → zVC T 2 g' k = zVC T 2 g k)
theorem zUk_n {g : zi_M} (c : g 91 1 < 1) : zUk 0 g g := ⟨fun _ => ⟨rfl, rfl⟩, fun h => by exfalso; omega⟩
theorem zVC_far {T k : Int} {g g' : zi_M} (hk : ¬ zRw T k) (e : ∀ (a : Nat) (i : Int), 13 < a → ¬ a = 91 → g' a i = g a i) : zVC T 2 g' k = zVC T 2 g k := by
  unfold zVC
  by_cases d : zdm T k
  · rw [zite_p d, zite_p d]
    have q : 13 < zca 2 k ∧ ¬ zca 2 k = 91 := by
      unfold zRw at hk
      unfold zdm at d
      unfold zca
      rcases d with d | d | d | d
      · exfalso; omega
      · by_cases m0 : k % 4 = 0
        · repeat (first | rw [if_neg (by omega)] | rw [if_pos (by omega)])
          omega
        · by_cases m1 : k % 4 = 1
          · repeat (first | rw [if_neg (by omega)] | rw [if_pos (by omega)])
            omega
          · by_cases m2 : k % 4 = 2
            · repeat (first | rw [if_neg (by omega)] | rw [if_pos (by omega)])
              omega
            · repeat (first | rw [if_neg (by omega)] | rw [if_pos (by omega)])
              omega
      · by_cases m0 : k = 2000
        · repeat (first | rw [if_neg (by omega)] | rw [if_pos (by omega)])
          omega
        · repeat (first | rw [if_neg (by omega)] | rw [if_pos (by omega)])
          omega
      · repeat (first | rw [if_neg (by omega)] | rw [if_pos (by omega)])
        omega
    rw [e _ _ q.1 q.2]
  · rw [zite_n d, zite_n d]
theorem zUk_y {g g3 g4 g7 : zi_M} (I : zk_I g) (c1 : 1 ≤ g 91 1) (e1 : g3 = zi_u g 91 2 (Int.tmod (((g 91 2) + 6) - 1) 6)) (e2 : g4 = zi_u g3 91 1 ((g3 91 1) - 1)) (F : zk_fr (fr_World_copyFrom 2 (93 + 12 * (g4 91 2).toNat)) g4 g7) (W : zWc 2 (93 + 12 * (g4 91 2).toNat) g4 g7) : zUk 1 g g7 := by
  have b : (0 : Int) ≤ g 91 2 ∧ g 91 2 ≤ 5 := I.1 91 2
  have c : (0 : Int) ≤ g 91 1 ∧ g 91 1 ≤ 6 := I.1 91 1
  have u : ∀ (a : Nat) (i : Int), a ≠ 91 → g4 a i = g a i := fun a i q => by rw [e2, zi_u_ne q, e1, zi_u_ne q]
  have n2 : g4 91 2 = (g 91 2 + 5) % 6 := by
    rw [e2, zi_u_ni (by decide), e1, zi_u_eq, Int.tmod_eq_emod_of_nonneg (by omega), show g 91 2 + 6 - 1 = g 91 2 + 5 by omega]
  have f : ∀ (a : Nat) (i : Int), (a < 2 ∨ 13 < a) → g7 a i = g4 a i := fun a i q => F a i (fun w => by unfold fr_World_copyFrom at w; omega)
  have n1 : g7 91 1 = g 91 1 - 1 := by rw [f 91 1 (by omega), e2, zi_u_eq, e1, zi_u_ni (by decide)]
  have n3 : g7 91 2 = (g 91 2 + 5) % 6 := by rw [f 91 2 (by omega)]; exact n2
  refine ⟨fun h => by exfalso; omega, fun _ => ⟨rfl, n1, fun T k hk => ?_, fun T e k e0 el hk => ?_, fun T k hk => ?_⟩⟩
  · rw [zVC_wc W hk]
    show _ = zVC T (zSlt g (g 91 1 - 1)) g k
    have es : zSlt g (g 91 1 - 1) = 93 + 12 * (g4 91 2).toNat := by
      unfold zSlt
      rw [show g 91 2 + 6 - g 91 1 + (g 91 1 - 1) = g 91 2 + 5 by omega, n2]
    rw [es]
    exact zVC_wc (zWs_c (fun a i q => u a i (by omega))) hk
  · show zVC T (zSlt g7 e) g7 k = zVC T (zSlt g e) g k
    have es : zSlt g7 e = zSlt g e := by
      unfold zSlt
      rw [n1, n3, show ((g 91 2 + 5) % 6 + 6 - (g 91 1 - 1) + e) % 6 = (g 91 2 + 6 - g 91 1 + e) % 6 by omega]
    have hs : 93 ≤ zSlt g e ∧ zSlt g e ≤ 153 := by unfold zSlt; omega
    rw [es]
    exact zVC_wc (zWs_c (fun a i q => by rw [f a i (by omega), u a i (by omega)])) hk
  · exact zVC_far hk (fun a i h1 h2 => by rw [f a i (by omega), u a i h2])
noncomputable def zUi (l : Int) (g0 g : zi_M) : Prop := ∀ k : Int, 0 ≤ k → k < l → g 215 k = g0 216 (264 * (g0 214 3 - 1) + k)
theorem zUi_0 {g0 g : zi_M} : zUi 0 g0 g := fun k k0 k1 => by exfalso; omega
theorem zUi_s {l : Int} {g0 g g7 : zi_M} (h : zUi l g0 g) (F : zk_fr fr_M_undo g0 g) (e3 : g 214 3 = g0 214 3 - 1) (e : g7 = zi_u g 215 l (g 216 (264 * g 214 3 + l))) : zUi (l + 1) g0 g7 := fun k k0 k1 => by
  by_cases q : k = l
  · rw [q, e, zi_u_eq, e3, F 216 _ (fun w => by unfold fr_M_undo at w; omega)]
  · rw [e, zi_u_ni q]
    exact h k k0 (by omega)
noncomputable def zUm (v : Int) (g g' : zi_M) : Prop := (g 214 3 = 0 → v = 0 ∧ ∃ x : Int, g' = zi_u g 214 0 x) ∧ (¬ g 214 3 = 0 → v = 1 ∧ g' 214 3 = g 214 3 - 1 ∧ zUi 264 g g')
theorem zUm_n {g g1 : zi_M} {x : Int} (c : g 214 3 = 0) (e : g1 = zi_u g 214 0 x) : zUm 0 g g1 := ⟨fun _ => ⟨rfl, x, e⟩, fun h => absurd c h⟩
theorem zUm_y {g g9 : zi_M} (c : ¬ g 214 3 = 0) (n : g9 214 3 = g 214 3 - 1) (h : zUi 264 g g9) : zUm 1 g g9 := ⟨fun q => absurd q c, fun _ => ⟨rfl, n, h⟩⟩
theorem zUi_x {l : Int} {g0 g : zi_M} (h : zUi l g0 g) (e : l = 264) : zUi 264 g0 g := by
  rw [e] at h
  exact h
