-- one word said, all of it
noncomputable def zYj (r : Nat) (p w : Int) (g0 g : zi_M) : Prop := zYi r p w g0 g ∧ g r 0 = g0 r 0 ∧ g (r + 6) p = g0 (r + 6) p ∧ (∀ i : Int, g 29 i = g0 29 i)
theorem zFts {r : Nat} (hr : zs_sh r = some (10, 20)) {g0 g5 g8 : zi_M} (F : zk_fr (fr_Law_tells r) g0 g5) (Fs : zk_fr (fr_World_slips r) g5 g8) : g8 r 0 = g0 r 0 ∧ (∀ i : Int, g8 (r + 6) i = g0 (r + 6) i) ∧ ∀ i : Int, g8 29 i = g0 29 i := by
  have hb := zs_wb hr
  have s : ∀ (a : Nat) (i : Int), (a = r ∧ i = 0) ∨ a = r + 6 ∨ a = 29 → g8 a i = g0 a i := fun a i h => by
    rw [Fs a i (fun w => by unfold fr_World_slips at w; omega), F a i (fun w => by unfold fr_Law_tells at w; omega)]
  exact ⟨s r 0 (Or.inl ⟨rfl, rfl⟩), fun i => s _ i (Or.inr (Or.inl rfl)), fun i => s 29 i (Or.inr (Or.inr rfl))⟩
theorem zYj_a {r : Nat} {g0 g5 g8 : zi_M} {p v1 v4 v7 : Int} (hr : zs_sh r = some (10, 20)) (hp : 0 ≤ p ∧ p ≤ 9) (h1 : 0 ≤ p → p < g0 r 8 → (0 : Int) ≤ 0 → (0 : Int) < 20 → v1 = g0 (r + 7) (p * 20 + 0)) (F : zk_fr (fr_Law_tells r) g0 g5) (h4 : ∀ T : Int, v4 = zLc g0 r 2 p v1 (zVC T r g0)) (Fs : zk_fr (fr_World_slips r) g5 g8) (h7 : zYl r v4 g5 g8 v7) (c : v7 = 0) : zYj r p v1 g0 g8 :=
  ⟨zYi_a hr hp h1 F h4 h7 c, (zFts hr F Fs).1, (zFts hr F Fs).2.1 p, (zFts hr F Fs).2.2⟩
theorem zYj_b {r : Nat} {g0 g5 g8 g39 : zi_M} {p v1 v4 v7 : Int} (hr : zs_sh r = some (10, 20)) (hp : 0 ≤ p ∧ p ≤ 9) (h1 : 0 ≤ p → p < g0 r 8 → (0 : Int) ≤ 0 → (0 : Int) < 20 → v1 = g0 (r + 7) (p * 20 + 0)) (F : zk_fr (fr_Law_tells r) g0 g5) (h4 : ∀ T : Int, v4 = zLc g0 r 2 p v1 (zVC T r g0)) (Fs : zk_fr (fr_World_slips r) g5 g8) (h7 : zYl r v4 g5 g8 v7) (c : ¬ v7 = 0) (e : g39 = zi_u g8 r 16 (zi_w (g8 r 16 + 1))) : zYj r p (Int.tmod (v1 + 1) 16) g0 g39 := by
  have hb := zs_wb hr
  obtain ⟨a, b, d⟩ := zFts hr F Fs
  refine ⟨zYi_b hr hp h1 F h4 h7 c e, ?_, ?_, fun i => ?_⟩
  · rw [e, zi_u_ni (by decide)]; exact a
  · rw [e, zi_u_ne (by omega)]; exact b p
  · rw [e, zi_u_ne (by omega)]; exact d i
/-- behind the book -/
theorem zYb {r : Nat} {g0 g g10 g12 g15 : zi_M} {p w : Int} (hr : zs_sh r = some (10, 20)) (h : zYj r p w g0 g) (e10 : g10 = zi_u g r 15 (zi_w (g r 15 + 1))) (Fj : zk_fr (fr_World_fillJarsAt r) g10 g12) (Fw : zk_fr (fr_Book_write r) g12 g15) : g12 r 0 = g r 0 ∧ g15 (r + 6) p = g0 (r + 6) p ∧ ∀ i : Int, g15 29 i = g0 29 i := by
  have hb := zs_wb hr
  obtain ⟨-, a, b, d⟩ := h
  have f1 : ∀ (x : Nat) (i : Int), ¬ x = r + 11 → ¬ (x = r ∧ i = 15) → g12 x i = g x i := fun x i n1 n2 => by
    rw [Fj x i (fun w => by unfold fr_World_fillJarsAt at w; omega), e10]
    by_cases q : x = r
    · rw [q, zi_u_ni (fun z => n2 ⟨q, z⟩)]
    · exact zi_u_ne q
  have f2 : ∀ (x : Nat) (i : Int), (x = r + 6 ∨ x = 29) → g15 x i = g x i := fun x i h => by
    rw [Fw x i (fun w => by unfold fr_Book_write at w; omega), f1 x i (by omega) (by omega)]
  exact ⟨f1 r 0 (by omega) (by omega), by rw [f2 _ _ (Or.inl rfl)]; exact b, fun i => by rw [f2 _ _ (Or.inr rfl)]; exact d i⟩
theorem zeg_c {g g0 : zi_M} (h : ∀ i : Int, g 29 i = g0 29 i) (p : Int) : zeg g p = zeg g0 p := by
  unfold zeg
  rw [h p]
theorem zSb_1 {r : Nat} {g0 g g10 g12 g15 g22 : zi_M} {p w i : Int} (hr : zs_sh r = some (10, 20)) (h : zYj r p w g0 g) (e10 : g10 = zi_u g r 15 (zi_w (g r 15 + 1))) (Fj : zk_fr (fr_World_fillJarsAt r) g10 g12) (hj : zJF r p w g10 g12) (Fw : zk_fr (fr_Book_write r) g12 g15) (hw : zBw r 1 p w g12 g15)
    (a1 : p < 0 → i = -1) (a2 : 0 ≤ p → 10 ≤ p → i = -1) (a3 : 0 ≤ p → p < 10 → i = g15 29 p) (c : i = -1 ∨ 90 ≤ g15 177 2) (hd : zDp r p g15 g22) : zSF r p g0 g22 := by
  obtain ⟨x1, x2, x3⟩ := zYb hr h e10 Fj Fw
  refine zSb_k hr h.1 h.2.1 x2 e10 hj hw x1 ((zeg_v a1 a2 a3).trans (zeg_c x3 p)) (fun T => ?_) hd
  unfold zwt
  rw [zite_n]
  rintro ⟨n, m⟩
  rw [(zVC_rw (T := T) (r := r) (g := g15)).1] at m
  omega
theorem zSb_3 {r : Nat} {g0 g g10 g12 g15 g29 g31 g32 g34 : zi_M} {p w i : Int} (hr : zs_sh r = some (10, 20)) (h : zYj r p w g0 g) (e10 : g10 = zi_u g r 15 (zi_w (g r 15 + 1))) (Fj : zk_fr (fr_World_fillJarsAt r) g10 g12) (hj : zJF r p w g10 g12) (Fw : zk_fr (fr_Book_write r) g12 g15) (hw : zBw r 1 p w g12 g15)
    (a1 : p < 0 → i = -1) (a2 : 0 ≤ p → 10 ≤ p → i = -1) (a3 : 0 ≤ p → p < 10 → i = g15 29 p) (c : ¬ i = -1) (c2 : g15 177 2 < 90) (b2 : 0 ≤ g15 177 2) (e29 : g29 = zi_u g15 178 (g15 177 2) w) (e31 : g31 = zi_u g29 179 (g29 177 2) i) (e32 : g32 = zi_u g31 177 2 (g31 177 2 + 1)) (hd : zDp r p g32 g34) : zSF r p g0 g34 := by
  have hb := zs_wb hr
  obtain ⟨x1, x2, x3⟩ := zYb hr h e10 Fj Fw
  have n29 : g29 177 2 = g15 177 2 := by rw [e29]; exact zi_u_ne (by decide)
  have n31 : g31 177 2 = g15 177 2 := by rw [e31, zi_u_ne (by decide)]; exact n29
  refine zSb_k hr h.1 h.2.1 ?_ e10 hj hw x1 ((zeg_v a1 a2 a3).trans (zeg_c x3 p)) (fun T => ?_) hd
  · rw [e32, zi_u_ne (by omega), e31, zi_u_ne (by omega), e29, zi_u_ne (by omega)]
    exact x2
  · have v := (zVC_rw (T := T) (r := r) (g := g15)).1
    unfold zwt
    rw [zite_p ⟨c, by rw [v]; exact c2⟩, v, e32, zV_wn hb, n31, e31, zV_wi hb (by omega), n29, e29, zV_ww hb ⟨b2, c2⟩]
