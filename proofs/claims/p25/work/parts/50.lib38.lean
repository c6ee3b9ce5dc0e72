-- a day kept, gone back to
noncomputable def zKe (g g' : zi_M) : Prop := g' 91 1 = min (g 91 1 + 1) 6 ∧ g' 91 2 = (g 91 2 + 1) % 6 ∧ (∀ n k : Int, n ≤ 8 → zDC n k → zWV (93 + 12 * (g 91 2).toNat) g' k = zWV 2 g k) ∧ ∀ s : Int, 0 ≤ s → s < 6 → s ≠ g 91 2 → ∀ k : Int, zWV (93 + 12 * s.toNat) g' k = zWV (93 + 12 * s.toNat) g k
theorem zWV_e {r : Nat} {g g' : zi_M} (e17 : g' r 17 = g r 17) (e8 : ∀ i : Int, g' (r + 8) i = g (r + 8) i) (e9 : ∀ i : Int, g' (r + 9) i = g (r + 9) i) (k : Int) : zWV r g' k = zWV r g k := by
  unfold zWV
  rw [e17, e8, e9]
theorem zKe_of {g g3 g6 g8 : zi_M} (I : zk_I g) (F : zk_fr (fr_World_copyFrom (93 + 12 * (g 91 2).toNat) 2) g g3) (W : zWc (93 + 12 * (g 91 2).toNat) 2 g g3) (e1 : g6 = zi_u g3 91 2 (Int.tmod ((g3 91 2) + 1) 6)) (e2 : g8 = zi_u g6 91 1 (min ((g6 91 1) + 1) 6)) : zKe g g8 := by
  have b : (0 : Int) ≤ g 91 2 ∧ g 91 2 ≤ 5 := I.1 91 2
  have c : (0 : Int) ≤ g 91 1 ∧ g 91 1 ≤ 6 := I.1 91 1
  have f : ∀ (a : Nat) (i : Int), (a < 93 + 12 * (g 91 2).toNat ∨ 93 + 12 * (g 91 2).toNat + 11 < a) → g3 a i = g a i := fun a i q => F a i (fun w => by unfold fr_World_copyFrom at w; omega)
  have u : ∀ (a : Nat) (i : Int), a ≠ 91 → g8 a i = g3 a i := fun a i q => by rw [e2, zi_u_ne q, e1, zi_u_ne q]
  have n2 : g8 91 2 = (g 91 2 + 1) % 6 := by
    rw [e2, zi_u_ni (by decide), e1, zi_u_eq, f 91 2 (Or.inl (by omega)), Int.tmod_eq_emod_of_nonneg (by omega)]
  have n1 : g8 91 1 = min (g 91 1 + 1) 6 := by
    rw [e2, zi_u_eq, e1, zi_u_ni (by decide), f 91 1 (Or.inl (by omega))]
  refine ⟨n1, n2, fun n k n8 hk => ?_, fun s s0 s6 hs k => ?_⟩
  · rw [← zWV_c n8 W.1.2.2.2.2.2.1 W.2.2.2.2.2.2.2.2.1 W.2.2.2.2.2.2.2.2.2.1 k hk]
    exact zWV_e (u _ _ (by omega)) (fun i => u _ _ (by omega)) (fun i => u _ _ (by omega)) k
  · have t : s.toNat ≠ (g 91 2).toNat := by omega
    refine zWV_e ?_ (fun i => ?_) (fun i => ?_) k
    · rw [u _ _ (by omega), f _ _ (by omega)]
    · rw [u _ _ (by omega), f _ _ (by omega)]
    · rw [u _ _ (by omega), f _ _ (by omega)]
/-- the reference keeps: the rows of 216 -/
noncomputable def zKa (g g' : zi_M) : Prop := g' 214 3 = min (g 214 3 + 1) 6 ∧ (∀ e k : Int, 0 ≤ e → e < g' 214 3 - 1 → 0 ≤ k → k < 264 → g' 216 (264 * e + k) = g 216 (264 * (e + (g 214 3 + 1 - g' 214 3)) + k)) ∧ ∀ k : Int, 0 ≤ k → k < 264 → g' 216 (264 * (g' 214 3 - 1) + k) = g 215 k
theorem zDC_b {n k : Int} (h : zDC n k) (n8 : n ≤ 8) : 0 ≤ k ∧ k < 264 := by
  unfold zDC at h
  omega
theorem zKa_st {n : Int} {g g' : zi_M} (n8 : n ≤ 8) (h : zKa g g') : zRst (zDC n) (g 214 3) (fun e k => g 216 (264 * e + k)) (g 215) (g' 214 3) (fun e k => g' 216 (264 * e + k)) :=
  ⟨h.1, fun e k e0 e1 hk => h.2.1 e k e0 e1 (zDC_b hk n8).1 (zDC_b hk n8).2, fun k hk => h.2.2 k (zDC_b hk n8).1 (zDC_b hk n8).2⟩
theorem zKe_s {n : Int} {g g' : zi_M} (I : zk_I g) (n8 : n ≤ 8) (h : zKe g g') : zRst (zDC n) (g 91 1) (fun e k => zWV (zSlt g e) g k) (zWV 2 g) (g' 91 1) (fun e k => zWV (zSlt g' e) g' k) :=
  zKe_st (I.1 91 1) (I.1 91 2) h.1 h.2.1 (fun k hk => h.2.2.1 n k n8 hk) (fun s s0 s6 hs k _ => h.2.2.2 s s0 s6 hs k)
