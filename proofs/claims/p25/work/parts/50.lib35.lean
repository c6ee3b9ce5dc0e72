-- WEATHER's answers: the first line of that day
noncomputable def zWo (f h : Int → Int) (n d v : Int) : Prop := (∃ m : Int, 0 ≤ m ∧ m < n ∧ f m = d ∧ (∀ k : Int, 0 ≤ k → k < m → ¬ f k = d) ∧ v = h m) ∨ ((∀ k : Int, 0 ≤ k → k < n → ¬ f k = d) ∧ v = -1)
/-- the weather as the reference has it -/
noncomputable def zQw (g0 : zi_M) (d v : Int) : Prop := zWo (fun m => g0 233 (2 * m)) (fun m => g0 233 (2 * m + 1)) (g0 214 37) d v
noncomputable def zQn (g : zi_M) (b d : Int) : Prop := ∀ k : Int, 0 ≤ k → k < b → ¬ g 233 (2 * k) = d
theorem zQn_0 {g : zi_M} {d : Int} : zQn g 0 d := fun k h0 h1 => by omega
theorem zQn_s {g : zi_M} {d l : Int} (b : zQn g l d) (e : ¬ g 233 (2 * l) = d) : zQn g (l + 1) d := fun k k0 k1 => by
  by_cases c : k = l
  · rw [c]; exact e
  · exact b k k0 (by omega)
theorem zWo_a {f h : Int → Int} {n d m : Int} (m0 : 0 ≤ m) (m1 : m < n) (e : f m = d) (b : ∀ k : Int, 0 ≤ k → k < m → ¬ f k = d) : zWo f h n d (h m) := Or.inl ⟨m, m0, m1, e, b, rfl⟩
theorem zWo_b {f h : Int → Int} {n d : Int} (b : ∀ k : Int, 0 ≤ k → k < n → ¬ f k = d) : zWo f h n d (-1) := Or.inr ⟨b, rfl⟩
theorem zal_n {f : Int → Int} {d l : Int} (b : ∀ k : Int, 0 ≤ k → k < l → ¬ f k = d) (e : ¬ f l = d) : ∀ k : Int, 0 ≤ k → k < l + 1 → ¬ f k = d := fun k k0 k1 => by
  by_cases c : k = l
  · rw [c]; exact e
  · exact b k k0 (by omega)
theorem zWo_u {f h f' h' : Int → Int} {n n' d v v' : Int} (hn : n = n') (hf : ∀ m : Int, 0 ≤ m → m < n → f m = f' m ∧ h m = h' m) (a : zWo f h n d v) (b : zWo f' h' n' d v') : v' = v := by
  subst hn
  rcases a with ⟨m, m0, m1, m2, m3, m4⟩ | ⟨a1, a2⟩
  · rcases b with ⟨k, k0, k1, k2, k3, k4⟩ | ⟨b1, b2⟩
    · have e : k = m := by
        rcases Int.lt_trichotomy k m with c | c | c
        · exact absurd ((hf k k0 k1).1.trans k2) (m3 k k0 c)
        · exact c
        · exact absurd ((hf m m0 m1).1.symm.trans m2) (k3 m m0 c)
      rw [k4, m4, e, (hf m m0 m1).2]
    · exact absurd ((hf m m0 m1).1.symm.trans m2) (b1 m m0 m1)
  · rcases b with ⟨k, k0, k1, k2, k3, k4⟩ | ⟨b1, b2⟩
    · exact absurd ((hf k k0 k1).1.trans k2) (a1 k k0 k1)
    · rw [a2, b2]
theorem zWo_eq {g g2 : zi_M} {d v1 v2 : Int} (b : g 19 5 ≤ 16) (R : zXw g) (a : zWo (g 30) (g 31) (g 19 5) d v1) (c : zWo (fun m => g2 233 (2 * m)) (fun m => g2 233 (2 * m + 1)) (g2 214 37) d v2) (e37 : g2 214 37 = g 214 37) (e233 : ∀ i : Int, g2 233 i = g 233 i) : v2 = v1 :=
  zWo_u (by rw [e37]; exact R.1) (fun m m0 m1 => by have h := R.2 m m0 m1; exact ⟨by show g 30 m = g2 233 (2 * m); rw [e233]; exact h.1, by show g 31 m = g2 233 (2 * m + 1); rw [e233]; exact h.2⟩) a c
-- the TAPE, alike in both
theorem zTA_f {g g1 g2 : zi_M} {l1 l2 l3 l4 l5 : Int} (R : g 190 = g 222) (T : g 0 8 = g 214 13) (a : g 0 8 ≤ 380 → g1 190 = zfd (g 190) (g 0 8) l1 l2 l3 l4 l5) (b : 380 < g 0 8 → g1 190 = g 190) (c : g1 214 13 ≤ 380 → g2 222 = zfd (g1 222) (g1 214 13) l1 l2 l3 l4 l5) (d : 380 < g1 214 13 → g2 222 = g1 222) (e : ∀ i : Int, g1 222 i = g 222 i) (e13 : g1 214 13 = g 214 13) (f : ∀ i : Int, g2 190 i = g1 190 i) : g2 190 = g2 222 := by
  have e' : g1 222 = g 222 := funext e
  rw [show g2 190 = g1 190 from funext f]
  by_cases h : g 0 8 ≤ 380
  · rw [a h, c (by omega), e', e13, R, T]
  · rw [b (by omega), d (by omega), e', R]
theorem zTA_pre {r : Nat} {l : Int} {g g1 : zi_M} (R : g 190 = g 222) (T : g 0 8 = g 214 13) (p : 0 ≤ l → l ≤ 3 → zySs r (g 190) (g 0 8) g1) (e : ∀ i : Int, g1 222 i = g 222 i) (e13 : g1 214 13 = g 214 13) : 1 ≤ l → l ≤ 3 → zySs r (g1 222) (g1 214 13) g1 := fun a b => by
  rw [show g1 222 = g 222 from funext e, e13, ← R, ← T]
  exact p (by omega) b
