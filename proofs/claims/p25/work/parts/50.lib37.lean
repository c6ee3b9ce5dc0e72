-- RING: the kept days, class against reference
noncomputable def zWV (r : Nat) (g : zi_M) (k : Int) : Int := if k = 0 then g r 17 else if k < 244 then g (r + 8) (k - 236) else g (r + 9) (k - 244) + 1
noncomputable def zDC (n k : Int) : Prop := k = 0 ∨ (236 ≤ k ∧ k < 236 + n) ∨ (244 ≤ k ∧ k < 244 + n)
noncomputable def zSlt (g : zi_M) (e : Int) : Nat := 93 + 12 * ((g 91 2 + 6 - g 91 1 + e) % 6).toNat
/-- one row kept: c entries before, c' behind -/
noncomputable def zRst (C : Int → Prop) (c : Int) (R : Int → Int → Int) (w : Int → Int) (c' : Int) (R' : Int → Int → Int) : Prop := c' = min (c + 1) 6 ∧ (∀ e k : Int, 0 ≤ e → e < c' - 1 → C k → R' e k = R (e + (c + 1 - c')) k) ∧ ∀ k : Int, C k → R' (c' - 1) k = w k
/-- m rows kept, W 0 first -/
noncomputable def zRm (C : Int → Prop) (c : Int) (R : Int → Int → Int) (m : Nat) (W : Nat → Int → Int) (c' : Int) (R' : Int → Int → Int) : Prop := c' = min (c + m) 6 ∧ ∀ d k : Int, 1 ≤ d → d ≤ c' → C k → (d ≤ m → R' (c' - d) k = W (m - d).toNat k) ∧ (m < d → R' (c' - d) k = R (c - (d - m)) k)
theorem zRm_0 {C : Int → Prop} {c : Int} {R : Int → Int → Int} {W : Nat → Int → Int} (c6 : c ≤ 6) : zRm C c R 0 W c R := ⟨by omega, fun d k d1 d2 _ => ⟨fun h => by exfalso; omega, fun _ => by rw [show c - (d - ((0 : Nat) : Int)) = c - d by omega]⟩⟩
theorem zRm_s {C : Int → Prop} {c c1 c2 : Int} {R R1 R2 : Int → Int → Int} {m : Nat} {W : Nat → Int → Int} {w : Int → Int} (h : zRm C c R m W c1 R1) (s : zRst C c1 R1 w c2 R2) (hw : ∀ k : Int, C k → w k = W m k) : zRm C c R (m + 1) W c2 R2 := by
  obtain ⟨h1, h2⟩ := h
  obtain ⟨s1, s2, s3⟩ := s
  refine ⟨by omega, fun d k d1 d2 hk => ?_⟩
  by_cases e : d = 1
  · subst e
    refine ⟨fun _ => ?_, fun q => by exfalso; omega⟩
    rw [s3 k hk, hw k hk, show (((m + 1 : Nat) : Int) - 1).toNat = m by omega]
  · have q := s2 (c2 - d) k (by omega) (by omega) hk
    rw [show c2 - d + (c1 + 1 - c2) = c1 - (d - 1) by omega] at q
    obtain ⟨p1, p2⟩ := h2 (d - 1) k (by omega) (by omega) hk
    refine ⟨fun u => ?_, fun u => ?_⟩
    · rw [q, p1 (by omega), show ((m : Int) - (d - 1)).toNat = (((m + 1 : Nat) : Int) - d).toNat by omega]
    · rw [q, p2 (by omega), show c - (d - 1 - (m : Int)) = c - (d - ((m + 1 : Nat) : Int)) by omega]
theorem zRm_eq {C : Int → Prop} {c c1 c2 : Int} {R Rr R1 R2 : Int → Int → Int} {n m : Nat} {W W1 Wr : Nat → Int → Int} (c0 : 0 ≤ c ∧ c ≤ 6) (hm : (m : Int) = min n 6) (a : zRm C c R m W1 c1 R1) (b : zRm C c Rr n Wr c2 R2) (hW1 : ∀ j : Nat, W1 j = W (n - m + j)) (hW : ∀ i : Nat, i < n → ∀ k : Int, C k → W i k = Wr i k) (hR : ∀ e k : Int, 0 ≤ e → e < c → C k → R e k = Rr e k) : c1 = c2 ∧ ∀ e k : Int, 0 ≤ e → e < c1 → C k → R1 e k = R2 e k := by
  obtain ⟨a1, a2⟩ := a
  obtain ⟨b1, b2⟩ := b
  have e12 : c1 = c2 := by omega
  refine ⟨e12, fun e k e0 e1 hk => ?_⟩
  obtain ⟨p1, p2⟩ := a2 (c1 - e) k (by omega) (by omega) hk
  obtain ⟨q1, q2⟩ := b2 (c1 - e) k (by omega) (by omega) hk
  rw [← e12] at q1 q2
  rw [show c1 - (c1 - e) = e by omega] at p1 p2 q1 q2
  by_cases u : c1 - e ≤ m
  · rw [p1 u, q1 (by omega), hW1, show n - m + ((m : Int) - (c1 - e)).toNat = ((n : Int) - (c1 - e)).toNat by omega]
    exact hW _ (by omega) k hk
  · rw [p2 (by omega), q2 (by omega), show (m : Int) = n by omega]
    exact hR _ k (by omega) (by omega) hk
/-- the class keeps: the world into the slot 91 2 -/
theorem zKe_st {C : Int → Prop} {g g' : zi_M} (b1 : 0 ≤ g 91 1 ∧ g 91 1 ≤ 6) (b2 : 0 ≤ g 91 2 ∧ g 91 2 ≤ 5) (h1 : g' 91 1 = min (g 91 1 + 1) 6) (h2 : g' 91 2 = (g 91 2 + 1) % 6) (hc : ∀ k : Int, C k → zWV (93 + 12 * (g 91 2).toNat) g' k = zWV 2 g k) (hf : ∀ s : Int, 0 ≤ s → s < 6 → s ≠ g 91 2 → ∀ k : Int, C k → zWV (93 + 12 * s.toNat) g' k = zWV (93 + 12 * s.toNat) g k) : zRst C (g 91 1) (fun e k => zWV (zSlt g e) g k) (zWV 2 g) (g' 91 1) (fun e k => zWV (zSlt g' e) g' k) := by
  refine ⟨h1, fun e k e0 e1 hk => ?_, fun k hk => ?_⟩
  · show zWV (zSlt g' e) g' k = zWV (zSlt g (e + (g 91 1 + 1 - g' 91 1))) g k
    have es : (g' 91 2 + 6 - g' 91 1 + e) % 6 = (g 91 2 + 6 - g 91 1 + (e + (g 91 1 + 1 - g' 91 1))) % 6 := by rw [h2]; omega
    unfold zSlt
    rw [es]
    exact hf _ (by omega) (by omega) (by rw [h1] at e1 ⊢; omega) k hk
  · show zWV (zSlt g' (g' 91 1 - 1)) g' k = zWV 2 g k
    have es : (g' 91 2 + 6 - g' 91 1 + (g' 91 1 - 1)) % 6 = g 91 2 := by rw [h2]; omega
    unfold zSlt
    rw [es]
    exact hc k hk
/-- the class goes back: out of the newest slot -/
theorem zKe_bk {C : Int → Prop} {g g' : zi_M} (b1 : 1 ≤ g 91 1 ∧ g 91 1 ≤ 6) (b2 : 0 ≤ g 91 2 ∧ g 91 2 ≤ 5) (h1 : g' 91 1 = g 91 1 - 1) (h2 : g' 91 2 = (g 91 2 + 5) % 6) (hc : ∀ k : Int, C k → zWV 2 g' k = zWV (93 + 12 * ((g 91 2 + 5) % 6).toNat) g k) (hf : ∀ s : Int, 0 ≤ s → s < 6 → ∀ k : Int, C k → zWV (93 + 12 * s.toNat) g' k = zWV (93 + 12 * s.toNat) g k) : (∀ k : Int, C k → zWV 2 g' k = zWV (zSlt g (g 91 1 - 1)) g k) ∧ ∀ e k : Int, 0 ≤ e → e < g' 91 1 → C k → zWV (zSlt g' e) g' k = zWV (zSlt g e) g k := by
  refine ⟨fun k hk => ?_, fun e k e0 e1 hk => ?_⟩
  · rw [hc k hk]
    unfold zSlt
    rw [show (g 91 2 + 6 - g 91 1 + (g 91 1 - 1)) % 6 = (g 91 2 + 5) % 6 by omega]
  · have es : (g' 91 2 + 6 - g' 91 1 + e) % 6 = (g 91 2 + 6 - g 91 1 + e) % 6 := by rw [h1, h2]; omega
    unfold zSlt
    rw [es]
    exact hf _ (by omega) (by omega) k hk
/-- a world copied: the view is copied -/
theorem zWV_c {r0 r1 : Nat} {g g' : zi_M} {n : Int} (n8 : n ≤ 8) (e17 : g' r0 17 = g r1 17) (e8 : ∀ i : Int, 0 ≤ i → i < 8 → g' (r0 + 8) i = g (r1 + 8) i) (e9 : ∀ i : Int, 0 ≤ i → i < 8 → g' (r0 + 9) i = g (r1 + 9) i) : ∀ k : Int, zDC n k → zWV r0 g' k = zWV r1 g k := fun k hk => by
  unfold zDC at hk
  unfold zWV
  by_cases a : k = 0
  · rw [if_pos a, if_pos a, e17]
  · rw [if_neg a, if_neg a]
    by_cases b : k < 244
    · rw [if_pos b, if_pos b, e8 _ (by omega) (by omega)]
    · rw [if_neg b, if_neg b, e9 _ (by omega) (by omega)]
