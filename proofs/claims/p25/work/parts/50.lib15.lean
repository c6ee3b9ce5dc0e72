-- ROWS of class and reference, one beside the other, and of their images
noncomputable def zRA (a b : Nat) (s n : Int) (f : Int → Int) (g : zi_M) : Prop := ∀ k : Int, 0 ≤ k → k < n → g a k = g b (s + k) + f k
noncomputable def zRK (ka : Nat) (o st n : Int) (f : Int → Int) (g : zi_M) : Prop := ∀ k : Int, 0 ≤ k → k < n → g ka k = g 250 (o + st * k) + f k
noncomputable def zRe (b : Nat) (s o st : Int) (n : Nat) : Prop := ∀ k : Nat, k < n → ((0 ≤ o + st * (k : Int) ∧ o + st * (k : Int) < 2004) ∧ za (o + st * (k : Int)) = b ∧ zb (o + st * (k : Int)) = s + (k : Int)) ∧ zv b (s + (k : Int)) = o + st * (k : Int)
theorem zRw_t {a ka b n : Nat} {s o st : Int} {f : Int → Int} {g g1 g2 : zi_M} (e : zRe b s o st n) (hb : b ≠ 250 ∧ b ≠ 214) (T : ∀ k : Int, 0 ≤ k → k < (n : Int) → g1 ka k = g a k) (K : ∀ k : Int, g1 a k = g a k) (F1 : ∀ k : Int, g1 b k = g b k) (M : zimT g1 g2) (F2 : ∀ k : Int, g2 a k = g1 a k) (F3 : ∀ k : Int, g2 ka k = g1 ka k) (D : zRA a b s n f g) : zRA a b s n f g2 ∧ zRK ka o st n f g2 := by
  refine ⟨fun k k0 k1 => ?_, fun k k0 k1 => ?_⟩
  · rw [F2, K, M.2.1 b _ hb.1 hb.2, F1]
    exact D k k0 k1
  · obtain ⟨⟨⟨p0, p1⟩, e1, e2⟩, -⟩ := e k.toNat (by omega)
    rw [show ((k.toNat : Nat) : Int) = k by omega] at p0 p1 e1 e2
    rw [F3, T k k0 k1, M.1 _ p0 p1, e1, e2, F1]
    exact D k k0 k1
theorem zRw_r {a ka b n : Nat} {s o st : Int} {f : Int → Int} {g g1 g2 : zi_M} (e : zRe b s o st n) (T : ∀ k : Int, 0 ≤ k → k < (n : Int) → g1 a k = g ka k) (K : ∀ k : Int, g1 ka k = g ka k) (F1 : ∀ k : Int, g1 250 k = g 250 k) (M : zimR g1 g2) (F2 : ∀ k : Int, g2 a k = g1 a k) (F3 : ∀ k : Int, g2 ka k = g1 ka k) (D : zRK ka o st n f g) : zRA a b s n f g2 ∧ zRK ka o st n f g2 := by
  refine ⟨fun k k0 k1 => ?_, fun k k0 k1 => ?_⟩
  · obtain ⟨⟨⟨p0, p1⟩, -, -⟩, e3⟩ := e k.toNat (by omega)
    rw [show ((k.toNat : Nat) : Int) = k by omega] at p0 p1 e3
    rw [F2, T k k0 k1, M.1 b (s + k) (by omega), e3, F1]
    exact D k k0 k1
  · rw [F3, K, M.2.1 250 (o + st * k) (zv_im _) (by decide), F1]
    exact D k k0 k1
theorem zRw_n {a b : Nat} {s n : Int} {f : Int → Int} {g g2 : zi_M} (F1 : ∀ k : Int, g2 a k = g a k) (F2 : ∀ k : Int, g2 b k = g b k) (D : zRA a b s n f g) : zRA a b s n f g2 := by
  intro k k0 k1
  rw [F1, F2]
  exact D k k0 k1
theorem zRw_220 : zRe 220 0 275 5 10 := by unfold zRe; decide +kernel
theorem zRw_243 : zRe 243 0 355 1 16 := by unfold zRe; decide +kernel
theorem zRw_244 : zRe 244 0 371 1 16 := by unfold zRe; decide +kernel
theorem zRw_244b : zRe 244 16 387 1 16 := by unfold zRe; decide +kernel
theorem zRw_248 : zRe 248 0 332 2 12 := by unfold zRe; decide +kernel
-- LEANS: how many centuries
noncomputable def zln : Nat → Int → Int → Int
  | 0, _, _ => 0
  | f + 1, v, c => if v < c then 1 + zln f (v + v / 10 + 1) c else 0
noncomputable def zlv (v c : Int) : Int := zln (c - v).toNat v c
theorem zln_0 : ∀ (f : Nat) (v c : Int), c ≤ v → zln f v c = 0
  | 0, _, _, _ => rfl
  | f + 1, v, c, h => by
    show (if v < c then 1 + zln f (v + v / 10 + 1) c else 0) = 0
    rw [if_neg (by omega)]
theorem zln_f : ∀ (f m : Nat) (v c : Int), 0 ≤ v → c - v ≤ (f : Int) → c - v ≤ (m : Int) → zln f v c = zln m v c
  | 0, m, v, c, h0, h1, h2 => by rw [zln_0 0 v c (by omega), zln_0 m v c (by omega)]
  | f + 1, 0, v, c, h0, h1, h2 => by rw [zln_0 (f + 1) v c (by omega), zln_0 0 v c (by omega)]
  | f + 1, m + 1, v, c, h0, h1, h2 => by
    have hd := Int.emod_add_mul_ediv v 10
    have hr := Int.emod_nonneg v (show (10 : Int) ≠ 0 by decide)
    have hl := Int.emod_lt_of_pos v (show (0 : Int) < 10 by decide)
    show (if v < c then 1 + zln f (v + v / 10 + 1) c else 0) = (if v < c then 1 + zln m (v + v / 10 + 1) c else 0)
    by_cases q : v < c
    · rw [if_pos q, if_pos q, zln_f f m (v + v / 10 + 1) c (by omega) (by omega) (by omega)]
    · rw [if_neg q, if_neg q]
theorem zlv_x0 {v c : Int} (h : c ≤ v) : zlv v c = 0 := zln_0 _ v c h
theorem zlv_s {v w c : Int} (h0 : 0 ≤ v) (h1 : v < c) (h2 : 10 * (w - v - 1) ≤ v ∧ v < 10 * (w - v - 1) + 10) : zlv v c = 1 + zlv w c := by
  have hd := Int.emod_add_mul_ediv v 10
  have hr := Int.emod_nonneg v (show (10 : Int) ≠ 0 by decide)
  have hl := Int.emod_lt_of_pos v (show (0 : Int) < 10 by decide)
  have ew : v + v / 10 + 1 = w := by omega
  have e1 : zlv v c = zln ((c - v).toNat + 1) v c := zln_f _ _ v c h0 (by omega) (by omega)
  rw [e1]
  show (if v < c then 1 + zln (c - v).toNat (v + v / 10 + 1) c else 0) = 1 + zlv w c
  rw [if_pos h1, ew]
  show 1 + zln (c - v).toNat w c = 1 + zln (c - w).toNat w c
  rw [zln_f (c - v).toNat (c - w).toNat w c (by omega) (by omega) (by omega)]
theorem zlv_0 {v c : Int} : 0 + zlv v c = zlv v c := Int.zero_add _
theorem zlv_st {n v w c x : Int} (h : n + zlv v c = x) (h0 : 0 ≤ v) (h1 : v < c) (h2 : 10 * (w - v - 1) ≤ v ∧ v < 10 * (w - v - 1) + 10) : n + 1 + zlv w c = x := by
  rw [zlv_s h0 h1 h2] at h
  omega
theorem zlv_x {n v c x : Int} (h : n + zlv v c = x) (h1 : c ≤ v) : n = x := by
  rw [zlv_x0 h1] at h
  omega
noncomputable def zmx (f : Int → Int) (c : Int) : Nat → Int
  | 0 => 0
  | k + 1 => max (zmx f c k) (zlv (f (k : Int)) c)
theorem zmx_s {f : Int → Int} {c i m v : Int} (hm : m = zmx f c i.toNat) (hv : v = zlv (f i) c) (h0 : 0 ≤ i) : max m v = zmx f c (i + 1).toNat := by
  rw [zlr_n h0]
  show max m v = max (zmx f c i.toNat) (zlv (f ((i.toNat : Nat) : Int)) c)
  rw [show ((i.toNat : Nat) : Int) = i by omega, hm, hv]
theorem zmx_w {f : Int → Int} {c i m v w : Int} (hm : m = zmx f c i.toNat) (hv : v = zlv (f i) c) (h0 : 0 ≤ i) (h1 : m ≤ v → w = v) (h2 : v ≤ m → w = m) : w = zmx f c (i + 1).toNat := by
  rw [← zmx_s hm hv h0]
  omega
theorem zmx_c {f g : Int → Int} {c : Int} : ∀ n : Nat, (∀ k : Int, 0 ≤ k → k < (n : Int) → f k = g k) → zmx f c n = zmx g c n
  | 0, _ => rfl
  | n + 1, h => by
    show max (zmx f c n) (zlv (f (n : Int)) c) = max (zmx g c n) (zlv (g (n : Int)) c)
    rw [zmx_c n (fun k k0 k1 => h k k0 (by omega)), h (n : Int) (by omega) (by omega)]
theorem zL_eq {g : zi_M} {l v w : Int} (b : 0 ≤ g 2 8 ∧ g 2 8 ≤ 10) (R : g 2 8 = g 214 6) (D : zRA 5 220 0 10 (fun _ => 0) g) (s0 : 1 ≤ l ∧ l ≤ 99 → v = zmx (g 5) l (g 2 8).toNat) (s1 : ¬ (1 ≤ l ∧ l ≤ 99) → v = -1) (m0 : 1 ≤ l ∧ l ≤ 99 → w = zmx (g 220) l (g 214 6).toNat) (m1 : ¬ (1 ≤ l ∧ l ≤ 99) → w = -1) : w = v := by
  by_cases c : 1 ≤ l ∧ l ≤ 99
  · rw [m0 c, s0 c, ← R]
    refine (zmx_c _ (fun k k0 k1 => ?_)).symm
    have h : g 5 k = g 220 (0 + k) + 0 := D k k0 (by omega)
    rw [Int.zero_add] at h
    omega
  · rw [m1 c, s1 c]
theorem zRw_nk {ka : Nat} {o st n : Int} {f : Int → Int} {g g2 : zi_M} (F1 : ∀ k : Int, g2 ka k = g ka k) (F2 : ∀ k : Int, g2 250 k = g 250 k) (D : zRK ka o st n f g) : zRK ka o st n f g2 := by
  intro k k0 k1
  rw [F1, F2]
  exact D k k0 k1
theorem eqn_u {g g' : zi_M} {a b : Nat} {p v : Int} (e : g' = zi_u g b p v) (h : a ≠ b) (k : Int) : g' a k = g a k := by rw [e]; exact zi_u_ne h
theorem rw_no {g g0 : zi_M} {a : Nat} {l1 l2 l3 : Int} (h : ∀ k : Int, g a k = g0 a k) (h1 : ¬ l1 = 1) : ∀ k : Int, (l1 = 1 ∧ k = l2 → g a k = l3) ∧ (¬ (l1 = 1 ∧ k = l2) → g a k = g0 a k) := fun k => ⟨fun q => absurd q.1 h1, fun _ => h k⟩
theorem rw_st {g g' g0 : zi_M} {a : Nat} {l1 l2 l3 : Int} (h : ∀ k : Int, g a k = g0 a k) (e : g' = zi_u g a l2 l3) (h1 : l1 = 1) : ∀ k : Int, (l1 = 1 ∧ k = l2 → g' a k = l3) ∧ (¬ (l1 = 1 ∧ k = l2) → g' a k = g0 a k) := fun k => ⟨fun q => by rw [e, q.2]; exact zi_u_eq, fun q => by rw [e, zi_u_ni (fun w => q ⟨h1, w⟩)]; exact h k⟩
theorem rw_kp {g g' g0 : zi_M} {a b : Nat} {l1 l2 l3 p v : Int} (h : ∀ k : Int, (l1 = 1 ∧ k = l2 → g a k = l3) ∧ (¬ (l1 = 1 ∧ k = l2) → g a k = g0 a k)) (e : g' = zi_u g b p v) (hb : a ≠ b) : ∀ k : Int, (l1 = 1 ∧ k = l2 → g' a k = l3) ∧ (¬ (l1 = 1 ∧ k = l2) → g' a k = g0 a k) := fun k => by rw [eqn_u e hb k]; exact h k
theorem eqn_u2 {g g1 g2 : zi_M} {a b b1 : Nat} {p v p1 v1 : Int} (e : g2 = zi_u g1 b p v) (e1 : g1 = zi_u g b1 p1 v1) (h : a ≠ b) (h1 : a ≠ b1) (k : Int) : g2 a k = g a k := (eqn_u e h k).trans (eqn_u e1 h1 k)
