-- THE LONGEST DROUGHT: the run that ends at a day, the longest so far, where it begins
noncomputable def zrun (f : Int → Int) : Nat → Int
  | 0 => 0
  | k + 1 => if f (k : Int) = 0 then zrun f k + 1 else 0
noncomputable def zmost (f : Int → Int) : Nat → Int
  | 0 => 0
  | k + 1 => if zmost f k < zrun f (k + 1) then zrun f (k + 1) else zmost f k
noncomputable def zbeg (f : Int → Int) : Nat → Int
  | 0 => -1
  | k + 1 => if zmost f k < zrun f (k + 1) then (k : Int) - zrun f (k + 1) + 1 else zbeg f k
theorem zlr_n {i : Int} (h : 0 ≤ i) : (i + 1).toNat = i.toNat + 1 := by omega
theorem zrun_z {f : Int → Int} {i r : Int} (h0 : 0 ≤ i) (hr : r = zrun f i.toNat) (hz : f i = 0) : r + 1 = zrun f (i + 1).toNat := by
  rw [zlr_n h0]
  show r + 1 = if f ((i.toNat : Nat) : Int) = 0 then zrun f i.toNat + 1 else 0
  rw [show ((i.toNat : Nat) : Int) = i by omega, if_pos hz, hr]
theorem zrun_n {f : Int → Int} {i : Int} (h0 : 0 ≤ i) (hz : ¬ f i = 0) : 0 = zrun f (i + 1).toNat := by
  rw [zlr_n h0]
  show 0 = if f ((i.toNat : Nat) : Int) = 0 then zrun f i.toNat + 1 else 0
  rw [show ((i.toNat : Nat) : Int) = i by omega, if_neg hz]
theorem zmost_s {f : Int → Int} {i m r : Int} (h0 : 0 ≤ i) (hm : m = zmost f i.toNat) (hr : r = zrun f (i + 1).toNat) (c : r ≤ m) : m = zmost f (i + 1).toNat := by
  rw [zlr_n h0] at hr ⊢
  show m = if zmost f i.toNat < zrun f (i.toNat + 1) then zrun f (i.toNat + 1) else zmost f i.toNat
  rw [← hm, ← hr, if_neg (by omega)]
theorem zmost_u {f : Int → Int} {i m r : Int} (h0 : 0 ≤ i) (hm : m = zmost f i.toNat) (hr : r = zrun f (i + 1).toNat) (c : m < r) : r = zmost f (i + 1).toNat := by
  rw [zlr_n h0] at hr ⊢
  show r = if zmost f i.toNat < zrun f (i.toNat + 1) then zrun f (i.toNat + 1) else zmost f i.toNat
  rw [← hm, ← hr, if_pos c]
theorem zbeg_s {f : Int → Int} {i b m r : Int} (h0 : 0 ≤ i) (hb : b = zbeg f i.toNat) (hm : m = zmost f i.toNat) (hr : r = zrun f (i + 1).toNat) (c : r ≤ m) : b = zbeg f (i + 1).toNat := by
  rw [zlr_n h0] at hr ⊢
  show b = if zmost f i.toNat < zrun f (i.toNat + 1) then ((i.toNat : Nat) : Int) - zrun f (i.toNat + 1) + 1 else zbeg f i.toNat
  rw [← hm, ← hr, if_neg (by omega), hb]
theorem zbeg_u {f : Int → Int} {i m r : Int} (h0 : 0 ≤ i) (hm : m = zmost f i.toNat) (hr : r = zrun f (i + 1).toNat) (c : m < r) : i - r + 1 = zbeg f (i + 1).toNat := by
  rw [zlr_n h0] at hr ⊢
  show i - r + 1 = if zmost f i.toNat < zrun f (i.toNat + 1) then ((i.toNat : Nat) : Int) - zrun f (i.toNat + 1) + 1 else zbeg f i.toNat
  rw [← hm, ← hr, if_pos c]
  omega
/-- what holds of them -/
theorem zlr_all (f : Int → Int) : ∀ n : Nat, (0 ≤ zrun f n ∧ zrun f n ≤ (n : Int) ∧ zrun f n ≤ zmost f n ∧ 0 ≤ zmost f n) ∧ (∀ j : Int, (n : Int) - zrun f n ≤ j → j < (n : Int) → f j = 0) ∧
    ((zbeg f n = -1 ∧ zmost f n = 0) ∨ (0 ≤ zbeg f n ∧ 1 ≤ zmost f n ∧ zbeg f n + zmost f n ≤ (n : Int) ∧ (∀ j : Int, zbeg f n ≤ j → j < zbeg f n + zmost f n → f j = 0) ∧ (zbeg f n + zmost f n = (n : Int) → zrun f n = zmost f n) ∧ (zbeg f n + zmost f n < (n : Int) → ¬ f (zbeg f n + zmost f n) = 0)))
  | 0 => ⟨⟨Int.le_refl _, Int.le_refl _, Int.le_refl _, Int.le_refl _⟩, fun j h1 h2 => by
      have e : zrun f 0 = 0 := rfl
      rw [e] at h1
      exfalso
      omega, Or.inl ⟨rfl, rfl⟩⟩
  | n + 1 => by
    obtain ⟨⟨r0, r1, r2, r3⟩, hz, hb⟩ := zlr_all f n
    have er : zrun f (n + 1) = if f (n : Int) = 0 then zrun f n + 1 else 0 := rfl
    have em : zmost f (n + 1) = if zmost f n < zrun f (n + 1) then zrun f (n + 1) else zmost f n := rfl
    have eb : zbeg f (n + 1) = if zmost f n < zrun f (n + 1) then (n : Int) - zrun f (n + 1) + 1 else zbeg f n := rfl
    have ec : (((n + 1 : Nat)) : Int) = (n : Int) + 1 := by omega
    by_cases c : f (n : Int) = 0
    · rw [if_pos c] at er
      have hz' : ∀ j : Int, (n : Int) + 1 - (zrun f n + 1) ≤ j → j < (n : Int) + 1 → f j = 0 := by
        intro j h1 h2
        by_cases q : j = (n : Int)
        · rw [q]; exact c
        · exact hz j (by omega) (by omega)
      by_cases d : zmost f n < zrun f n + 1
      · rw [er] at em eb
        rw [if_pos d] at em eb
        rw [er, em, eb, ec]
        refine ⟨⟨by omega, by omega, by omega, by omega⟩, hz', Or.inr ⟨by omega, by omega, by omega, fun j h1 h2 => hz' j (by omega) (by omega), fun _ => rfl, fun q => by exfalso; omega⟩⟩
      · rw [er] at em eb
        rw [if_neg d] at em eb
        rw [er, em, eb, ec]
        refine ⟨⟨by omega, by omega, by omega, by omega⟩, hz', ?_⟩
        rcases hb with hb | ⟨b0, b1, b2, b3, b4, b5⟩
        · exfalso; omega
        · refine Or.inr ⟨b0, b1, by omega, b3, fun q => by exfalso; omega, fun q => ?_⟩
          by_cases w : zbeg f n + zmost f n = (n : Int)
          · exfalso
            have := b4 w
            omega
          · exact b5 (by omega)
    · rw [if_neg c] at er
      have d : ¬ zmost f n < 0 := by omega
      rw [er] at em eb
      rw [if_neg d] at em eb
      rw [er, em, eb, ec]
      refine ⟨⟨by omega, by omega, by omega, by omega⟩, fun j h1 h2 => by exfalso; omega, ?_⟩
      rcases hb with hb | ⟨b0, b1, b2, b3, b4, b5⟩
      · exact Or.inl hb
      · refine Or.inr ⟨b0, b1, by omega, b3, fun q => by exfalso; omega, fun q => ?_⟩
        by_cases w : zbeg f n + zmost f n = (n : Int)
        · rw [w]; exact c
        · exact b5 (by omega)
theorem zmost_0 {f : Int → Int} {n : Nat} : 0 ≤ zmost f n := (zlr_all f n).1.2.2.2
theorem zlr_step {f : Int → Int} {n b i len : Int} (hb : b = zbeg f n.toNat) (b0 : 0 ≤ b) (hi : i = b + len) (hl : len ≤ zmost f n.toNat) (n1 : i < n) (z : f i = 0) : len + 1 ≤ zmost f n.toNat := by
  obtain ⟨-, -, h⟩ := zlr_all f n.toNat
  rcases h with h | ⟨-, -, h2, -, -, h5⟩
  · omega
  · by_cases q : len = zmost f n.toNat
    · exfalso
      have e : zbeg f n.toNat + zmost f n.toNat = i := by omega
      rw [e] at h5
      exact h5 (by omega) z
    · omega
theorem zlr_end {f : Int → Int} {n b i len : Int} (hb : b = zbeg f n.toNat) (m1 : b = -1 → i = -1 ∧ len = 0) (m2 : 0 ≤ b → i = b + len) (hl : 0 ≤ b → len ≤ zmost f n.toNat) (l0 : 0 ≤ len) (c : i < 0 ∨ n ≤ i ∨ ¬ f i = 0) : len = zmost f n.toNat := by
  obtain ⟨-, -, h⟩ := zlr_all f n.toNat
  rcases h with ⟨h, h2⟩ | ⟨h1, -, h2, h3, -, -⟩
  · have := m1 (by omega)
    omega
  · have e := m2 (by omega)
    have q := hl (by omega)
    rcases c with c | c | c
    · omega
    · omega
    · by_cases w : len = zmost f n.toNat
      · exact w
      · exfalso
        exact c (h3 i (by omega) (by omega))
theorem zlr_c {f g : Int → Int} : ∀ n : Nat, (∀ k : Int, 0 ≤ k → k < (n : Int) → f k = g k) → zrun f n = zrun g n ∧ zmost f n = zmost g n ∧ zbeg f n = zbeg g n
  | 0, _ => ⟨rfl, rfl, rfl⟩
  | n + 1, h => by
    obtain ⟨h1, h2, h3⟩ := zlr_c n (fun k k0 k1 => h k k0 (by omega))
    have e : f (n : Int) = g (n : Int) := h n (by omega) (by omega)
    have er : zrun f (n + 1) = zrun g (n + 1) := by
      show (if f (n : Int) = 0 then zrun f n + 1 else 0) = (if g (n : Int) = 0 then zrun g n + 1 else 0)
      rw [e, h1]
    refine ⟨er, ?_, ?_⟩
    · show (if zmost f n < zrun f (n + 1) then zrun f (n + 1) else zmost f n) = (if zmost g n < zrun g (n + 1) then zrun g (n + 1) else zmost g n)
      rw [er, h2]
    · show (if zmost f n < zrun f (n + 1) then (n : Int) - zrun f (n + 1) + 1 else zbeg f n) = (if zmost g n < zrun g (n + 1) then (n : Int) - zrun g (n + 1) + 1 else zbeg g n)
      rw [er, h2, h3]
-- the rows of droughts of class and reference, and of their images
noncomputable def zDA (g : zi_M) : Prop := ∀ k : Int, 0 ≤ k → k < 40 → g 44 k = g 247 k
noncomputable def zDK (g : zi_M) : Prop := ∀ k : Int, 0 ≤ k → k < 40 → g 89 k = g 250 (403 + k)
theorem za_dr {k : Int} (h : 0 ≤ k) (h2 : k < 40) : za (403 + k) = 247 ∧ zb (403 + k) = k := by
  unfold za zb
  rw [if_neg (by omega), if_neg (by omega), if_neg (by omega), if_neg (by omega), if_neg (by omega), if_neg (by omega), if_neg (by omega), if_pos (by omega), if_neg (by omega), if_neg (by omega), if_neg (by omega), if_neg (by omega), if_neg (by omega), if_neg (by omega), if_neg (by omega), if_pos (by omega)]
  exact ⟨rfl, by omega⟩
theorem zv_dr {k : Int} (h : 0 ≤ k) (h2 : k < 40) : zv 247 k = 403 + k := by
  unfold zv
  rw [if_neg (by decide), if_neg (by decide), if_neg (by decide), if_neg (by decide), if_neg (by decide)]
  simp [h, h2]
theorem zv_im (p : Int) : zv 250 p = -1 := by
  unfold zv
  simp
theorem zD_t {g g1 g2 : zi_M} (T : zTc 81 36 g g1) (K : zTk 36 g g1) (F1 : ∀ k : Int, g1 247 k = g 247 k) (M : zimT g1 g2) (F2 : ∀ (a : Nat) (k : Int), a = 44 ∨ a = 89 → g2 a k = g1 a k) (D : zDA g) : zDA g2 ∧ zDK g2 := by
  refine ⟨fun k k0 k1 => ?_, fun k k0 k1 => ?_⟩
  · rw [F2 44 k (Or.inl rfl), K 44 k (by decide) (by decide), M.2.1 247 k (by decide) (by decide), F1 k]
    exact D k k0 k1
  · have t : g1 89 k = g 44 k := T.2.2.2.2.2.2.2.2.1 k k0 k1
    have e := za_dr k0 k1
    rw [F2 89 k (Or.inr rfl), t, M.1 (403 + k) (by omega) (by omega), e.1, e.2, F1 k]
    exact D k k0 k1
theorem zD_r {g g1 g2 : zi_M} (T : zTc 36 81 g g1) (K : zTk 81 g g1) (F1 : ∀ k : Int, g1 250 k = g 250 k) (M : zimR g1 g2) (F2 : ∀ (a : Nat) (k : Int), a = 44 ∨ a = 89 → g2 a k = g1 a k) (D : zDK g) : zDA g2 ∧ zDK g2 := by
  refine ⟨fun k k0 k1 => ?_, fun k k0 k1 => ?_⟩
  · have t : g1 44 k = g 89 k := T.2.2.2.2.2.2.2.2.1 k k0 k1
    have e := zv_dr k0 k1
    rw [F2 44 k (Or.inl rfl), t, M.1 247 k (by omega), e, F1]
    exact D k k0 k1
  · rw [F2 89 k (Or.inr rfl), K 89 k (by decide) (by decide), M.2.1 250 (403 + k) (zv_im _) (by decide), F1]
    exact D k k0 k1
theorem zD_eq {g : zi_M} {l v w : Int} (b : 0 ≤ g 36 10 ∧ g 36 10 ≤ 40) (R : g 36 10 = g 214 56) (D : zDA g) (s0 : l = 0 → v = zmost (g 44) (g 36 10).toNat) (s1 : l = 1 → v = zbeg (g 44) (g 36 10).toNat) (s2 : ¬ l = 0 → ¬ l = 1 → v = -1) (m0 : l = 0 → w = zmost (g 247) (g 214 56).toNat) (m1 : l = 1 → w = zbeg (g 247) (g 214 56).toNat) (m2 : ¬ l = 0 → ¬ l = 1 → w = -1) : w = v := by
  have hc := zlr_c (f := g 44) (g := g 247) (g 36 10).toNat (fun k k0 k1 => D k k0 (by omega))
  rw [← R] at m0 m1
  by_cases c0 : l = 0
  · rw [m0 c0, s0 c0, hc.2.1]
  · by_cases c1 : l = 1
    · rw [m1 c1, s1 c1, hc.2.2]
    · rw [m2 c0 c1, s2 c0 c1]
