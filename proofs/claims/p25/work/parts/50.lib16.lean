-- READING IN STORMS: sums of a row, and the least greatest sum, by how many parts are left and from where
noncomputable def zsm (f : Int → Int) (a : Int) : Nat → Int
  | 0 => 0
  | n + 1 => zsm f a n + f (a + n)
noncomputable def zSm (f : Int → Int) (a b : Int) : Int := zsm f a (b - a).toNat
theorem zSm_s {f : Int → Int} {a b : Int} (h : a ≤ b) : zSm f a (b + 1) = zSm f a b + f b := by
  unfold zSm
  rw [show (b + 1 - a).toNat = (b - a).toNat + 1 by omega]
  show zsm f a (b - a).toNat + f (a + ((b - a).toNat : Int)) = _
  rw [show a + ((b - a).toNat : Int) = b by omega]
theorem zSm_0 {f : Int → Int} {a b : Int} (h : b ≤ a) : zSm f a b = 0 := by
  unfold zSm
  rw [show (b - a).toNat = 0 by omega]
  rfl
theorem zsm_b {f : Int → Int} {a : Int} (hf : ∀ i, 0 ≤ f i ∧ f i ≤ 60) : ∀ n : Nat, 0 ≤ zsm f a n ∧ zsm f a n ≤ 60 * (n : Int)
  | 0 => ⟨Int.le_refl _, Int.le_refl _⟩
  | n + 1 => by
    have h := zsm_b (a := a) hf n
    have h2 := hf (a + n)
    show 0 ≤ zsm f a n + f (a + n) ∧ zsm f a n + f (a + n) ≤ 60 * ((n + 1 : Nat) : Int)
    omega
theorem zSm_b {f : Int → Int} {a b : Int} (hf : ∀ i, 0 ≤ f i ∧ f i ≤ 60) : 0 ≤ zSm f a b ∧ zSm f a b ≤ 60 * ((b - a).toNat : Int) := zsm_b hf _
theorem zsm_add {f : Int → Int} {a : Int} (m : Nat) : ∀ n : Nat, zsm f a (m + n) = zsm f a m + zsm f (a + m) n
  | 0 => by show zsm f a m = zsm f a m + 0; omega
  | n + 1 => by
    show zsm f a (m + n) + f (a + ((m + n : Nat) : Int)) = zsm f a m + (zsm f (a + m) n + f (a + m + n))
    rw [zsm_add m n, show a + ((m + n : Nat) : Int) = a + m + n by omega]
    omega
theorem zSm_add {f : Int → Int} {a b c : Int} (h : a ≤ b) (h2 : b ≤ c) : zSm f a c = zSm f a b + zSm f b c := by
  unfold zSm
  rw [show (c - a).toNat = (b - a).toNat + (c - b).toNat by omega, zsm_add, show a + ((b - a).toNat : Int) = b by omega]
theorem zsm_c {f h : Int → Int} {a : Int} : ∀ n : Nat, (∀ i : Int, a ≤ i → i < a + n → f i = h i) → zsm f a n = zsm h a n
  | 0, _ => rfl
  | n + 1, e => by
    show zsm f a n + f (a + n) = zsm h a n + h (a + n)
    rw [zsm_c n (fun i h1 h2 => e i h1 (by omega)), e (a + n) (by omega) (by omega)]
theorem zSm_c {f h : Int → Int} {a b : Int} (e : ∀ i : Int, a ≤ i → i < b → f i = h i) : zSm f a b = zSm h a b := zsm_c _ (fun i h1 h2 => e i h1 (by omega))
noncomputable def zLo (f D : Int → Int) (a : Int) : Nat → Int
  | 0 => 100000000
  | k + 1 => min (zLo f D a k) (max (zSm f a (a + k + 1)) (D (a + k + 1)))
noncomputable def zLb (f D : Int → Int) (a b0 : Int) : Nat → Int
  | 0 => b0
  | k + 1 => min (zLb f D a b0 k) (max (zSm f a (a + k + 1)) (D (a + k + 1)))
noncomputable def zDP (f : Int → Int) (n : Int) : Nat → Int → Int
  | 0, a => if a = n then 0 else 100000000
  | l + 1, a => zLo f (zDP f n l) a (n - a).toNat
theorem zLo_le {f D : Int → Int} {a : Int} : ∀ k : Nat, zLo f D a k ≤ 100000000
  | 0 => Int.le_refl _
  | k + 1 => by
    have h := zLo_le (f := f) (D := D) (a := a) k
    show min (zLo f D a k) _ ≤ 100000000
    omega
theorem zLo_far {f D : Int → Int} {a : Int} (k0 : Nat) : ∀ k : Nat, (∀ j : Nat, k0 ≤ j → j < k0 + k → 100000000 ≤ D (a + j + 1)) → zLo f D a (k0 + k) = zLo f D a k0
  | 0, _ => rfl
  | k + 1, h => by
    have h1 := zLo_far (f := f) k0 k (fun j j0 j1 => h j j0 (by omega))
    have h2 := h (k0 + k) (by omega) (by omega)
    have h3 := zLo_le (f := f) (D := D) (a := a) k0
    show min (zLo f D a (k0 + k)) (max (zSm f a (a + ((k0 + k : Nat) : Int) + 1)) (D (a + ((k0 + k : Nat) : Int) + 1))) = _
    rw [h1]
    omega
theorem zLo_c {f D : Int → Int} {a : Int} : ∀ (k j : Nat), j < k → zLo f D a k ≤ max (zSm f a (a + j + 1)) (D (a + j + 1))
  | 0, j, h => by omega
  | k + 1, j, h => by
    show min (zLo f D a k) (max (zSm f a (a + k + 1)) (D (a + k + 1))) ≤ _
    by_cases e : j = k
    · rw [e]; omega
    · have := zLo_c (f := f) (D := D) (a := a) k j (by omega)
      omega
theorem zLo_at {f D : Int → Int} {a : Int} : ∀ k : Nat, zLo f D a k = 100000000 ∨ ∃ j : Nat, j < k ∧ max (zSm f a (a + j + 1)) (D (a + j + 1)) = zLo f D a k
  | 0 => Or.inl rfl
  | k + 1 => by
    show min (zLo f D a k) (max (zSm f a (a + k + 1)) (D (a + k + 1))) = _ ∨ ∃ j : Nat, _ ∧ _ = min (zLo f D a k) (max (zSm f a (a + k + 1)) (D (a + k + 1)))
    by_cases c : zLo f D a k ≤ max (zSm f a (a + k + 1)) (D (a + k + 1))
    · rw [Int.min_eq_left c]
      rcases zLo_at (f := f) (D := D) (a := a) k with h | ⟨j, j1, j2⟩
      · exact Or.inl h
      · exact Or.inr ⟨j, by omega, j2⟩
    · rw [Int.min_eq_right (by omega)]
      exact Or.inr ⟨k, by omega, rfl⟩
theorem zDP_far {f : Int → Int} {n : Int} : ∀ (l : Nat) (a : Int), a ≤ n → n < a + l → zDP f n l a = 100000000
  | 0, a, h, h2 => by exfalso; omega
  | l + 1, a, h, h2 => by
    show zLo f (zDP f n l) a (n - a).toNat = 100000000
    have := zLo_far (f := f) (D := zDP f n l) (a := a) 0 (n - a).toNat (fun j j0 j1 => by
      rw [zDP_far l (a + j + 1) (by omega) (by omega)]
      exact Int.le_refl _)
    rw [Nat.zero_add] at this
    exact this
theorem zDP_1 {f : Int → Int} {n a : Int} (h : a < n) (hs : 0 ≤ zSm f a n ∧ zSm f a n ≤ 100000000) : zDP f n 1 a = zSm f a n := by
  show zLo f (zDP f n 0) a (n - a).toNat = _
  obtain ⟨k, hk⟩ : ∃ k : Nat, (n - a).toNat = k + 1 := ⟨(n - a).toNat - 1, by omega⟩
  rw [hk]
  have h0 := zLo_far (f := f) (D := zDP f n 0) (a := a) 0 k (fun j j0 j1 => by
    show 100000000 ≤ (if a + j + 1 = n then (0 : Int) else 100000000)
    rw [if_neg (by omega)]
    exact Int.le_refl _)
  rw [Nat.zero_add] at h0
  show min (zLo f (zDP f n 0) a k) (max (zSm f a (a + k + 1)) (zDP f n 0 (a + k + 1))) = _
  have e : a + k + 1 = n := by omega
  rw [h0, e]
  show min (100000000 : Int) (max (zSm f a n) (if n = n then 0 else 100000000)) = _
  rw [if_pos rfl]
  omega
theorem zDP_up {f : Int → Int} {n : Int} (hf : ∀ i, 0 ≤ f i ∧ f i ≤ 60) (hn : n ≤ 12) : ∀ (l : Nat) (a : Int), 0 ≤ a → 1 ≤ l → a + l ≤ n → zDP f n l a ≤ zSm f a n
  | 0, a, h0, h1, h2 => by omega
  | 1, a, h0, h1, h2 => by
    have hb := zSm_b (a := a) (b := n) hf
    rw [zDP_1 (by omega) ⟨by omega, by omega⟩]
    exact Int.le_refl _
  | l + 2, a, h0, h1, h2 => by
    have hc := zLo_c (f := f) (D := zDP f n (l + 1)) (a := a) (n - a).toNat 0 (by omega)
    have hu := zDP_up hf hn (l + 1) (a + 1) (by omega) (by omega) (by omega)
    have e1 : a + ((0 : Nat) : Int) + 1 = a + 1 := by omega
    rw [e1] at hc
    have ha := zSm_add (f := f) (a := a) (b := a + 1) (c := n) (by omega) (by omega)
    have b1 := zSm_b (a := a) (b := a + 1) hf
    have b2 := zSm_b (a := a + 1) (b := n) hf
    show zLo f (zDP f n (l + 1)) a (n - a).toNat ≤ _
    omega
theorem zLb_eq {f D : Int → Int} {a b0 : Int} (hb : b0 ≤ 100000000) : ∀ k : Nat, zLb f D a b0 k = min b0 (zLo f D a k)
  | 0 => by show b0 = min b0 100000000; omega
  | k + 1 => by
    show min (zLb f D a b0 k) (max (zSm f a (a + k + 1)) (D (a + k + 1))) = min b0 (min (zLo f D a k) (max (zSm f a (a + k + 1)) (D (a + k + 1))))
    rw [zLb_eq hb k]
    omega
theorem zLb_c {f D E : Int → Int} {a b0 : Int} : ∀ k : Nat, (∀ j : Nat, j < k → D (a + j + 1) = E (a + j + 1)) → zLb f D a b0 k = zLb f E a b0 k
  | 0, _ => rfl
  | k + 1, h => by
    show min (zLb f D a b0 k) (max (zSm f a (a + k + 1)) (D (a + k + 1))) = min (zLb f E a b0 k) (max (zSm f a (a + k + 1)) (E (a + k + 1)))
    rw [zLb_c k (fun j hj => h j (by omega)), h k (by omega)]
theorem zDP_lo {f : Int → Int} {n : Int} {l : Nat} {a : Int} (h1 : 1 ≤ l) (h0 : 0 ≤ a) (h2 : a + l + 1 ≤ n) : zDP f n (l + 1) a = zLo f (zDP f n l) a (n - l - a).toNat := by
  show zLo f (zDP f n l) a (n - a).toNat = _
  have h := zLo_far (f := f) (D := zDP f n l) (a := a) (n - l - a).toNat l (fun j j0 j1 => by
    rw [zDP_far l (a + j + 1) (by omega) (by omega)]
    exact Int.le_refl _)
  rw [← h]
  congr 1
  omega
theorem zDP_cl {f : Int → Int} {n : Int} (hf : ∀ i, 0 ≤ f i ∧ f i ≤ 60) (hn : n ≤ 12) {l : Nat} {a : Int} (h1 : 1 ≤ l) (h0 : 0 ≤ a) (h2 : a + l + 1 ≤ n) : zLb f (zDP f n l) a (zSm f 0 n) (n - l - a).toNat = zDP f n (l + 1) a := by
  have b := zSm_b (a := 0) (b := n) hf
  have b2 := zSm_b (a := 0) (b := a) hf
  have u := zDP_up hf hn (l + 1) a h0 (by omega) (by omega)
  have ad := zSm_add (f := f) (a := 0) (b := a) (c := n) h0 (by omega)
  rw [zLb_eq (by omega), ← zDP_lo h1 h0 h2]
  omega
/-- the first place behind which the second storm begins -/
noncomputable def zFs (f : Int → Int) (n : Int) (k : Nat) (v : Int) : Prop := max (zSm f 0 v) (zDP f n (k - 1) v) = zDP f n k 0
theorem zFs_ex {f : Int → Int} {n : Int} (hf : ∀ i, 0 ≤ f i ∧ f i ≤ 60) (hn : n ≤ 12) {k : Nat} (h1 : 2 ≤ k) (h2 : (k : Int) ≤ n) : ∃ v : Int, 1 ≤ v ∧ v ≤ n - k + 1 ∧ zFs f n k v := by
  obtain ⟨l, rfl⟩ : ∃ l : Nat, k = l + 1 := ⟨k - 1, by omega⟩
  have u := zDP_up hf hn (l + 1) 0 (by omega) (by omega) (by omega)
  have b := zSm_b (a := 0) (b := n) hf
  have e := zDP_lo (f := f) (n := n) (l := l) (a := 0) (by omega) (by omega) (by omega)
  rcases zLo_at (f := f) (D := zDP f n l) (a := 0) (n - l - 0).toNat with h | ⟨j, j1, j2⟩
  · exfalso
    rw [h] at e
    omega
  · refine ⟨0 + j + 1, by omega, by omega, ?_⟩
    unfold zFs
    rw [show l + 1 - 1 = l from rfl, j2, e]
theorem zFs_un {f : Int → Int} {n : Int} {k : Nat} {v w : Int} (hv : 1 ≤ v ∧ zFs f n k v ∧ ∀ j : Int, 1 ≤ j → j < v → ¬ zFs f n k j) (hw : 1 ≤ w ∧ zFs f n k w ∧ ∀ j : Int, 1 ≤ j → j < w → ¬ zFs f n k j) : v = w := by
  by_cases c : v < w
  · exact absurd hv.2.1 (hw.2.2 v hv.1 c)
  · by_cases d : w < v
    · exact absurd hw.2.1 (hv.2.2 w hw.1 d)
    · omega
theorem zLo_cc {f h D E : Int → Int} {a : Int} : ∀ k : Nat, (∀ i : Int, a ≤ i → i < a + k → f i = h i) → (∀ j : Nat, j < k → D (a + j + 1) = E (a + j + 1)) → zLo f D a k = zLo h E a k
  | 0, _, _ => rfl
  | k + 1, e, e2 => by
    show min (zLo f D a k) (max (zSm f a (a + k + 1)) (D (a + k + 1))) = min (zLo h E a k) (max (zSm h a (a + k + 1)) (E (a + k + 1)))
    rw [zLo_cc k (fun i i0 i1 => e i i0 (by omega)) (fun j hj => e2 j (by omega)), e2 k (by omega), zSm_c (f := f) (h := h) (a := a) (b := a + k + 1) (fun i i0 i1 => e i i0 (by omega))]
theorem zDP_c {f h : Int → Int} {n : Int} (e : ∀ i : Int, 0 ≤ i → i < n → f i = h i) : ∀ (l : Nat) (a : Int), 0 ≤ a → zDP f n l a = zDP h n l a
  | 0, a, _ => rfl
  | l + 1, a, h0 => by
    show zLo f (zDP f n l) a (n - a).toNat = zLo h (zDP h n l) a (n - a).toNat
    exact zLo_cc _ (fun i i0 i1 => e i (by omega) (by omega)) (fun j hj => zDP_c e l _ (by omega))
-- the rows of class and reference in which that is told
theorem zSm_st {f : Int → Int} {a i s : Int} (h : s = zSm f a i) (h1 : a ≤ i) : s + f i = zSm f a (i + 1) := by rw [zSm_s h1, h]
theorem zSm_x {f : Int → Int} {a b i s : Int} (h : s = zSm f a i) (h1 : a ≤ i) (h2 : b ≤ i) (h3 : i ≤ b ∨ i = a) : s = zSm f a b := by
  rcases h3 with q | q
  · rw [h, show i = b by omega]
  · rw [h, q, zSm_0 (Int.le_refl _), zSm_0 (by omega)]
theorem zgs_l {a b c d : Int} {h : Int → Int} {p : Prop} (e1 : p → a = b) (e2 : c = d) : p → max a (h c) = max b (h d) := fun q => by rw [e1 q, e2]
theorem zeq_at {h : Int → Int} {c d : Int} (e : c = d) : h c = h d := by rw [e]
noncomputable def zSe (g : zi_M) (k j : Int) : Prop := max (zSm (g 45) 0 j) (g 189 ((k - 1) * 13 + j)) = g 189 (k * 13)
theorem zSe_st {g : zi_M} {k i v w : Int} (h : ∀ j : Int, 1 ≤ j → j < i → ¬ zSe g k j) (e1 : i ≤ g 36 12 → v = max (zSm (g 45) 0 i) (g 189 ((k - 1) * 13 + i))) (e2 : w = g 189 (k * 13)) (hi : i ≤ g 36 12) (hne : ¬ v = w) : ∀ j : Int, 1 ≤ j → j < i + 1 → ¬ zSe g k j := by
  intro j j1 j2 q
  by_cases c : j = i
  · rw [c] at q
    exact hne (by rw [e1 hi, e2]; exact q)
  · exact h j j1 (by omega) q
theorem zSe_f {g : zi_M} {k i v w : Int} (e1 : i ≤ g 36 12 → v = max (zSm (g 45) 0 i) (g 189 ((k - 1) * 13 + i))) (e2 : w = g 189 (k * 13)) (hi : i ≤ g 36 12) (he : v = w) : zSe g k i := by
  unfold zSe
  rw [← e1 hi, ← e2]
  exact he
theorem zSe_e {g : zi_M} {k i m : Int} (h : ∀ j : Int, 1 ≤ j → j < i → ¬ zSe g k j) (hi : m < i) : ∀ j : Int, 1 ≤ j → j ≤ m → ¬ zSe g k j := fun j j1 j2 => h j j1 (by omega)
noncomputable def zT1 (g : zi_M) (i : Int) : Prop := ∀ a : Int, 0 ≤ a → a < i → g 189 (13 + a) = zSm (g 45) a (g 36 12)
noncomputable def zTb (g : zi_M) (s i : Int) : Prop := ∀ t a : Int, 1 ≤ t → 0 ≤ a → a + t ≤ g 36 12 → t < s ∨ (t = s ∧ a < i) → g 189 (t * 13 + a) = zDP (g 45) (g 36 12) t.toNat a
theorem zf45 {g : zi_M} (I : zk_I g) (i : Int) : 0 ≤ g 45 i ∧ g 45 i ≤ 60 := I.1 45 i
theorem zf248 {g : zi_M} (I : zk_I g) (i : Int) : 0 ≤ g 248 i ∧ g 248 i ≤ 60 := I.1 248 i
theorem zT1_0 {g : zi_M} : zT1 g 0 := fun a h0 h1 => by exfalso; omega
theorem zu_45 {g g' : zi_M} {p v : Int} (e : g' = zi_u g 189 p v) : g' 45 = g 45 := by rw [e]; exact funext (fun i => zi_u_ne (by decide))
theorem zu_36 {g g' : zi_M} {p v : Int} (e : g' = zi_u g 189 p v) : g' 36 12 = g 36 12 := by rw [e]; exact zi_u_ne (by decide)
theorem zT1_st {g g' : zi_M} {i p v : Int} (h : zT1 g i) (e : g' = zi_u g 189 p v) (ep : p = 13 + i) (ev : g 36 12 ≤ g 36 12 → v = zSm (g 45) i (g 36 12)) (h0 : 0 ≤ i) : zT1 g' (i + 1) := by
  intro a a0 a1
  rw [zu_45 e, zu_36 e, e]
  by_cases c : a = i
  · rw [c, ep, zi_u_eq]
    exact ev (Int.le_refl _)
  · rw [zi_u_ni (by omega)]
    exact h a a0 (by omega)
theorem zT1_x {g : zi_M} {i : Int} (I : zk_I g) (h : zT1 g i) (hi : g 36 12 < i) : zTb g 2 0 := by
  intro t a t1 a0 ta hc
  have b := zSm_b (a := a) (b := g 36 12) (zf45 I)
  have c : 0 ≤ g 36 12 ∧ g 36 12 ≤ 12 := I.1 36 12
  have et : t = 1 := by omega
  rw [et, show (1 * 13 + a : Int) = 13 + a by omega, h a a0 (by omega)]
  exact (zDP_1 (by omega) ⟨by omega, by omega⟩).symm
theorem zTb_e {g : zi_M} {s k : Int} (h : zTb g s 0) (e : s = k + 1) : zTb g (k + 1) 0 := by rw [← e]; exact h
theorem zTb_x {g : zi_M} {s i : Int} (h : zTb g s i) (hi : g 36 12 - s < i) : zTb g (s + 1) 0 := by
  intro t a t1 a0 ta hc
  exact h t a t1 a0 ta (by omega)
theorem zTb_st {g g' : zi_M} {s i p v : Int} (e : g' = zi_u g 189 p v) (I : zk_I g) (h : zTb g s i) (ep : p = s * 13 + i) (ev : v = zDP (g 45) (g 36 12) s.toNat i) (h0 : 0 ≤ i) (h1 : i ≤ 12) : zTb g' s (i + 1) := by
  have c : 0 ≤ g 36 12 ∧ g 36 12 ≤ 12 := I.1 36 12
  intro t a t1 a0 ta hc
  rw [zu_36 e] at ta
  rw [zu_45 e, zu_36 e, e]
  by_cases q : t = s ∧ a = i
  · rw [q.1, q.2, ep, zi_u_eq]
    exact ev
  · rw [zi_u_ni (by omega)]
    exact h t a t1 a0 ta (by omega)
theorem zLb_i {g : zi_M} {D : Int → Int} {a v : Int} (hv : g 36 12 ≤ g 36 12 → v = zSm (g 45) 0 (g 36 12)) : v = zLb (g 45) D a (zSm (g 45) 0 (g 36 12)) (a + 1 - a - 1).toNat := by
  rw [show (a + 1 - a - 1).toNat = 0 by omega]
  exact hv (Int.le_refl _)
theorem zLb_st {g : zi_M} {s a i b v : Int} (hb : b = zLb (g 45) (zDP (g 45) (g 36 12) (s - 1).toNat) a (zSm (g 45) 0 (g 36 12)) (i - a - 1).toNat) (ht : zTb g s a) (hv : i ≤ g 36 12 → v = max (zSm (g 45) a i) (g 189 ((s - 1) * 13 + i))) (h1 : a + 1 ≤ i) (h2 : i ≤ g 36 12 - s + 1) (hs : 2 ≤ s) (h0 : 0 ≤ a) : min b v = zLb (g 45) (zDP (g 45) (g 36 12) (s - 1).toNat) a (zSm (g 45) 0 (g 36 12)) (i + 1 - a - 1).toNat := by
  have e := ht (s - 1) i (by omega) (by omega) (by omega) (Or.inl (by omega))
  rw [show (i + 1 - a - 1).toNat = (i - a - 1).toNat + 1 by omega]
  show min b v = min (zLb (g 45) (zDP (g 45) (g 36 12) (s - 1).toNat) a (zSm (g 45) 0 (g 36 12)) (i - a - 1).toNat) (max (zSm (g 45) a (a + ((i - a - 1).toNat : Int) + 1)) (zDP (g 45) (g 36 12) (s - 1).toNat (a + ((i - a - 1).toNat : Int) + 1)))
  rw [show a + ((i - a - 1).toNat : Int) + 1 = i by omega, ← hb, hv (by omega), e]
theorem zLb_x {g : zi_M} {s a i b : Int} (I : zk_I g) (hb : b = zLb (g 45) (zDP (g 45) (g 36 12) (s - 1).toNat) a (zSm (g 45) 0 (g 36 12)) (i - a - 1).toNat) (h1 : i = g 36 12 - s + 2) (h2 : a + 1 ≤ i) (hs : 2 ≤ s) (h0 : 0 ≤ a ∧ a + s ≤ g 36 12) : b = zDP (g 45) (g 36 12) s.toNat a := by
  have c : 0 ≤ g 36 12 ∧ g 36 12 ≤ 12 := I.1 36 12
  have h := zDP_cl (zf45 I) c.2 (l := (s - 1).toNat) (a := a) (by omega) h0.1 (by omega)
  rw [show (s - 1).toNat + 1 = s.toNat by omega] at h
  rw [← h, hb]
  congr 1
  omega
theorem zmn_eq {g : zi_M} {a : Int} : ∀ n : Nat, zmn g a n = zsm (g 248) a n
  | 0 => rfl
  | n + 1 => by
    show zmn g a n + g 248 (a + n) = zsm (g 248) a n + g 248 (a + n)
    rw [zmn_eq n]
theorem zmin_eq {g : zi_M} {a b : Int} : zmin g a b = zSm (g 248) a b := zmn_eq _
theorem zLo_st {f D : Int → Int} {a i b v w : Int} (hb : b = zLo f D a (i - a - 1).toNat) (hv : v = max (zSm f a i) (D i)) (h1 : a + 1 ≤ i) (hw : w = min b v) : w = zLo f D a (i + 1 - a - 1).toNat := by
  rw [show (i + 1 - a - 1).toNat = (i - a - 1).toNat + 1 by omega]
  show w = min (zLo f D a (i - a - 1).toNat) (max (zSm f a (a + ((i - a - 1).toNat : Int) + 1)) (D (a + ((i - a - 1).toNat : Int) + 1)))
  rw [show a + ((i - a - 1).toNat : Int) + 1 = i by omega, ← hb, ← hv, hw]
noncomputable def zMb (g : zi_M) (k i : Int) : Prop := ∀ a l : Int, i < a → a ≤ g 214 58 → 0 ≤ l → l ≤ k → g 249 (7 * a + l) = zDP (g 248) (g 214 58) l.toNat a
noncomputable def zMm (g : zi_M) (k i m : Int) : Prop := zMb g k i ∧ ∀ l : Int, 0 ≤ l → l < m → g 249 (7 * i + l) = zDP (g 248) (g 214 58) l.toNat i
theorem zv_248 {g g' : zi_M} {p v : Int} (e : g' = zi_u g 249 p v) : g' 248 = g 248 := by rw [e]; exact funext (fun i => zi_u_ne (by decide))
theorem zv_58 {g g' : zi_M} {p v : Int} (e : g' = zi_u g 249 p v) : g' 214 58 = g 214 58 := by rw [e]; exact zi_u_ne (by decide)
theorem zMm_st {g g' : zi_M} {k i m p v : Int} (h : zMm g k i m) (e : g' = zi_u g 249 p v) (ep : p = 7 * i + m) (ev : v = zDP (g 248) (g 214 58) m.toNat i) (hm : 0 ≤ m ∧ m ≤ 6) (hk : k ≤ 6) : zMm g' k i (m + 1) := by
  refine ⟨fun a l h0 h1 h2 h3 => ?_, fun l h0 h1 => ?_⟩
  · rw [zv_58 e] at h1
    rw [zv_248 e, zv_58 e, e, zi_u_ni (by omega)]
    exact h.1 a l h0 h1 h2 h3
  · rw [zv_248 e, zv_58 e, e]
    by_cases c : l = m
    · rw [c, ep, zi_u_eq]
      exact ev
    · rw [zi_u_ni (by omega)]
      exact h.2 l h0 (by omega)
theorem zMm_0 {g g' : zi_M} {k i p v : Int} (h : zMb g k i) (e : g' = zi_u g 249 p v) (ep : p = 7 * i) (ev : v = zDP (g 248) (g 214 58) 0 i) (hk : k ≤ 6) : zMm g' k i 1 := zMm_st (m := 0) ⟨h, fun l h0 h1 => by exfalso; omega⟩ e (by omega) ev ⟨by decide, by decide⟩ hk
theorem zMm_x {g : zi_M} {k i m : Int} (h : zMm g k i m) (hm : k < m) : zMb g k (i + (-1)) := by
  intro a l h0 h1 h2 h3
  by_cases c : a = i
  · rw [c]
    exact h.2 l h2 (by omega)
  · exact h.1 a l (by omega) h1 h2 h3
theorem zDP_sx {f : Int → Int} {n a l v : Int} (h1 : 1 ≤ l) (e : v = zLo f (zDP f n (l - 1).toNat) a (n - a).toNat) : v = zDP f n l.toNat a := by
  rw [show l.toNat = (l - 1).toNat + 1 by omega]
  exact e
/-- what reading answers -/
theorem zRd_eq {g : zi_M} {l1 l2 v w : Int} (I : zk_I g) (R : g 36 12 = g 214 58) (D : zRA 45 248 0 12 (fun _ => 0) g)
    (s0 : ¬ ((1 ≤ l1 ∧ l1 ≤ 6 ∧ l1 ≤ g 36 12) ∧ (l2 = 0 ∨ l2 = 1)) → v = -1) (s1 : 1 ≤ l1 ∧ l1 ≤ 6 ∧ l1 ≤ g 36 12 → l2 = 0 → v = zDP (g 45) (g 36 12) l1.toNat 0) (s2 : 1 ≤ l1 ∧ l1 ≤ 6 ∧ l1 ≤ g 36 12 → l2 = 1 → l1 = 1 → v = -1)
    (s3 : 1 ≤ l1 ∧ l1 ≤ 6 ∧ l1 ≤ g 36 12 → l2 = 1 → 2 ≤ l1 → (1 ≤ v ∧ v ≤ g 36 12) ∧ zFs (g 45) (g 36 12) l1.toNat v ∧ ∀ j : Int, 1 ≤ j → j < v → ¬ zFs (g 45) (g 36 12) l1.toNat j)
    (m0 : ¬ ((1 ≤ l1 ∧ l1 ≤ 6 ∧ l1 ≤ g 214 58) ∧ (l2 = 0 ∨ l2 = 1)) → w = -1) (m1 : 1 ≤ l1 ∧ l1 ≤ 6 ∧ l1 ≤ g 214 58 → l2 = 0 → w = zDP (g 248) (g 214 58) l1.toNat 0) (m2 : 1 ≤ l1 ∧ l1 ≤ 6 ∧ l1 ≤ g 214 58 → l2 = 1 → l1 = 1 → w = -1)
    (m3 : 1 ≤ l1 ∧ l1 ≤ 6 ∧ l1 ≤ g 214 58 → l2 = 1 → 2 ≤ l1 → (1 ≤ w ∧ w ≤ g 214 58) ∧ zFs (g 248) (g 214 58) l1.toNat w ∧ ∀ j : Int, 1 ≤ j → j < w → ¬ zFs (g 248) (g 214 58) l1.toNat j) : w = v := by
  rw [← R] at m0 m1 m2 m3
  have c12 : 0 ≤ g 36 12 ∧ g 36 12 ≤ 12 := I.1 36 12
  have e : ∀ i : Int, 0 ≤ i → i < g 36 12 → g 45 i = g 248 i := fun i i0 i1 => by
    have h : g 45 i = g 248 (0 + i) + 0 := D i i0 (by omega)
    rw [Int.zero_add] at h
    omega
  have ed := zDP_c e
  have es : ∀ j : Int, j ≤ g 36 12 → zSm (g 45) 0 j = zSm (g 248) 0 j := fun j hj => zSm_c (fun i i0 i1 => e i i0 (by omega))
  by_cases ok : 1 ≤ l1 ∧ l1 ≤ 6 ∧ l1 ≤ g 36 12
  · by_cases c0 : l2 = 0
    · rw [m1 ok c0, s1 ok c0, ed _ _ (by decide)]
    · by_cases c1 : l2 = 1
      · by_cases k1 : l1 = 1
        · rw [m2 ok c1 k1, s2 ok c1 k1]
        · obtain ⟨⟨v1, v2⟩, v3, v4⟩ := s3 ok c1 (by omega)
          obtain ⟨⟨w1, w2⟩, w3, w4⟩ := m3 ok c1 (by omega)
          have tr : ∀ j : Int, 0 ≤ j → j ≤ g 36 12 → (zFs (g 45) (g 36 12) l1.toNat j ↔ zFs (g 248) (g 36 12) l1.toNat j) := fun j j0 j1 => by
            unfold zFs
            rw [es j j1, ed _ j j0, ed _ 0 (by decide)]
          by_cases c : v < w
          · exact absurd ((tr v (by omega) v2).mp v3) (w4 v v1 c)
          · by_cases d : w < v
            · exact absurd ((tr w (by omega) w2).mpr w3) (v4 w w1 d)
            · omega
      · rw [m0 (fun h => by omega), s0 (fun h => by omega)]
  · rw [m0 (fun h => ok h.1), s0 (fun h => ok h.1)]
theorem zSe_Fs {g g5 : zi_M} {k j : Int} (e45 : g5 45 = g 45) (e36 : g5 36 12 = g 36 12) (T : zTb g5 (k + 1) 0) (hk : 2 ≤ k) (hk2 : k ≤ g 36 12) (hj : 1 ≤ j) (hj2 : j ≤ g 36 12 - k + 1) : zSe g5 k j ↔ zFs (g 45) (g 36 12) k.toNat j := by
  have t1 := T (k - 1) j (by omega) (by omega) (by rw [e36]; omega) (Or.inl (by omega))
  have t2 := T k 0 (by omega) (by decide) (by rw [e36]; omega) (Or.inl (by omega))
  rw [Int.add_zero] at t2
  unfold zSe zFs
  rw [t1, t2, e45, e36, show k.toNat - 1 = (k - 1).toNat by omega]
noncomputable def zMe (g : zi_M) (k j : Int) : Prop := max (zSm (g 248) 0 j) (g 249 (7 * j + k - 1)) = g 249 k
theorem zMe_Fs {g g5 : zi_M} {k j : Int} (e248 : g5 248 = g 248) (e58 : g5 214 58 = g 214 58) (T : zMb g5 k (-1)) (hk : 1 ≤ k) (hj : 1 ≤ j) (hj2 : j ≤ g 214 58) : zMe g5 k j ↔ zFs (g 248) (g 214 58) k.toNat j := by
  have t1 := T j (k - 1) (by omega) (by rw [e58]; exact hj2) (by omega) (by omega)
  have t2 := T 0 k (by decide) (by rw [e58]; omega) (by omega) (Int.le_refl _)
  rw [show 7 * j + (k - 1) = 7 * j + k - 1 by omega] at t1
  rw [show 7 * 0 + k = k by omega] at t2
  unfold zMe zFs
  rw [t1, t2, e248, e58, show k.toNat - 1 = (k - 1).toNat by omega]
