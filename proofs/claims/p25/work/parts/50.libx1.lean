-- GAME: two by turns
noncomputable def zvPt (n o t : Int) : Prop := t ≤ n ∧ Int.tmod (n - t) 3 = o
noncomputable def zvTf (n o : Int) : Int := zite (zvPt n o 1) 1 (zite (zvPt n o 2) 2 (zite (zvPt n o 4) 4 (-1)))
section
variable {n o l : Int}
theorem zvTf_1 (h : zvPt n o 1) : zvTf n o = 1 := by unfold zvTf; exact zite_p h
theorem zvTf_2 (a : ¬ zvPt n o 1) (h : zvPt n o 2) : zvTf n o = 2 := by unfold zvTf; rw [zite_n a]; exact zite_p h
theorem zvTf_4 (a : ¬ zvPt n o 1) (b : ¬ zvPt n o 2) (h : zvPt n o 4) : zvTf n o = 4 := by unfold zvTf; rw [zite_n a, zite_n b]; exact zite_p h
theorem zvTf_0 (a : ¬ zvPt n o 1) (b : ¬ zvPt n o 2) (h : ¬ zvPt n o 4) : zvTf n o = -1 := by unfold zvTf; rw [zite_n a, zite_n b]; exact zite_n h
/-- takes tried one after the other: 1, 2, 4 -/
noncomputable def zvTi (n o l : Int) : Prop := l = 1 ∨ (l = 2 ∧ ¬ zvPt n o 1) ∨ (l = 4 ∧ ¬ zvPt n o 1 ∧ ¬ zvPt n o 2) ∨ (l = 8 ∧ ¬ zvPt n o 1 ∧ ¬ zvPt n o 2 ∧ ¬ zvPt n o 4)
theorem zvTi_0 : zvTi n o 1 := Or.inl rfl
theorem zvTi_s (h : zvTi n o l) (c : l ≤ 4) (e : ¬ Int.tmod (n - l) 3 = o) : zvTi n o (l * 2) := by
  have q : ¬ zvPt n o l := fun p => e p.2
  rcases h with h | ⟨h, a⟩ | ⟨h, a, b⟩ | ⟨h, _⟩
  · subst h; exact Or.inr (Or.inl ⟨rfl, q⟩)
  · subst h; exact Or.inr (Or.inr (Or.inl ⟨rfl, a, q⟩))
  · subst h; exact Or.inr (Or.inr (Or.inr ⟨rfl, a, b, q⟩))
  · exfalso; omega
theorem zvTi_y (h : zvTi n o l) (c : l ≤ 4) (k : l ≤ n) (e : Int.tmod (n - l) 3 = o) : l = zvTf n o := by
  have q : zvPt n o l := ⟨k, e⟩
  rcases h with h | ⟨h, a⟩ | ⟨h, a, b⟩ | ⟨h, _⟩
  · subst h; exact (zvTf_1 q).symm
  · subst h; exact (zvTf_2 a q).symm
  · subst h; exact (zvTf_4 a b q).symm
  · exfalso; omega
theorem zvTi_n (h : zvTi n o l) (c : 4 < l ∨ n < l) : zvTf n o = -1 := by
  have q : ∀ t : Int, l ≤ t → n < l → ¬ zvPt n o t := fun t a b p => by have := p.1; omega
  rcases h with h | ⟨h, a⟩ | ⟨h, a, b⟩ | ⟨h, a, b, d⟩
  · have m : n < l := by omega
    exact zvTf_0 (q 1 (by omega) m) (q 2 (by omega) m) (q 4 (by omega) m)
  · have m : n < l := by omega
    exact zvTf_0 a (q 2 (by omega) m) (q 4 (by omega) m)
  · have m : n < l := by omega
    exact zvTf_0 a b (q 4 (by omega) m)
  · exact zvTf_0 a b d
/-- 1, 2, 3, 4 -/
noncomputable def zvTu (n o l : Int) : Prop := l = 1 ∨ (l = 2 ∧ ¬ zvPt n o 1) ∨ ((l = 3 ∨ l = 4) ∧ ¬ zvPt n o 1 ∧ ¬ zvPt n o 2) ∨ (l = 5 ∧ ¬ zvPt n o 1 ∧ ¬ zvPt n o 2 ∧ ¬ zvPt n o 4)
theorem zvTu_0 : zvTu n o 1 := Or.inl rfl
theorem zvTu_3 (h : zvTu n o l) (e : l = 3) : zvTu n o (l + 1) := by
  rcases h with h | ⟨h, a⟩ | ⟨h, a, b⟩ | ⟨h, _⟩
  · exfalso; omega
  · exfalso; omega
  · exact Or.inr (Or.inr (Or.inl ⟨Or.inr (by omega), a, b⟩))
  · exfalso; omega
theorem zvTu_s (h : zvTu n o l) (n3 : ¬ l = 3) (c : l ≤ 4) (e : ¬ o = Int.tmod (n - l) 3) : zvTu n o (l + 1) := by
  have q : ¬ zvPt n o l := fun p => e p.2.symm
  rcases h with h | ⟨h, a⟩ | ⟨h, a, b⟩ | ⟨h, _⟩
  · subst h; exact Or.inr (Or.inl ⟨rfl, q⟩)
  · subst h; exact Or.inr (Or.inr (Or.inl ⟨Or.inl rfl, a, q⟩))
  · have e4 : l = 4 := by omega
    subst e4; exact Or.inr (Or.inr (Or.inr ⟨rfl, a, b, q⟩))
  · exfalso; omega
theorem zvTu_y (h : zvTu n o l) (n3 : ¬ l = 3) (c : l ≤ 4) (k : l ≤ n) (e : o = Int.tmod (n - l) 3) : l = zvTf n o := by
  have q : zvPt n o l := ⟨k, e.symm⟩
  rcases h with h | ⟨h, a⟩ | ⟨h, a, b⟩ | ⟨h, _⟩
  · subst h; exact (zvTf_1 q).symm
  · subst h; exact (zvTf_2 a q).symm
  · have e4 : l = 4 := by omega
    subst e4; exact (zvTf_4 a b q).symm
  · exfalso; omega
theorem zvTu_n (h : zvTu n o l) (c : 4 < l ∨ n < l) : zvTf n o = -1 := by
  have q : ∀ t : Int, l ≤ t → n < l → ¬ zvPt n o t := fun t a b p => by have := p.1; omega
  rcases h with h | ⟨h, a⟩ | ⟨h, a, b⟩ | ⟨h, a, b, d⟩
  · have m : n < l := by omega
    exact zvTf_0 (q 1 (by omega) m) (q 2 (by omega) m) (q 4 (by omega) m)
  · have m : n < l := by omega
    exact zvTf_0 a (q 2 (by omega) m) (q 4 (by omega) m)
  · have m : n < l := by omega
    exact zvTf_0 a b (q 4 (by omega) m)
  · exact zvTf_0 a b d
end
/-- of all, of all but one -/
noncomputable def zxo (c : Int → Int) : Nat → Int
  | 0 => 0
  | n + 1 => zi_xor (zxo c n) (Int.tmod (c (n : Int)) 3)
noncomputable def zxq (c : Int → Int) (p : Int) : Nat → Int
  | 0 => 0
  | n + 1 => zite ((n : Int) = p) (zi_xor (zxq c p n) 0) (zi_xor (zxq c p n) (Int.tmod (c (n : Int)) 3))
theorem zx_ac : ∀ a b c : Nat, a < 4 → b < 4 → c < 4 → zi_xor (zi_xor (a : Int) (b : Int)) (c : Int) = zi_xor (zi_xor (a : Int) (c : Int)) (b : Int) := by
  have h : ∀ a : Nat, a < 4 → ∀ b : Nat, b < 4 → ∀ c : Nat, c < 4 → zi_xor (zi_xor (a : Int) (b : Int)) (c : Int) = zi_xor (zi_xor (a : Int) (c : Int)) (b : Int) := by decide +kernel
  exact fun a b c ha hb hc => h a ha b hb c hc
theorem zx_aa : ∀ a b : Nat, a < 4 → b < 4 → zi_xor (zi_xor (a : Int) (b : Int)) (b : Int) = (a : Int) ∧ (0 ≤ zi_xor (a : Int) (b : Int) ∧ zi_xor (a : Int) (b : Int) < 4) ∧ zi_xor (a : Int) 0 = (a : Int) := by
  have h : ∀ a : Nat, a < 4 → ∀ b : Nat, b < 4 → zi_xor (zi_xor (a : Int) (b : Int)) (b : Int) = (a : Int) ∧ (0 ≤ zi_xor (a : Int) (b : Int) ∧ zi_xor (a : Int) (b : Int) < 4) ∧ zi_xor (a : Int) 0 = (a : Int) := by decide +kernel
  exact fun a b ha hb => h a ha b hb
theorem zx_2 {a b : Int} (ha : 0 ≤ a ∧ a < 4) (hb : 0 ≤ b ∧ b < 4) : zi_xor (zi_xor a b) b = a ∧ (0 ≤ zi_xor a b ∧ zi_xor a b < 4) ∧ zi_xor a 0 = a := by
  have h := zx_aa a.toNat b.toNat (by omega) (by omega)
  rw [show ((a.toNat : Nat) : Int) = a by omega, show ((b.toNat : Nat) : Int) = b by omega] at h
  exact h
theorem zx_3 {a b c : Int} (ha : 0 ≤ a ∧ a < 4) (hb : 0 ≤ b ∧ b < 4) (hc : 0 ≤ c ∧ c < 4) : zi_xor (zi_xor a b) c = zi_xor (zi_xor a c) b := by
  have h := zx_ac a.toNat b.toNat c.toNat (by omega) (by omega) (by omega)
  rw [show ((a.toNat : Nat) : Int) = a by omega, show ((b.toNat : Nat) : Int) = b by omega, show ((c.toNat : Nat) : Int) = c by omega] at h
  exact h
theorem zx_t {x : Int} (h : 0 ≤ x) : 0 ≤ Int.tmod x 3 ∧ Int.tmod x 3 < 4 := by
  rw [Int.tmod_eq_emod_of_nonneg h]
  omega
section
variable {c : Int → Int} {p : Int}
theorem zxo_r (b : ∀ i : Int, 0 ≤ c i) : ∀ n : Nat, 0 ≤ zxo c n ∧ zxo c n < 4
  | 0 => by
    show (0 : Int) ≤ 0 ∧ (0 : Int) < 4
    exact ⟨by decide, by decide⟩
  | n + 1 => (zx_2 (zxo_r b n) (zx_t (b (n : Int)))).2.1
theorem zxq_r (b : ∀ i : Int, 0 ≤ c i) : ∀ n : Nat, 0 ≤ zxq c p n ∧ zxq c p n < 4
  | 0 => by
    show (0 : Int) ≤ 0 ∧ (0 : Int) < 4
    exact ⟨by decide, by decide⟩
  | n + 1 => by
    show 0 ≤ zite _ _ _ ∧ zite _ _ _ < 4
    by_cases e : (n : Int) = p
    · rw [zite_p e]; exact (zx_2 (zxq_r b n) ⟨by decide, by decide⟩).2.1
    · rw [zite_n e]; exact (zx_2 (zxq_r b n) (zx_t (b (n : Int)))).2.1
/-- all but one: all, and that one once more -/
theorem zxq_e (b : ∀ i : Int, 0 ≤ c i) : ∀ n : Nat, ((n : Int) ≤ p → zxq c p n = zxo c n) ∧ (p < (n : Int) → 0 ≤ p → zxq c p n = zi_xor (zxo c n) (Int.tmod (c p) 3))
  | 0 => ⟨fun _ => rfl, fun q _ => by exfalso; omega⟩
  | n + 1 => by
    have ih := zxq_e b n
    have ro := zxo_r b n
    have rq := zxq_r (p := p) b n
    have tn := zx_t (b (n : Int))
    have tp := zx_t (b p)
    refine ⟨fun q => ?_, fun q p0 => ?_⟩
    · show zite _ _ _ = zi_xor _ _
      rw [zite_n (by omega), ih.1 (by omega)]
    · show zite _ _ _ = zi_xor (zi_xor _ _) _
      by_cases e : (n : Int) = p
      · rw [zite_p e, ih.1 (by omega), (zx_2 ro tp).2.2, e, (zx_2 ro tp).1]
      · rw [zite_n e, ih.2 (by omega) p0, zx_3 ro tn tp]
theorem zxo_t {l i w : Int} (h : l = zxo c i.toNat) (i0 : 0 ≤ i) (e : w = zi_xor l (Int.tmod (c i) 3)) : w = zxo c (i + 1).toNat := by
  rw [e, show (i + 1).toNat = i.toNat + 1 by omega, h]
  show _ = zi_xor _ _
  rw [show ((i.toNat : Nat) : Int) = i by omega]
theorem zxo_x {l i n : Int} (h : l = zxo c i.toNat) (e : i = n) : l = zxo c n.toNat := by rw [h, e]
theorem zxo_c {c' : Int → Int} : ∀ n : Nat, (∀ i : Int, 0 ≤ i → i < n → c i = c' i) → zxo c n = zxo c' n
  | 0, _ => rfl
  | n + 1, h => by
    show zi_xor _ _ = zi_xor _ _
    rw [zxo_c n (fun i i0 i1 => h i i0 (by omega)), h (n : Int) (by omega) (by omega)]
theorem zxq_t {l i w : Int} (h : l = zxq c p i.toNat) (i0 : 0 ≤ i) (n : ¬ i = p) (e : w = zi_xor l (Int.tmod (c i) 3)) : w = zxq c p (i + 1).toNat := by
  rw [e, show (i + 1).toNat = i.toNat + 1 by omega, h]
  show _ = zite _ _ _
  rw [show ((i.toNat : Nat) : Int) = i by omega, zite_n n]
theorem zxq_u {l i w : Int} (h : l = zxq c p i.toNat) (i0 : 0 ≤ i) (n : i = p) (e : w = zi_xor l 0) : w = zxq c p (i + 1).toNat := by
  rw [e, show (i + 1).toNat = i.toNat + 1 by omega, h]
  show _ = zite _ _ _
  rw [show ((i.toNat : Nat) : Int) = i by omega, zite_p n]
theorem zxq_x {l i n : Int} (h : l = zxq c p i.toNat) (e : i = n) : l = zxq c p n.toNat := by rw [h, e]
end
/-- who begins well takes of this one -/
noncomputable def zvTk (c : Int → Int) (S p : Int) : Int := zvTf (c p) (zxq c p S.toNat)
noncomputable def zvTm (a n : Int) : Int := zvTf n (zi_xor a (Int.tmod n 3))
theorem zvTk_of {c : Int → Int} {S p o v : Int} (k : o = zxq c p S.toNat) (h : v = zvTf (c p) o) : v = zvTk c S p := by
  unfold zvTk
  rw [← k]
  exact h
theorem zvTk_on {c : Int → Int} {S p o : Int} (k : o = zxq c p S.toNat) (h : zvTf (c p) o = -1) : -1 = zvTk c S p := by
  unfold zvTk
  rw [← k]
  exact h.symm
theorem zvTk_m {c : Int → Int} {S p : Int} (b : ∀ i : Int, 0 ≤ c i) (p0 : 0 ≤ p) (p1 : p < S) : zvTk c S p = zvTm (zxo c S.toNat) (c p) := by
  unfold zvTk zvTm
  rw [(zxq_e b S.toNat).2 (by omega) p0]
/-- the first one -/
noncomputable def zGi (f : Int → Int) (l : Int) : Prop := ∀ q : Int, 0 ≤ q → q < l → f q = -1
theorem zGi_0 {f : Int → Int} : zGi f 0 := fun q q0 q1 => by exfalso; omega
theorem zGi_s {f : Int → Int} {l v S : Int} (h : zGi f l) (b : 0 ≤ l ∧ l < S → v = f l) (r : 0 ≤ l ∧ l < S) (c : v = -1) : zGi f (l + 1) := fun q q0 q1 => by
  by_cases e : q = l
  · rw [e, ← b r]; exact c
  · exact h q q0 (by omega)
noncomputable def zGs (f : Int → Int) (S v : Int) : Prop := (v = -1 ∧ zGi f S) ∨ (0 ≤ v ∧ v < S ∧ ¬ f v = -1 ∧ zGi f v)
theorem zGs_u {f f' : Int → Int} {S v w : Int} (e : ∀ q : Int, 0 ≤ q → q < S → f q = f' q) (h : zGs f S v) (k : zGs f' S w) : w = v := by
  rcases h with ⟨h, a⟩ | ⟨h0, h1, h2, a⟩
  · rcases k with ⟨k, b⟩ | ⟨k0, k1, k2, b⟩
    · rw [h, k]
    · exact absurd (by rw [← e w k0 k1]; exact a w k0 k1) k2
  · rcases k with ⟨k, b⟩ | ⟨k0, k1, k2, b⟩
    · exact absurd (by rw [e v h0 h1]; exact b v h0 h1) h2
    · by_cases c : v < w
      · exact absurd (by rw [e v h0 h1]; exact b v h0 c) h2
      · by_cases d : w < v
        · exact absurd (by rw [← e w k0 k1]; exact a w k0 d) k2
        · omega
theorem zGs_y {f : Int → Int} {S v : Int} (r : 0 ≤ v ∧ v < S) (n : ¬ f v = -1) (h : zGi f v) : zGs f S v := Or.inr ⟨r.1, r.2, n, h⟩
theorem zGs_n {f : Int → Int} {S : Int} (h : zGi f S) : zGs f S (-1) := Or.inl ⟨rfl, h⟩
theorem zGi_x {f : Int → Int} {l n : Int} (h : zGi f l) (e : l = n) : zGi f n := by rw [e] at h; exact h
theorem zGs_v {f : Int → Int} {l v S : Int} (b : 0 ≤ l ∧ l < S → v = f l) (r : 0 ≤ l ∧ l < S) (n : ¬ v = -1) : ¬ f l = -1 := fun q => n ((b r).trans q)
noncomputable def zgaP (f : Int → Int) (S l v : Int) : Prop := (¬ (l = 0 ∨ l = 1) → v = -1) ∧ (l = 0 ∨ l = 1 → ∃ s : Int, zGs f S s ∧ (l = 0 → v = s) ∧ (l = 1 → (s = -1 → v = -1) ∧ (0 ≤ s → v = f s)))
noncomputable def zgaS (g : zi_M) (l v : Int) : Prop := zgaP (zvTk (g 8) (g 2 8)) (g 2 8) l v
noncomputable def zgaM (g : zi_M) (l v : Int) : Prop := zgaP (fun p => zvTm (zxo (fun q => g 215 (26 + q)) (g 214 6).toNat) (g 215 (26 + p))) (g 214 6) l v
theorem zgaP_n {f : Int → Int} {S l : Int} (h : ¬ (l = 0 ∨ l = 1)) : zgaP f S l (-1) := ⟨fun _ => rfl, fun q => absurd q h⟩
theorem zgaP_0 {f : Int → Int} {S l s : Int} (h : l = 0) (b : zGs f S s) : zgaP f S l s := ⟨fun q => absurd (Or.inl h) q, fun _ => ⟨s, b, fun _ => rfl, fun q => by exfalso; omega⟩⟩
theorem zgaP_1 {f : Int → Int} {S l s v : Int} (h : l = 1) (b : zGs f S s) (t : 0 ≤ s ∧ s < S → v = f s) (u : s < 0 ∨ S ≤ s → v = -1) : zgaP f S l v := ⟨fun q => absurd (Or.inr h) q, fun _ => ⟨s, b, fun q => by exfalso; omega, fun _ => ⟨fun q => u (by omega), fun q => by
  rcases b with ⟨b, _⟩ | ⟨b0, b1, _⟩
  · exfalso; omega
  · exact t ⟨b0, b1⟩⟩⟩⟩
-- the reference
noncomputable def zGj (a : Int) (g : zi_M) (l : Int) : Prop := ∀ q : Int, 0 ≤ q → q < l → zvTm a (g 215 (26 + q)) = -1
theorem zGj_0 {a : Int} {g : zi_M} : zGj a g 0 := fun q q0 q1 => by exfalso; omega
theorem zGj_s {a l : Int} {g0 g : zi_M} (h : zGj a g0 l) (F : zk_fr fr_M_game g0 g) (e : zvTm a (g 215 (26 + l)) = -1) : zGj a g0 (l + 1) := fun q q0 q1 => by
  by_cases c : q = l
  · rw [c, ← F 215 (26 + l) (fun w => by unfold fr_M_game at w; omega)]; exact e
  · exact h q q0 (by omega)
theorem zGj_x {a l n : Int} {g : zi_M} (h : zGj a g l) (e : l = n) : zGj a g n := by rw [e] at h; exact h
theorem zGk_1 {a l v : Int} {g0 g : zi_M} (F : zk_fr fr_M_game g0 g) (e : v = zvTm a (g 215 (26 + l))) : v = zvTm a (g0 215 (26 + l)) := by
  rw [← F 215 (26 + l) (fun w => by unfold fr_M_game at w; omega)]; exact e
noncomputable def zxg (g : zi_M) (n : Nat) : Int := zxo (fun p => g 215 (26 + p)) n
theorem zxg_x {g : zi_M} {l i n : Int} (h : l = zxg g i.toNat) (e : i = n) : l = zxg g n.toNat := zxo_x (c := fun p => g 215 (26 + p)) h e
theorem zGk_o {l2 l3 : Int} {g0 g : zi_M} (F : zk_fr fr_M_game g0 g) (h : l2 = zxg g0 l3.toNat) (i0 : 0 ≤ l3) : zi_xor l2 (Int.tmod (g 215 (26 + l3)) 3) = zxg g0 (l3 + 1).toNat :=
  zxo_t (c := fun p => g0 215 (26 + p)) h i0 (by rw [F 215 (26 + l3) (fun w => by unfold fr_M_game at w; omega)])
theorem zGk_6 {g0 g : zi_M} (F : zk_fr fr_M_game g0 g) : g 214 6 = g0 214 6 := F 214 6 (fun w => by unfold fr_M_game at w; omega)
theorem zgaM_y {g0 : zi_M} {l a s t v : Int} (h : a = zxg g0 (g0 214 6).toNat) (b : 0 ≤ s ∧ s < g0 214 6) (c : t = zvTm a (g0 215 (26 + s))) (d : 1 ≤ t) (e : zGj a g0 s) (hl : l = 0 ∨ l = 1) (h0 : l = 0 → v = s) (h1 : l = 1 → v = t) : zgaM g0 l v := by
  have h' : a = zxo (fun p => g0 215 (26 + p)) (g0 214 6).toNat := h
  unfold zgaM
  rw [← h']
  refine ⟨fun q => absurd hl q, fun _ => ⟨s, Or.inr ⟨b.1, b.2, ?_, e⟩, h0, fun q => ⟨fun z => by exfalso; omega, fun _ => by rw [h1 q]; exact c⟩⟩⟩
  show ¬ zvTm a (g0 215 (26 + s)) = -1
  rw [← c]
  omega
theorem zgaM_z {g0 : zi_M} {l a : Int} (h : a = zxg g0 (g0 214 6).toNat) (e : zGj a g0 (g0 214 6)) (hl : l = 0 ∨ l = 1) : zgaM g0 l (-1) := by
  have h' : a = zxo (fun p => g0 215 (26 + p)) (g0 214 6).toNat := h
  unfold zgaM
  rw [← h']
  exact ⟨fun q => absurd hl q, fun _ => ⟨-1, Or.inl ⟨rfl, e⟩, fun _ => rfl, fun _ => ⟨fun _ => rfl, fun z => by exfalso; omega⟩⟩⟩
/-- the answers of GAME -/
theorem zga_eq {g g1 : zi_M} {l v1 v2 : Int} (I : zk_I g) (R : zFD g) (sp : g 2 8 = g 214 6) (a : zgaS g l v1) (b : zgaM g1 l v2) (hs : ∀ (a : Nat) (i : Int), 214 ≤ a → g1 a i = g a i) : v2 = v1 := by
  have b8 : (0 : Int) ≤ g 2 8 ∧ g 2 8 ≤ 10 := I.1 2 8
  obtain ⟨-, -, -, -, -, -, -, -, y8, -⟩ := zFA_out R.1
  have r : (fun p => g1 215 (26 + p)) = (fun p => g 215 (26 + p)) := funext fun p => hs 215 _ (by decide)
  have ce : ∀ i : Int, 0 ≤ i → i < 10 → g 8 i = g 215 (26 + i) := y8
  have fe : ∀ q : Int, 0 ≤ q → q < g 2 8 → zvTk (g 8) (g 2 8) q = zvTm (zxo (fun p => g1 215 (26 + p)) (g 2 8).toNat) (g1 215 (26 + q)) := fun q q0 q1 => by
    rw [zvTk_m (fun i => (I.1 8 i).1) q0 q1, r, hs 215 _ (by decide), ce q q0 (by omega), zxo_c (c' := fun p => g 215 (26 + p)) (g 2 8).toNat (fun i i0 i1 => ce i i0 (by omega))]
  obtain ⟨a1, a2⟩ := a
  obtain ⟨b1, b2⟩ := b
  rw [hs 214 6 (by decide), ← sp] at b2
  by_cases h : l = 0 ∨ l = 1
  · obtain ⟨s, s1, s2, s3⟩ := a2 h
    obtain ⟨t, t1, t2, t3⟩ := b2 h
    have e := zGs_u fe s1 t1
    subst e
    rcases h with h | h
    · rw [s2 h, t2 h]
    · obtain ⟨u1, u2⟩ := s3 h
      obtain ⟨w1, w2⟩ := t3 h
      rcases s1 with ⟨s1, _⟩ | ⟨q0, q1, _⟩
      · rw [u1 s1, w1 s1]
      · rw [u2 q0, w2 q0]
        exact (fe _ q0 q1).symm
  · rw [a1 h, b1 h]
