-- QUARRELS, THE OTHER SIDE: colours that spread
noncomputable def zqE (A B : Int → Int) (n a b : Int) : Prop := ∃ i : Int, 0 ≤ i ∧ i < n ∧ ((A i = a ∧ B i = b) ∨ (A i = b ∧ B i = a))
theorem zqE_G {A B : Int → Int} {n : Int} (ha : ∀ i, 0 ≤ A i ∧ A i ≤ 9) (hb : ∀ i, 0 ≤ B i ∧ B i ≤ 9) : zqG (zqE A B n) := by
  refine ⟨fun a b => ?_, fun a b => ?_⟩
  · rintro ⟨i, h0, h1, h2⟩
    exact ⟨i, h0, h1, h2.elim Or.inr Or.inl⟩
  · rintro ⟨i, h0, h1, h2⟩
    have x := ha i
    have y := hb i
    rcases h2 with h2 | h2
    · rw [← h2.1]; exact x
    · rw [← h2.2]; exact y
theorem zqE_c {A B A' B' : Int → Int} {n n' a b : Int} (en : n' = n) (ea : ∀ i, 0 ≤ i → i < n → A' i = A i) (eb : ∀ i, 0 ≤ i → i < n → B' i = B i) : zqE A' B' n' a b ↔ zqE A B n a b := by
  constructor
  · rintro ⟨i, h0, h1, h2⟩
    rw [en] at h1
    rw [ea i h0 h1, eb i h0 h1] at h2
    exact ⟨i, h0, h1, h2⟩
  · rintro ⟨i, h0, h1, h2⟩
    rw [← ea i h0 h1, ← eb i h0 h1] at h2
    exact ⟨i, h0, by rw [en]; exact h1, h2⟩
theorem zx1 : ∀ n : Nat, n < 32 → zi_xor (n : Int) 1 = if (n : Int) % 2 = 0 then (n : Int) + 1 else (n : Int) - 1 := by decide +kernel
theorem zx_1 {x : Int} (h : 0 ≤ x ∧ x ≤ 31) : (x % 2 = 0 → zi_xor x 1 = x + 1) ∧ (x % 2 = 1 → zi_xor x 1 = x - 1) := by
  have e := zx1 x.toNat (by omega)
  rw [show ((x.toNat : Nat) : Int) = x by omega] at e
  rw [e]
  refine ⟨fun z => if_pos z, fun z => if_neg (by omega)⟩
/-- without a colour till now, p is the one from which it spreads -/
noncomputable def zcU (C0 : Int → Int) (p q : Int) : Prop := q = p ∨ C0 q = -1
noncomputable def zcP (E : Int → Int → Prop) (p c : Int) (C0 : Int → Int) : Prop := (c % 2 = 0 ∧ 0 ≤ c ∧ c ≤ 28) ∧ C0 p = c ∧ ∀ a b, E a b → zcU C0 p a → zcU C0 p b
noncomputable def zcN (E : Int → Int → Prop) (p c : Int) (C0 C : Int → Int) : Prop := ∀ q, (¬ zcU C0 p q → C q = C0 q) ∧ (zcU C0 p q → C q = -1 ∨ ∃ n : Nat, zqW E n p q ∧ C q = c + ((n % 2 : Nat) : Int))
noncomputable def zcK (E : Int → Int → Prop) (p k : Int) (C : Int → Int) : Prop := ∀ (j : Nat) (q : Int), (j : Int) ≤ k → zqW E j p q → ¬ C q = -1
noncomputable def zcR (E : Int → Int → Prop) (p c k : Int) (C0 C : Int → Int) : Prop := zcN E p c C0 C ∧ zcK E p k C
noncomputable def zcS (A B : Int → Int) (n p c k i : Int) (C0 C : Int → Int) : Prop := zcR (zqE A B n) p c k C0 C ∧ ∀ e : Int, 0 ≤ e → e < i → ∀ j : Nat, (j : Int) ≤ k → (zqW (zqE A B n) j p (A e) → ¬ C (B e) = -1) ∧ (zqW (zqE A B n) j p (B e) → ¬ C (A e) = -1)
noncomputable def zcTR (A B : Int → Int) (n k : Int) (C0 C : Int → Int) : Prop := ∀ p c : Int, zcP (zqE A B n) p c C0 → zcR (zqE A B n) p c k C0 C
noncomputable def zcT (A B : Int → Int) (n k i : Int) (C0 C : Int → Int) : Prop := ∀ p c : Int, zcP (zqE A B n) p c C0 → zcS A B n p c k i C0 C
theorem zcTR_0 {A B C : Int → Int} {n : Int} : zcTR A B n 0 C C := fun p c P => by
  refine ⟨fun q => ⟨fun _ => rfl, fun u => ?_⟩, fun j q hj w => ?_⟩
  · rcases u with u | u
    · refine Or.inr ⟨0, u, ?_⟩
      rw [u, P.2.1]
      simp
    · exact Or.inl u
  · have e : j = 0 := by omega
    rw [e] at w
    have e2 : q = p := w
    have := P.2.1
    have := P.1
    rw [e2]
    omega
theorem zcT_0 {A B C0 C : Int → Int} {n k : Int} (h : zcTR A B n k C0 C) : zcT A B n k 0 C0 C := fun p c P => ⟨h p c P, fun e h0 h1 => by exfalso; omega⟩
theorem zcTR_1 {A B C0 C : Int → Int} {n k i : Int} (h : zcT A B n k i C0 C) (hi : n ≤ i) (k0 : 0 ≤ k) : zcTR A B n (k + 1) C0 C := fun p c P => by
  obtain ⟨⟨a, b⟩, d⟩ := h p c P
  refine ⟨a, fun j q hj w => ?_⟩
  by_cases z : (j : Int) ≤ k
  · exact b j q z w
  · obtain ⟨m, e⟩ : ∃ m, j = m + 1 := ⟨j - 1, by omega⟩
    rw [e] at w
    obtain ⟨r, w1, x, x0, x1, x2⟩ := w
    have y := d x x0 (by omega) m (by omega)
    rcases x2 with x2 | x2
    · rw [x2.1, x2.2] at y
      exact y.1 w1
    · rw [x2.1, x2.2] at y
      exact y.2 w1
/-- one line looked at, and nothing to do -/
theorem zcT_eq {A B C0 C : Int → Int} {n k i a b : Int} (h : zcT A B n k i C0 C) (ha : a = A i) (hb : b = B i) (c : C a = -1 ↔ C b = -1) : zcT A B n k (i + 1) C0 C := fun p c' P => by
  obtain ⟨x, d⟩ := h p c' P
  refine ⟨x, fun e e0 e1 j hj => ?_⟩
  by_cases q : e = i
  · rw [q, ← ha, ← hb]
    exact ⟨fun w => fun z => x.2 j a hj w (c.2 z), fun w => fun z => x.2 j b hj w (c.1 z)⟩
  · exact d e e0 (by omega) j hj
/-- a colour spreads from y to x -/
theorem zcT_st {A B C0 : Int → Int} {g g' : zi_M} {n k i x y : Int} (h : zcT A B n k i C0 (g 184)) (h0 : 0 ≤ i) (hn : i < n) (he : (x = A i ∧ y = B i) ∨ (x = B i ∧ y = A i)) (cy : ¬ g 184 y = -1) (cx : g 184 x = -1) (bd : -1 ≤ g 184 y ∧ g 184 y ≤ 31) (e : g' = zi_u g 184 x (zi_xor (g 184 y) 1)) : zcT A B n k (i + 1) C0 (g' 184) := fun p c P => by
  obtain ⟨⟨a, b⟩, d⟩ := h p c P
  have Exy : zqE A B n y x := ⟨i, h0, hn, by rcases he with he | he <;> (rw [he.1, he.2]; simp)⟩
  have Eyx : zqE A B n x y := ⟨i, h0, hn, by rcases he with he | he <;> (rw [he.1, he.2]; simp)⟩
  have vx : g' 184 x = zi_xor (g 184 y) 1 := by rw [e]; exact zi_u_eq
  have vo : ∀ q : Int, ¬ q = x → g' 184 q = g 184 q := fun q hq => by rw [e]; exact zi_u_ni hq
  have xr := zx_1 (x := g 184 y) ⟨by omega, bd.2⟩
  have up : ∀ q : Int, ¬ g 184 q = -1 → ¬ g' 184 q = -1 := fun q hq => by
    by_cases z : q = x
    · rw [z] at hq; exact absurd cx hq
    · rw [vo q z]; exact hq
  have nx : ¬ g' 184 x = -1 := by
    rw [vx]
    rcases (show g 184 y % 2 = 0 ∨ g 184 y % 2 = 1 by omega) with z | z
    · rw [xr.1 z]; omega
    · rw [xr.2 z]; omega
  have ux : zcU C0 p x := by
    refine Classical.byContradiction (fun z => ?_)
    have h1 := (a x).1 z
    exact z (Or.inr (by omega))
  have uy : zcU C0 p y := P.2.2 x y Eyx ux
  refine ⟨⟨fun q => ?_, fun j q hj w => up q (b j q hj w)⟩, fun f f0 f1 j hj => ?_⟩
  · by_cases z : q = x
    · refine ⟨fun u => absurd (by rw [z]; exact ux) u, fun _ => Or.inr ?_⟩
      rcases (a y).2 uy with w | ⟨m, w1, w2⟩
      · exact absurd w cy
      · refine ⟨m + 1, ⟨y, w1, by rw [z]; exact Exy⟩, ?_⟩
        rw [z, vx]
        have := P.1
        by_cases p2 : m % 2 = 0
        · rw [xr.1 (by omega)]; omega
        · rw [xr.2 (by omega)]; omega
    · rw [vo q z]
      exact a q
  · by_cases q : f = i
    · rw [q]
      rcases he with he | he
      · rw [← he.1, ← he.2]
        exact ⟨fun _ => up y cy, fun _ => nx⟩
      · rw [← he.1, ← he.2]
        exact ⟨fun _ => nx, fun _ => up y cy⟩
    · have w := d f f0 (by omega) j hj
      exact ⟨fun y => up _ (w.1 y), fun y => up _ (w.2 y)⟩
theorem zcT_a {A B C0 : Int → Int} {g g' : zi_M} {n k i a b : Int} (h : zcT A B n k i C0 (g 184)) (h0 : 0 ≤ i) (hn : i < n) (ha : a = A i) (hb : b = B i) (c1 : g 184 a = -1) (c2 : ¬ g 184 b = -1) (bd : -1 ≤ g 184 b ∧ g 184 b ≤ 31) (e : g' = zi_u g 184 a (zi_xor (g 184 b) 1)) : zcT A B n k (i + 1) C0 (g' 184) := zcT_st h h0 hn (Or.inl ⟨ha, hb⟩) c2 c1 bd e
theorem zcT_b {A B C0 : Int → Int} {g g' : zi_M} {n k i a b : Int} (h : zcT A B n k i C0 (g 184)) (h0 : 0 ≤ i) (hn : i < n) (ha : a = A i) (hb : b = B i) (c1 : ¬ g 184 a = -1) (c2 : g 184 b = -1) (bd : -1 ≤ g 184 a ∧ g 184 a ≤ 31) (e : g' = zi_u g 184 b (zi_xor (g 184 a) 1)) : zcT A B n k (i + 1) C0 (g' 184) := zcT_st h h0 hn (Or.inr ⟨hb, ha⟩) c1 c2 bd e
-- how many have a colour
theorem zcc_y {C : Int → Int} {c i s : Int} (h : s = zqs (fun r => zif (C r = c) 1 0) i.toNat) (h0 : 0 ≤ i) (e : C i = c) : s + 1 = zqs (fun r => zif (C r = c) 1 0) (i + 1).toNat := by
  have w := zqs_s (f := fun r => zif (C r = c) 1 0) h h0
  simp only [zif_p e] at w
  exact w
theorem zcc_n {C : Int → Int} {c i s : Int} (h : s = zqs (fun r => zif (C r = c) 1 0) i.toNat) (h0 : 0 ≤ i) (e : ¬ C i = c) : s = zqs (fun r => zif (C r = c) 1 0) (i + 1).toNat := by
  have w := zqs_s (f := fun r => zif (C r = c) 1 0) h h0
  simp only [zif_n e, Int.add_zero] at w
  exact w
-- groups, one after another
/-- each group has two colours of its own -/
noncomputable def zcB (E : Int → Int → Prop) (G : Int) (C : Int → Int) : Prop := (∀ a b, E a b → C a = -1 → C b = -1) ∧ (∀ q, 0 ≤ q → q ≤ 9 → C q = -1 ∨ (0 ≤ C q ∧ C q < 2 * G)) ∧
  (∀ q r, (0 ≤ q ∧ q ≤ 9) → (0 ≤ r ∧ r ≤ 9) → ¬ C q = -1 → ¬ C r = -1 → C q / 2 = C r / 2 → ∃ m : Nat, zqW E m q r ∧ ((m % 2 : Nat) : Int) = (C q + C r) % 2) ∧ (∀ a b, E a b → ¬ C a = -1 → C a / 2 = C b / 2)
noncomputable def zcL (A B : Int → Int) (n i G S : Int) (C : Int → Int) : Prop := zcB (zqE A B n) G C ∧ G = zqs (fun p => zif (zqL (zqE A B n) p ∧ ¬ C p = -1) 1 0) 10 ∧
  (zqB (zqE A B n) → S = zqs (fun p => zif (zqL (zqE A B n) p ∧ ¬ C p = -1) (zqm (zqE A B n) p) 0) 10) ∧ ∀ e : Int, 0 ≤ e → e < i → ¬ C (A e) = -1
theorem zcL_0 {A B C : Int → Int} {n : Int} (hg : zqG (zqE A B n)) (h : ∀ q : Int, 0 ≤ q → q ≤ 9 → C q = -1) : zcL A B n 0 0 0 C := by
  have ne : ∀ p, ¬ (zqL (zqE A B n) p ∧ ¬ C p = -1) := fun p z => by
    have := zqL_b hg z.1
    exact z.2 (h p this.1 this.2)
  refine ⟨⟨fun a b e _ => ?_, fun q q0 q1 => Or.inl (h q q0 q1), fun q r hq _ c => absurd (h q hq.1 hq.2) c, fun a b e c => ?_⟩, ?_, fun _ => ?_, fun e e0 e1 => by exfalso; omega⟩
  · have := hg.b e; exact h b this.1 this.2
  · have := hg.2 a b e; exact absurd (h a this.1 this.2) c
  · exact (zqs_z 10 (fun k _ _ => zif_n (ne k))).symm
  · exact (zqs_z 10 (fun k _ _ => zif_n (ne k))).symm
theorem zcL_i {A B C : Int → Int} {n i G S : Int} (h : zcL A B n i G S C) (c : ¬ C (A i) = -1) : zcL A B n (i + 1) G S C := by
  obtain ⟨a, b, d, f⟩ := h
  refine ⟨a, b, d, fun e e0 e1 => ?_⟩
  by_cases q : e = i
  · rw [q]; exact c
  · exact f e e0 (by omega)
/-- a group more; C0: its first has got its colour, C': so have all of it -/
theorem zcL_s {A B C C0 C' : Int → Int} {n i G S p v w : Int} (hg : zqG (zqE A B n)) (h : zcL A B n i G S C) (hp : 0 ≤ p ∧ p ≤ 9) (hA : A i = p) (hd : ∃ r, zqE A B n p r) (c : C p = -1) (hG : 0 ≤ G ∧ G ≤ 13) (e1 : C0 p = 2 * G) (e2 : ∀ q, ¬ q = p → C0 q = C q) (T : zcTR A B n 10 C0 C')
    (hv : v = zqs (fun r => zif (C' r = 2 * G) 1 0) 10) (hw : w = zqs (fun r => zif (C' r = 2 * G + 1) 1 0) 10) : zcL A B n (i + 1) (G + 1) (S + max v w) C' := by
  obtain ⟨⟨a1, a2, a3, a4⟩, b, d, f⟩ := h
  have uq : ∀ q, zcU C0 p q ↔ C q = -1 := fun q => by
    unfold zcU
    by_cases z : q = p
    · rw [z]; exact ⟨fun _ => c, fun _ => Or.inl rfl⟩
    · rw [e2 q z]; exact ⟨fun y => y.elim (fun y => absurd y z) id, Or.inr⟩
  obtain ⟨N, K⟩ := T p (2 * G) ⟨⟨by omega, by omega, by omega⟩, e1, fun x y hxy hx => (uq y).2 (a1 x y hxy ((uq x).1 hx))⟩
  have old : ∀ q, ¬ C q = -1 → C' q = C q := fun q hq => by
    have z := (N q).1 (fun u => hq ((uq q).1 u))
    rw [z]
    exact e2 q (fun e => hq (by rw [e]; exact c))
  have con : ∀ q, zqC (zqE A B n) p q → ¬ C' q = -1 := fun q ⟨m, hm⟩ => by
    obtain ⟨k, k1, _, k3⟩ := zqW_cut hg (Or.inl rfl) m m (Nat.le_refl _) hp hm
    exact K k q (by omega) k3
  have cc : ∀ (m : Nat) q, zqW (zqE A B n) m p q → C q = -1 := by
    intro m
    induction m with
    | zero => intro q hq; rw [show q = p from hq]; exact c
    | succ m ih => rintro q ⟨r, h1, h2⟩; exact a1 r q h2 (ih r h1)
  have nw : ∀ q, C q = -1 → C' q = -1 ∨ ∃ m : Nat, zqW (zqE A B n) m p q ∧ C' q = 2 * G + ((m % 2 : Nat) : Int) := fun q hq => (N q).2 ((uq q).2 hq)
  have nc : ∀ q, C q = -1 → ¬ C' q = -1 → ∃ m : Nat, zqW (zqE A B n) m p q ∧ C' q = 2 * G + ((m % 2 : Nat) : Int) := fun q hq h2 => (nw q hq).elim (fun z => absurd z h2) id
  obtain ⟨r0, hr0⟩ := hd
  obtain ⟨l0, L0, L1⟩ := zqL_x hg p.toNat hr0 (by omega)
  have Cl0 : C l0 = -1 := (zqC_s hg L1).elim (fun m hm => cc m l0 hm)
  have l0b := zqL_b hg L0
  have set : ∀ k, ¬ k = l0 → ((zqL (zqE A B n) k ∧ ¬ C' k = -1) ↔ (zqL (zqE A B n) k ∧ ¬ C k = -1)) := by
    intro k hk
    constructor
    · rintro ⟨x, y⟩
      refine ⟨x, fun z => ?_⟩
      obtain ⟨m, hm, _⟩ := nc k z y
      exact hk (zqL_u hg x L0 (zqC_s hg (zqC_t L1 ⟨m, hm⟩)))
    · rintro ⟨x, y⟩
      refine ⟨x, ?_⟩
      rw [old k y]; exact y
  have sl : zqL (zqE A B n) l0 ∧ ¬ C' l0 = -1 := ⟨L0, con l0 (zqC_s hg L1)⟩
  have snl : ¬ (zqL (zqE A B n) l0 ∧ ¬ C l0 = -1) := fun z => z.2 Cl0
  refine ⟨⟨fun x y hxy hx => ?_, fun q q0 q1 => ?_, fun q r hq hr cq cr e => ?_, fun x y hxy cx => ?_⟩, ?_, fun Bp => ?_, fun e x0 x1 => ?_⟩
  · have cx : C x = -1 := Classical.byContradiction (fun z => z (by rw [← old x z]; exact hx))
    have cy := a1 x y hxy cx
    rcases nw y cy with z | ⟨m, hm, _⟩
    · exact z
    · exact absurd hx (con x ⟨m + 1, y, hm, hg.1 x y hxy⟩)
  · by_cases z : C q = -1
    · rcases nw q z with y | ⟨m, _, hm⟩
      · exact Or.inl y
      · refine Or.inr ?_
        omega
    · rw [old q z]
      have := a2 q q0 q1
      omega
  · by_cases z : C q = -1
    · obtain ⟨m, m1, m2⟩ := nc q z cq
      by_cases y : C r = -1
      · obtain ⟨k, k1, k2⟩ := nc r y cr
        refine ⟨m + k, zqW_t k m (zqW_r hg m m1) k1, ?_⟩
        omega
      · rw [old r y] at e
        have := a2 r hr.1 hr.2
        exfalso
        omega
    · by_cases y : C r = -1
      · obtain ⟨k, k1, k2⟩ := nc r y cr
        rw [old q z] at e
        have := a2 q hq.1 hq.2
        exfalso
        omega
      · rw [old q z, old r y] at e ⊢
        exact a3 q r hq hr z y e
  · by_cases z : C x = -1
    · obtain ⟨m, m1, m2⟩ := nc x z cx
      have cy := a1 x y hxy z
      obtain ⟨k, k1, k2⟩ := nc y cy (con y ⟨m + 1, x, m1, hxy⟩)
      omega
    · have cy : ¬ C y = -1 := fun w => z (a1 y x (hg.1 x y hxy) w)
      rw [old x z, old y cy]
      exact a4 x y hxy z
  · have w := (zqs_1 (f := fun p => zif (zqL (zqE A B n) p ∧ ¬ C' p = -1) 1 0) (h := fun p => zif (zqL (zqE A B n) p ∧ ¬ C p = -1) 1 0) (j := l0) l0b.1 (fun k _ hk => zif_c (set k hk)) 10).1 (by omega)
    rw [w, ← b]
    simp only [zif_p sl, zif_n snl]
    omega
  · have w1 := (zqs_1 (f := fun p => zif (zqL (zqE A B n) p ∧ ¬ C' p = -1) (zqm (zqE A B n) p) 0) (h := fun p => zif (zqL (zqE A B n) p ∧ ¬ C p = -1) (zqm (zqE A B n) p) 0) (j := l0) l0b.1 (fun k _ hk => by
      show zif _ (zqm (zqE A B n) k) 0 = zif _ (zqm (zqE A B n) k) 0
      exact zif_c (set k hk)) 10).1 (by omega)
    rw [w1, ← d Bp]
    simp only [zif_p sl, zif_n snl]
    have side : ∀ b : Nat, b < 2 → ∀ q : Int, 0 ≤ q → q < 10 → (C' q = 2 * G + (b : Int) ↔ zqV (zqE A B n) b p q) := by
      intro b hb q q0 q1
      constructor
      · intro e
        have z : C q = -1 := Classical.byContradiction (fun z => by
          have := old q z
          have := a2 q q0 (by omega)
          omega)
        obtain ⟨m, m1, m2⟩ := nc q z (by omega)
        exact ⟨m, by omega, m1⟩
      · rintro ⟨m, m1, m2⟩
        obtain ⟨k, k1, k2⟩ := nc q (cc m q m2) (con q ⟨m, m2⟩)
        have := Bp p (m + k) (zqW_t k m m2 (zqW_r hg k k1))
        omega
    have ev : v = zqn (zqE A B n) 0 p := by rw [hv]; exact zqs_c 10 (fun k k0 k1 => zif_c (by have := side 0 (by decide) k k0 k1; rw [← this]; simp))
    have ew : w = zqn (zqE A B n) 1 p := by rw [hw]; exact zqs_c 10 (fun k k0 k1 => zif_c (side 1 (by decide) k k0 k1))
    have em : max v w = zqm (zqE A B n) l0 := by
      rw [ev, ew, zqm_e hg L1]
      rfl
    rw [em]
    omega
  · by_cases q : e = i
    · rw [q, hA]; exact con p (zqC_r p)
    · have y := f e x0 (by omega)
      rw [old _ y]
      exact y
/-- all groups -/
noncomputable def zcM (A B : Int → Int) (n G S : Int) (C : Int → Int) : Prop := zcB (zqE A B n) G C ∧ G = zqMany (zqE A B n) 10 ∧ (zqB (zqE A B n) → S = zqSum (zqE A B n) 10) ∧ ∀ a b, zqE A B n a b → ¬ C a = -1
theorem zcL_x {A B C : Int → Int} {n i G S : Int} (h : zcL A B n i G S C) (c : n ≤ i) : zcM A B n G S C := by
  obtain ⟨a, b, d, f⟩ := h
  have col : ∀ x y, zqE A B n x y → ¬ C x = -1 := by
    rintro x y ⟨e, e0, e1, e2⟩
    have w := f e e0 (by omega)
    rcases e2 with e2 | e2
    · rw [← e2.1]; exact w
    · rw [e2.1] at w
      exact fun z => w (a.1 x y ⟨e, e0, e1, Or.inr e2⟩ z)
  have s : ∀ k, (zqL (zqE A B n) k ∧ ¬ C k = -1) ↔ zqL (zqE A B n) k := fun k => ⟨fun z => z.1, fun z => ⟨z, z.1.elim (fun r hr => col k r hr)⟩⟩
  refine ⟨a, ?_, fun Bp => ?_, col⟩
  · rw [b]; exact zqs_c 10 (fun k _ _ => zif_c (s k))
  · rw [d Bp]
    exact zqs_c 10 (fun k _ _ => by
      show zif _ (zqm _ k) 0 = zif _ (zqm _ k) 0
      exact zif_c (s k))
/-- do two that quarrel stand on one side? -/
noncomputable def zcV (A B : Int → Int) (n i G S : Int) (C : Int → Int) : Prop := ∃ S0, zcM A B n G S0 C ∧ ((∃ e, 0 ≤ e ∧ e < i ∧ e < n ∧ C (A e) = C (B e)) → S = -1) ∧ ((∀ e, 0 ≤ e → e < i → e < n → ¬ C (A e) = C (B e)) → S = S0)
theorem zcV_0 {A B C : Int → Int} {n G S : Int} (h : zcM A B n G S C) : zcV A B n 0 G S C := ⟨S, h, fun ⟨e, e0, e1, _⟩ => by exfalso; omega, fun _ => rfl⟩
theorem zcV_n {A B C : Int → Int} {n i G S : Int} (h : zcV A B n i G S C) (h0 : 0 ≤ i) (c : ¬ C (A i) = C (B i)) : zcV A B n (i + 1) G S C := by
  obtain ⟨S0, m, a, b⟩ := h
  refine ⟨S0, m, fun ⟨e, e0, e1, e2, e3⟩ => ?_, fun z => b (fun e e0 e1 e2 => z e e0 (by omega) e2)⟩
  by_cases q : e = i
  · rw [q] at e3; exact absurd e3 c
  · exact a ⟨e, e0, by omega, e2, e3⟩
theorem zcV_y {A B C : Int → Int} {n i G S : Int} (h : zcV A B n i G S C) (h0 : 0 ≤ i) (hn : i < n) (c : C (A i) = C (B i)) : zcV A B n (i + 1) G (-1) C := by
  obtain ⟨S0, m, a, b⟩ := h
  exact ⟨S0, m, fun _ => rfl, fun z => absurd c (z i h0 (by omega) hn)⟩
noncomputable def zcO (A B : Int → Int) (n G S : Int) : Prop := G = zqMany (zqE A B n) 10 ∧ (zqB (zqE A B n) → S = zqSum (zqE A B n) 10) ∧ (¬ zqB (zqE A B n) → S = -1)
theorem zcV_x {A B C : Int → Int} {n i G S : Int} (hg : zqG (zqE A B n)) (h : zcV A B n i G S C) (c : n ≤ i) : zcO A B n G S := by
  obtain ⟨S0, ⟨⟨a1, a2, a3, a4⟩, b, d, f⟩, x, y⟩ := h
  have alt : (∀ e, 0 ≤ e → e < n → ¬ C (A e) = C (B e)) → zqB (zqE A B n) := by
    intro z
    have st : ∀ u v, zqE A B n u v → (C u + C v) % 2 = 1 := by
      intro u v huv
      have w1 := a4 u v huv (f u v huv)
      have w2 : ¬ C u = C v := by
        obtain ⟨e, e0, e1, e2⟩ := huv
        have := z e e0 e1
        rcases e2 with e2 | e2
        · rw [e2.1, e2.2] at this; exact this
        · rw [e2.1, e2.2] at this; exact fun q => this q.symm
      omega
    have wk : ∀ (m : Nat) p q, zqW (zqE A B n) m p q → (C p + C q) % 2 = ((m % 2 : Nat) : Int) := by
      intro m
      induction m with
      | zero => intro p q h; rw [show q = p from h]; omega
      | succ m ih =>
        rintro p q ⟨r, h1, h2⟩
        have := ih p r h1
        have := st r q h2
        omega
    intro q m hm
    have := wk m q q hm
    omega
  refine ⟨b, fun Bp => ?_, fun Bp => ?_⟩
  · rw [y (fun e e0 e1 en q => ?_)]
    · exact d Bp
    · have hab : zqE _ _ n (A e) (B e) := ⟨e, e0, en, Or.inl ⟨rfl, rfl⟩⟩
      have ba := hg.2 _ _ hab
      have bb := hg.b hab
      have ca := f _ _ hab
      have cb := f _ _ (hg.1 _ _ hab)
      obtain ⟨m, m1, m2⟩ := a3 (A e) (B e) ba bb ca cb (by rw [q])
      have := Bp (A e) (m + 1) ⟨B e, m1, hg.1 _ _ hab⟩
      omega
  · refine x ?_
    refine Classical.byContradiction (fun z => Bp (alt (fun e e0 e1 q => z ⟨e, e0, by omega, e1, q⟩)))
theorem zqO_s0 {A B : Int → Int} {n G S l : Int} (h : zcO A B n G S) (c : l = 0) : zqO (zqE A B n) l S := ⟨fun _ b => h.2.1 b, fun _ b => h.2.2 b, fun q => by exfalso; omega, fun q => absurd c q⟩
theorem zqO_s1 {A B : Int → Int} {n G S l : Int} (h : zcO A B n G S) (c : ¬ l = 0) (c1 : l = 1) : zqO (zqE A B n) l G := ⟨fun q => absurd q c, fun q => absurd q c, fun _ => h.1, fun _ q => absurd c1 q⟩
theorem zqO_s2 {E : Int → Int → Prop} {l : Int} (c : ¬ l = 0) (c1 : ¬ l = 1) : zqO E l (-1) := ⟨fun q => absurd q c, fun q => absurd q c, fun q => absurd q c1, fun _ _ => rfl⟩
-- in the memory
theorem zqE_I {g : zi_M} (I : zk_I g) (n : Int) : zqG (zqE (g 39) (g 40) n) := zqE_G (fun i => I.1 39 i) (fun i => I.1 40 i)
theorem zcL_m0 {g0 g1 g2 g3 : zi_M} (I : zk_I g0) (e1 : g1 = zi_fl g0 184 10 (-1)) (e2 : g2 = zi_u g1 180 5 0) (e3 : g3 = zi_u g2 180 6 0) : zcL (g0 39) (g0 40) (g0 36 5) 0 (g3 180 5) (g3 180 6) (g3 184) := by
  have a : g3 180 5 = 0 := by rw [e3, zi_u_ni (by decide), e2, zi_u_eq]
  have b : g3 180 6 = 0 := by rw [e3, zi_u_eq]
  rw [a, b]
  refine zcL_0 (zqE_I I _) (fun q q0 q1 => ?_)
  rw [e3, zi_u_ne (by decide), e2, zi_u_ne (by decide), e1]
  unfold zi_fl
  rw [if_pos ⟨rfl, q0, by omega⟩]
theorem zcL_m {g0 g g9 g11 g21 g22 : zi_M} {i v w : Int} (I : zk_I g) (F : zk_fr fr_Thought_partGroups g0 g) (h : zcL (g0 39) (g0 40) (g0 36 5) i (g 180 5) (g 180 6) (g 184)) (h0 : 0 ≤ i) (hn : i < g 36 5) (hG : g 180 5 ≤ i) (hi : i ≤ 13) (c : g 184 (g 39 i) = -1) (e0 : g9 = zi_u g 184 (g 39 i) (2 * g 180 5))
    (Fs : zk_fr fr_Thought_spread g9 g11) (T : zcTR (g9 39) (g9 40) (g9 36 5) 10 (g9 184) (g11 184)) (hv : v = zqs (fun r => zif (g11 184 r = 2 * g11 180 5) 1 0) 10) (hw : w = zqs (fun r => zif (g11 184 r = 2 * g11 180 5 + 1) 1 0) 10)
    (e1 : g21 = zi_u g11 180 6 (g11 180 6 + max v w)) (e2 : g22 = zi_u g21 180 5 (g21 180 5 + 1)) : zcL (g0 39) (g0 40) (g0 36 5) (i + 1) (g22 180 5) (g22 180 6) (g22 184) := by
  have f9 : ∀ (a : Nat) (k : Int), ¬ a = 184 → g9 a k = g a k := fun a k ha => by rw [e0]; exact zi_u_ne ha
  have f11 : ∀ (a : Nat) (k : Int), ¬ a = 184 → g11 a k = g a k := fun a k ha => by rw [Fs a k (by unfold fr_Thought_spread; omega), f9 a k ha]
  have fg : ∀ (a : Nat) (k : Int), ¬ a = 184 → ¬ a = 180 → g a k = g0 a k := fun a k ha hb => F a k (by unfold fr_Thought_partGroups; omega)
  have r39 : g9 39 = g0 39 := funext fun k => by rw [f9 39 k (by decide), fg 39 k (by decide) (by decide)]
  have r40 : g9 40 = g0 40 := funext fun k => by rw [f9 40 k (by decide), fg 40 k (by decide) (by decide)]
  have r5 : g9 36 5 = g0 36 5 := by rw [f9 36 5 (by decide), fg 36 5 (by decide) (by decide)]
  rw [r39, r40, r5] at T
  have h5 := f11 180 5 (by decide)
  rw [h5] at hv hw
  have x5 : g22 180 5 = g 180 5 + 1 := by rw [e2, zi_u_eq, e1, zi_u_ni (by decide), h5]
  have x6 : g22 180 6 = g 180 6 + max v w := by rw [e2, zi_u_ni (by decide), e1, zi_u_eq, f11 180 6 (by decide)]
  have x184 : g22 184 = g11 184 := funext fun k => by rw [e2, zi_u_ne (by decide), e1, zi_u_ne (by decide)]
  have e39 := fg 39 i (by decide) (by decide)
  have e36 := fg 36 5 (by decide) (by decide)
  have bp : 0 ≤ g 39 i ∧ g 39 i ≤ 9 := I.1 39 i
  have b5 : 0 ≤ g 180 5 ∧ g 180 5 ≤ 14 := I.1 180 5
  have hg : zqG (zqE (g0 39) (g0 40) (g0 36 5)) := by
    have := zqE_I I (g0 36 5)
    rw [show g 39 = g0 39 from funext fun k => fg 39 k (by decide) (by decide), show g 40 = g0 40 from funext fun k => fg 40 k (by decide) (by decide)] at this
    exact this
  rw [x5, x6, x184]
  exact zcL_s hg h bp e39.symm ⟨g0 40 i, i, h0, by omega, Or.inl ⟨e39.symm, rfl⟩⟩ c ⟨b5.1, by omega⟩ (by rw [e0]; exact zi_u_eq) (fun q hq => by rw [e0]; exact zi_u_ni hq) T hv hw
theorem zcL_mi {g0 g : zi_M} {i : Int} (F : zk_fr fr_Thought_partGroups g0 g) (h : zcL (g0 39) (g0 40) (g0 36 5) i (g 180 5) (g 180 6) (g 184)) (c : ¬ g 184 (g 39 i) = -1) : zcL (g0 39) (g0 40) (g0 36 5) (i + 1) (g 180 5) (g 180 6) (g 184) :=
  zcL_i h (by rw [← F 39 i (by unfold fr_Thought_partGroups; omega)]; exact c)
theorem zcV_mn {g0 g : zi_M} {i : Int} (F : zk_fr fr_Thought_partGroups g0 g) (h : zcV (g0 39) (g0 40) (g0 36 5) i (g 180 5) (g 180 6) (g 184)) (h0 : 0 ≤ i) (c : ¬ g 184 (g 39 i) = g 184 (g 40 i)) : zcV (g0 39) (g0 40) (g0 36 5) (i + 1) (g 180 5) (g 180 6) (g 184) :=
  zcV_n h h0 (by rw [← F 39 i (by unfold fr_Thought_partGroups; omega), ← F 40 i (by unfold fr_Thought_partGroups; omega)]; exact c)
theorem zcV_my {g0 g g' : zi_M} {i : Int} (F : zk_fr fr_Thought_partGroups g0 g) (h : zcV (g0 39) (g0 40) (g0 36 5) i (g 180 5) (g 180 6) (g 184)) (h0 : 0 ≤ i) (hn : i < g 36 5) (c : g 184 (g 39 i) = g 184 (g 40 i)) (e : g' = zi_u g 180 6 (-1)) : zcV (g0 39) (g0 40) (g0 36 5) (i + 1) (g' 180 5) (g' 180 6) (g' 184) := by
  rw [show g' 180 5 = g 180 5 by rw [e]; exact zi_u_ni (by decide), show g' 180 6 = -1 by rw [e]; exact zi_u_eq, show g' 184 = g 184 from funext fun k => by rw [e]; exact zi_u_ne (by decide)]
  exact zcV_y h h0 (by rw [← F 36 5 (by unfold fr_Thought_partGroups; omega)]; exact hn) (by rw [← F 39 i (by unfold fr_Thought_partGroups; omega), ← F 40 i (by unfold fr_Thought_partGroups; omega)]; exact c)
theorem zcV_mx {g0 g : zi_M} {i : Int} (I : zk_I g) (F : zk_fr fr_Thought_partGroups g0 g) (h : zcV (g0 39) (g0 40) (g0 36 5) i (g 180 5) (g 180 6) (g 184)) (c : g 36 5 ≤ i) : zcO (g0 39) (g0 40) (g0 36 5) (g 180 5) (g 180 6) := by
  refine zcV_x ?_ h (by rw [← F 36 5 (by unfold fr_Thought_partGroups; omega)]; exact c)
  have := zqE_I I (g0 36 5)
  rw [show g 39 = g0 39 from funext fun k => F 39 k (by unfold fr_Thought_partGroups; omega), show g 40 = g0 40 from funext fun k => F 40 k (by unfold fr_Thought_partGroups; omega)] at this
  exact this
theorem zcL_mx {g0 g : zi_M} {i : Int} (F : zk_fr fr_Thought_partGroups g0 g) (h : zcL (g0 39) (g0 40) (g0 36 5) i (g 180 5) (g 180 6) (g 184)) (c : g 36 5 ≤ i) : zcM (g0 39) (g0 40) (g0 36 5) (g 180 5) (g 180 6) (g 184) :=
  zcL_x h (by rw [← F 36 5 (by unfold fr_Thought_partGroups; omega)]; exact c)
-- what both have in common
noncomputable def zqRA (g : zi_M) : Prop := ∀ a b : Int, zqE (g 39) (g 40) (g 36 5) a b ↔ zqM (g 242) a b
noncomputable def zqRK (g : zi_M) : Prop := ∀ a b : Int, zqE (g 84) (g 85) (g 81 5) a b ↔ zqM (fun k => g 250 (277 + 5 * k)) a b
theorem zqM_c {M M' : Int → Int} {a b : Int} (h : ∀ k : Int, 0 ≤ k → k < 10 → M' k = M k) : zqM M' a b ↔ zqM M a b := by
  constructor
  · rintro ⟨x, y, z⟩
    rw [h a x.1 (by omega)] at z
    exact ⟨x, y, z⟩
  · rintro ⟨x, y, z⟩
    rw [← h a x.1 (by omega)] at z
    exact ⟨x, y, z⟩
theorem zqRA_n {g g2 : zi_M} (h : zqRA g) (e1 : ∀ k : Int, g2 39 k = g 39 k) (e2 : ∀ k : Int, g2 40 k = g 40 k) (e3 : g2 36 5 = g 36 5) (e4 : ∀ k : Int, g2 242 k = g 242 k) : zqRA g2 := fun a b => by
  rw [zqE_c e3 (fun i _ _ => e1 i) (fun i _ _ => e2 i), h a b]
  exact (zqM_c (fun k _ _ => e4 k)).symm
theorem zqRK_n {g g2 : zi_M} (h : zqRK g) (e1 : ∀ k : Int, g2 84 k = g 84 k) (e2 : ∀ k : Int, g2 85 k = g 85 k) (e3 : g2 81 5 = g 81 5) (e4 : ∀ k : Int, g2 250 k = g 250 k) : zqRK g2 := fun a b => by
  rw [zqE_c e3 (fun i _ _ => e1 i) (fun i _ _ => e2 i), h a b]
  exact (zqM_c (fun k _ _ => e4 (277 + 5 * k))).symm
/-- a quarrel is told -/
theorem zqRA_q {g g1 g2 : zi_M} {l1 l2 : Int} (I : zk_I g) (h : zqRA g) (R : g 36 5 = g 214 50)
    (s : ∀ k : Int, 0 ≤ k ∧ k < 14 → (¬ (¬ l1 = -1 ∧ 0 ≤ l1 ∧ l1 ≤ 9 ∧ 0 ≤ l2 ∧ l2 ≤ 9 ∧ ¬ l1 = l2 ∧ g 36 5 < 14) → g1 39 k = g 39 k ∧ g1 40 k = g 40 k) ∧ ((¬ l1 = -1 ∧ 0 ≤ l1 ∧ l1 ≤ 9 ∧ 0 ≤ l2 ∧ l2 ≤ 9 ∧ ¬ l1 = l2 ∧ g 36 5 < 14) → (k = g 36 5 → g1 39 k = l1 ∧ g1 40 k = l2) ∧ (¬ k = g 36 5 → g1 39 k = g 39 k ∧ g1 40 k = g 40 k)))
    (s1 : l1 = -1 → g1 36 5 = 0) (s2 : ¬ l1 = -1 → 0 ≤ l1 ∧ l1 ≤ 9 ∧ 0 ≤ l2 ∧ l2 ≤ 9 ∧ ¬ l1 = l2 ∧ g 36 5 < 14 → g1 36 5 = g 36 5 + 1) (s3 : ¬ l1 = -1 → ¬ (0 ≤ l1 ∧ l1 ≤ 9 ∧ 0 ≤ l2 ∧ l2 ≤ 9 ∧ ¬ l1 = l2 ∧ g 36 5 < 14) → g1 36 5 = g 36 5)
    (m1 : l1 = -1 → ∀ k : Int, 0 ≤ k → k < 10 → g2 242 k = 0)
    (m2 : ¬ l1 = -1 → 0 ≤ l1 ∧ l1 ≤ 9 ∧ 0 ≤ l2 ∧ l2 ≤ 9 ∧ ¬ l1 = l2 ∧ g 36 5 < 14 → ∀ k : Int, 0 ≤ k → k < 10 → (k = l1 → g2 242 k = zi_or (g 242 k) (zi_shl 1 l2)) ∧ (k = l2 → g2 242 k = zi_or (g 242 k) (zi_shl 1 l1)) ∧ (¬ k = l1 → ¬ k = l2 → g2 242 k = g 242 k))
    (m3 : ¬ l1 = -1 → ¬ (0 ≤ l1 ∧ l1 ≤ 9 ∧ 0 ≤ l2 ∧ l2 ≤ 9 ∧ ¬ l1 = l2 ∧ g 36 5 < 14) → ∀ k : Int, 0 ≤ k → k < 10 → g2 242 k = g 242 k)
    (f1 : ∀ k : Int, g2 39 k = g1 39 k) (f2 : ∀ k : Int, g2 40 k = g1 40 k) (f3 : g2 36 5 = g1 36 5) : zqRA g2 := fun a b => by
  have b5 : 0 ≤ g 36 5 ∧ g 36 5 ≤ 14 := I.1 36 5
  by_cases c : l1 = -1
  · have e0 : g2 36 5 = 0 := by rw [f3]; exact s1 c
    constructor
    · rintro ⟨i, h0, h1, _⟩
      exfalso; omega
    · rintro ⟨x, y, z⟩
      rw [m1 c a x.1 (by omega)] at z
      exact absurd z (zB_0 b)
  · by_cases ok : 0 ≤ l1 ∧ l1 ≤ 9 ∧ 0 ≤ l2 ∧ l2 ≤ 9 ∧ ¬ l1 = l2 ∧ g 36 5 < 14
    · have en : g2 36 5 = g 36 5 + 1 := by rw [f3]; exact s2 c ok
      have M := m2 c ok
      have row : ∀ k : Int, 0 ≤ k → k < 14 → (k = g 36 5 → g2 39 k = l1 ∧ g2 40 k = l2) ∧ (¬ k = g 36 5 → g2 39 k = g 39 k ∧ g2 40 k = g 40 k) := fun k k0 k1 => by
        rw [f1, f2]; exact (s k ⟨k0, k1⟩).2 ⟨c, ok⟩
      have z242 : ∀ k : Int, zBr (g 242 k) := fun k => by
        have : 0 ≤ g 242 k ∧ g 242 k ≤ 1023 := I.1 242 k
        exact ⟨this.1, by omega⟩
      have left : zqE (g2 39) (g2 40) (g2 36 5) a b ↔ (zqE (g 39) (g 40) (g 36 5) a b ∨ (a = l1 ∧ b = l2) ∨ (a = l2 ∧ b = l1)) := by
        constructor
        · rintro ⟨i, h0, h1, h2⟩
          by_cases q : i = g 36 5
          · have w := (row i h0 (by omega)).1 q
            rw [w.1, w.2] at h2
            omega
          · have w := (row i h0 (by omega)).2 q
            rw [w.1, w.2] at h2
            exact Or.inl ⟨i, h0, by omega, h2⟩
        · rintro (⟨i, h0, h1, h2⟩ | h2)
          · have w := (row i h0 (by omega)).2 (by omega)
            refine ⟨i, h0, by omega, ?_⟩
            rw [w.1, w.2]; exact h2
          · have w := (row (g 36 5) b5.1 (by omega)).1 rfl
            refine ⟨g 36 5, b5.1, by omega, ?_⟩
            rw [w.1, w.2]
            omega
      have right : zqM (g2 242) a b ↔ (zqM (g 242) a b ∨ (a = l1 ∧ b = l2) ∨ (a = l2 ∧ b = l1)) := by
        constructor
        · rintro ⟨x, y, z⟩
          have w := M a x.1 (by omega)
          by_cases q1 : a = l1
          · rw [w.1 q1, zB_add (z242 a) ⟨by omega, by omega⟩ y.1] at z
            rcases z with z | z
            · exact Or.inl ⟨x, y, z⟩
            · exact Or.inr (Or.inl ⟨q1, z⟩)
          · by_cases q2 : a = l2
            · rw [w.2.1 q2, zB_add (z242 a) ⟨by omega, by omega⟩ y.1] at z
              rcases z with z | z
              · exact Or.inl ⟨x, y, z⟩
              · exact Or.inr (Or.inr ⟨q2, z⟩)
            · rw [w.2.2 q1 q2] at z
              exact Or.inl ⟨x, y, z⟩
        · intro h
          have xy : (0 ≤ a ∧ a ≤ 9) ∧ (0 ≤ b ∧ b ≤ 9) := by
            rcases h with h | h
            · exact ⟨h.1, h.2.1⟩
            · omega
          refine ⟨xy.1, xy.2, ?_⟩
          have w := M a xy.1.1 (by omega)
          by_cases q1 : a = l1
          · rw [w.1 q1, zB_add (z242 a) ⟨by omega, by omega⟩ xy.2.1]
            rcases h with h | h
            · exact Or.inl h.2.2
            · exact Or.inr (by omega)
          · by_cases q2 : a = l2
            · rw [w.2.1 q2, zB_add (z242 a) ⟨by omega, by omega⟩ xy.2.1]
              rcases h with h | h
              · exact Or.inl h.2.2
              · exact Or.inr (by omega)
            · rw [w.2.2 q1 q2]
              rcases h with h | h
              · exact h.2.2
              · omega
      rw [left, right, h a b]
    · have en : g2 36 5 = g 36 5 := by rw [f3]; exact s3 c ok
      rw [zqE_c (A := g 39) (B := g 40) (A' := g2 39) (B' := g2 40) (n := g 36 5) en (fun i h0 h1 => by rw [f1]; exact ((s i ⟨h0, by omega⟩).1 (fun q => ok q.2)).1) (fun i h0 h1 => by rw [f2]; exact ((s i ⟨h0, by omega⟩).1 (fun q => ok q.2)).2), h a b]
      exact (zqM_c (fun k k0 k1 => m3 c ok k k0 k1)).symm
theorem zq_rt : ∀ k : Nat, k < 10 → ((0 ≤ 277 + 5 * (k : Int) ∧ 277 + 5 * (k : Int) < 2004) ∧ za (277 + 5 * (k : Int)) = 242 ∧ zb (277 + 5 * (k : Int)) = (k : Int)) ∧ zv 242 (k : Int) = 277 + 5 * (k : Int) := by decide +kernel
theorem zq_t {g g1 g2 : zi_M} (I : zk_I g) (T : zTc 81 36 g g1) (K : zTk 36 g g1) (F1 : ∀ k : Int, g1 242 k = g 242 k) (M : zimT g1 g2) (F2 : ∀ (a : Nat) (k : Int), (a = 36 ∨ a = 39 ∨ a = 40 ∨ a = 81 ∨ a = 84 ∨ a = 85) → g2 a k = g1 a k) (D : zqRA g) : zqRA g2 ∧ zqRK g2 := by
  have b5 : 0 ≤ g 36 5 ∧ g 36 5 ≤ 14 := I.1 36 5
  refine ⟨zqRA_n D (fun k => by rw [F2 39 k (by omega)]; exact K 39 k (by decide) (by decide)) (fun k => by rw [F2 40 k (by omega)]; exact K 40 k (by decide) (by decide)) (by rw [F2 36 5 (by omega)]; exact K 36 5 (by decide) (by decide)) (fun k => by rw [M.2.1 242 k (by decide) (by decide)]; exact F1 k), fun a b => ?_⟩
  rw [zqE_c (n := g 36 5) (A := g 39) (B := g 40) (by rw [F2 81 5 (by omega)]; exact T.1.2.1) (fun i i0 i1 => by rw [F2 84 i (by omega)]; exact T.2.2.2.1 i i0 (by omega)) (fun i i0 i1 => by rw [F2 85 i (by omega)]; exact T.2.2.2.2.1 i i0 (by omega)), D a b]
  refine (zqM_c (fun k k0 k1 => ?_)).symm
  have z := zq_rt k.toNat (by omega)
  rw [show ((k.toNat : Nat) : Int) = k by omega] at z
  show g2 250 (277 + 5 * k) = g 242 k
  rw [M.1 _ z.1.1.1 z.1.1.2, z.1.2.1, z.1.2.2]
  exact F1 k
theorem zq_r {g g1 g2 : zi_M} (I : zk_I g) (T : zTc 36 81 g g1) (K : zTk 81 g g1) (F1 : ∀ k : Int, g1 250 k = g 250 k) (M : zimR g1 g2) (F2 : ∀ (a : Nat) (k : Int), (a = 36 ∨ a = 39 ∨ a = 40 ∨ a = 81 ∨ a = 84 ∨ a = 85) → g2 a k = g1 a k) (D : zqRK g) : zqRA g2 ∧ zqRK g2 := by
  have b5 : 0 ≤ g 81 5 ∧ g 81 5 ≤ 14 := I.1 81 5
  refine ⟨fun a b => ?_, zqRK_n D (fun k => by rw [F2 84 k (by omega)]; exact K 84 k (by decide) (by decide)) (fun k => by rw [F2 85 k (by omega)]; exact K 85 k (by decide) (by decide)) (by rw [F2 81 5 (by omega)]; exact K 81 5 (by decide) (by decide)) (fun k => by rw [M.2.1 250 k (zv_250 k) (by decide)]; exact F1 k)⟩
  rw [zqE_c (n := g 81 5) (A := g 84) (B := g 85) (by rw [F2 36 5 (by omega)]; exact T.1.2.1) (fun i i0 i1 => by rw [F2 39 i (by omega)]; exact T.2.2.2.1 i i0 (by omega)) (fun i i0 i1 => by rw [F2 40 i (by omega)]; exact T.2.2.2.2.1 i i0 (by omega)), D a b]
  refine (zqM_c (fun k k0 k1 => ?_)).symm
  have z := zq_rt k.toNat (by omega)
  rw [show ((k.toNat : Nat) : Int) = k by omega] at z
  show g2 242 k = g 250 (277 + 5 * k)
  rw [M.1 242 k (by rw [z.2]; omega), z.2]
  exact F1 _
theorem zq_eq {g g1 : zi_M} {l v w : Int} (I : zk_I g) (D : zqRA g) (W : ∀ k : Int, g1 242 k = g 242 k) (s : zqO (zqE (g 39) (g 40) (g 36 5)) l v) (m : zqG (zqM (g1 242)) → zqO (zqM (g1 242)) l w) : w = v := by
  rw [show g1 242 = g 242 from funext W] at m
  have e : zqE (g 39) (g 40) (g 36 5) = zqM (g 242) := funext fun a => funext fun b => propext (D a b)
  have hg := zqE_I I (g 36 5)
  rw [e] at hg s
  exact zqO_u s (m hg)
theorem zqM_z {g g' : zi_M} {n : Int} (h : ∀ k : Int, 0 ≤ k → k < n → g 242 k = 0) (e : g' = zi_u g 242 n 0) : ∀ k : Int, 0 ≤ k → k < n + 1 → g' 242 k = 0 := fun k k0 k1 => by
  rw [e]
  by_cases q : k = n
  · rw [q]; exact zi_u_eq
  · rw [zi_u_ni q]; exact h k k0 (by omega)
theorem zqM_k {g g1 : zi_M} {k : Int} (e : g1 = zi_u g 214 0 0) : g1 242 k = g 242 k := by rw [e]; exact zi_u_ne (by decide)
theorem zqM_u {g g1 g12 g14 g15 : zi_M} {l1 l2 x : Int} {P Q : Prop} (e0 : g1 = zi_u g 214 0 0) (ne : ¬ l1 = l2) (e1 : g12 = zi_u g1 242 l1 (zi_or (g1 242 l1) (zi_shl 1 l2))) (e2 : g14 = zi_u g12 242 l2 (zi_or (g12 242 l2) (zi_shl 1 l1))) (e3 : g15 = zi_u g14 214 50 x) : P → Q → ∀ k : Int, 0 ≤ k → k < 10 → (k = l1 → g15 242 k = zi_or (g 242 k) (zi_shl 1 l2)) ∧ (k = l2 → g15 242 k = zi_or (g 242 k) (zi_shl 1 l1)) ∧ (¬ k = l1 → ¬ k = l2 → g15 242 k = g 242 k) := fun _ _ k _ _ => by
  have o : ∀ j : Int, g1 242 j = g 242 j := fun j => by rw [e0]; exact zi_u_ne (by decide)
  rw [show g15 242 k = g14 242 k by rw [e3]; exact zi_u_ne (by decide)]
  refine ⟨fun q => ?_, fun q => ?_, fun q1 q2 => ?_⟩
  · rw [q, e2, zi_u_ni ne, e1, zi_u_eq, o]
  · rw [q, e2, zi_u_eq, e1, zi_u_ni (fun z => ne z.symm), o]
  · rw [e2, zi_u_ni q2, e1, zi_u_ni q1, o]
theorem zqM_F {fr : Nat → Int → Prop} {g0 g : zi_M} (F : zk_fr fr g0 g) (h : ∀ i : Int, ¬ fr 242 i) : zqM (g0 242) = zqM (g 242) := by rw [show g 242 = g0 242 from funext fun i => F 242 i (h i)]
theorem zqP_im {M0 M : Int → Int} {l1 dn gr sm i : Int} (eM : M = M0) (h : zqG (zqM M0) → zqP (zqM M0) l1 dn gr sm i) (h0 : 0 ≤ i) (e : M i = 0) : zqG (zqM M0) → zqP (zqM M0) l1 dn gr sm (i + 1) := by
  subst eM
  exact zqP_i h h0 e
theorem zqP_bm {M0 M : Int → Int} {l1 dn gr sm i w ev od : Int} (eM : M = M0) (h : zqG (zqM M0) → zqP (zqM M0) l1 dn gr sm i) (ne : ¬ M i = 0) (hm : 0 ≤ M i ∧ M i ≤ 1023) (t : zi_and (zi_shr dn i) 1 = 1 → w = 1) (c : w = 0) (hd : 0 ≤ dn ∧ dn ≤ 1023) (h0 : 0 ≤ i) (h1 : i < 10)
    (he : ¬ (1 : Int) = 0 → zqG (zqM M) → zqS (zqM M) 0 i ev) (ho : (0 : Int) = 0 → zqG (zqM M) → zqS (zqM M) 1 i od) (b1 : 0 ≤ ev ∧ ev ≤ 1023) (b2 : 0 ≤ od ∧ od ≤ 1023) (cc : zi_and ev od = 0 ∨ ¬ l1 = 0) : zqG (zqM M0) → zqPb (zqM M0) l1 (zi_or (zi_or dn ev) od) (gr + 1) sm i ev od := by
  subst eM
  exact zqP_b h ne hm t c hd h0 h1 (he (by decide)) (ho rfl) b1 b2 cc
theorem zqP_xm {M0 M : Int → Int} {i ev od : Int} (eM : M = M0) (he : ¬ (1 : Int) = 0 → zqG (zqM M) → zqS (zqM M) 0 i ev) (ho : (0 : Int) = 0 → zqG (zqM M) → zqS (zqM M) 1 i od) (b1 : 0 ≤ ev ∧ ev ≤ 1023) (b2 : 0 ≤ od ∧ od ≤ 1023) (cc : ¬ zi_and ev od = 0) : zqG (zqM M0) → ¬ zqB (zqM M0) := by
  subst eM
  exact zqP_x (he (by decide)) (ho rfl) b1 b2 cc
theorem zqO_rr {g0 g : zi_M} (F : zk_fr fr_S_parts g0 g) : g 39 = g0 39 ∧ g 40 = g0 40 ∧ g 36 5 = g0 36 5 := ⟨funext fun k => F 39 k (by unfold fr_S_parts; omega), funext fun k => F 40 k (by unfold fr_S_parts; omega), F 36 5 (by unfold fr_S_parts; omega)⟩
theorem zqO_t0 {g0 g : zi_M} {G S l : Int} (F : zk_fr fr_S_parts g0 g) (h : zcO (g 39) (g 40) (g 36 5) G S) (c : l = 0) : zqO (zqE (g0 39) (g0 40) (g0 36 5)) l S := by
  obtain ⟨a, b, d⟩ := zqO_rr F
  rw [a, b, d] at h
  exact zqO_s0 h c
theorem zqO_t1 {g0 g : zi_M} {G S l : Int} (F : zk_fr fr_S_parts g0 g) (h : zcO (g 39) (g 40) (g 36 5) G S) (c : ¬ l = 0) (c1 : l = 1) : zqO (zqE (g0 39) (g0 40) (g0 36 5)) l G := by
  obtain ⟨a, b, d⟩ := zqO_rr F
  rw [a, b, d] at h
  exact zqO_s1 h c c1
