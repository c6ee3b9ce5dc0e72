-- QUARRELS AS A GRAPH over 0 .. 9: walks, groups, sides
noncomputable def zif (P : Prop) (a b : Int) : Int := @ite Int P (Classical.propDecidable P) a b
theorem zif_p {P : Prop} {a b : Int} (h : P) : zif P a b = a := by unfold zif; exact if_pos h
theorem zif_n {P : Prop} {a b : Int} (h : ¬ P) : zif P a b = b := by unfold zif; exact if_neg h
theorem zif_c {P Q : Prop} {a b : Int} (h : P ↔ Q) : zif P a b = zif Q a b := by
  by_cases p : P
  · rw [zif_p p, zif_p (h.1 p)]
  · rw [zif_n p, zif_n (fun q => p (h.2 q))]
/-- the sum of the first n -/
noncomputable def zqs (f : Int → Int) : Nat → Int
  | 0 => 0
  | n + 1 => zqs f n + f (n : Int)
theorem zqs_c {f h : Int → Int} : ∀ n : Nat, (∀ k : Int, 0 ≤ k → k < (n : Int) → f k = h k) → zqs f n = zqs h n
  | 0, _ => rfl
  | n + 1, e => by
    show zqs f n + _ = zqs h n + _
    rw [zqs_c n (fun k h0 h1 => e k h0 (by omega)), e (n : Int) (by omega) (by omega)]
theorem zqs_s {f : Int → Int} {i s : Int} (h : s = zqs f i.toNat) (h0 : 0 ≤ i) : s + f i = zqs f (i + 1).toNat := by
  rw [show (i + 1).toNat = i.toNat + 1 by omega]
  show _ = zqs f i.toNat + f ((i.toNat : Nat) : Int)
  rw [show ((i.toNat : Nat) : Int) = i by omega, h]
/-- but for one place the same -/
theorem zqs_1 {f h : Int → Int} {j : Int} (j0 : 0 ≤ j) (e : ∀ k : Int, 0 ≤ k → k ≠ j → f k = h k) : ∀ n : Nat, (j < (n : Int) → zqs f n = zqs h n + (f j - h j)) ∧ ((n : Int) ≤ j → zqs f n = zqs h n)
  | 0 => ⟨fun q => by exfalso; omega, fun _ => rfl⟩
  | n + 1 => by
    have ih := zqs_1 j0 e n
    refine ⟨fun q => ?_, fun q => ?_⟩
    · show zqs f n + f (n : Int) = zqs h n + h (n : Int) + _
      by_cases w : (n : Int) = j
      · rw [ih.2 (by omega), w]; omega
      · rw [ih.1 (by omega), e (n : Int) (by omega) w]; omega
    · show zqs f n + f (n : Int) = zqs h n + h (n : Int)
      rw [ih.2 (by omega), e (n : Int) (by omega) (by omega)]
theorem zqs_z {f : Int → Int} : ∀ n : Nat, (∀ k : Int, 0 ≤ k → k < (n : Int) → f k = 0) → zqs f n = 0
  | 0, _ => rfl
  | n + 1, e => by
    show zqs f n + _ = 0
    rw [zqs_z n (fun k h0 h1 => e k h0 (by omega)), e (n : Int) (by omega) (by omega)]
    rfl
theorem zpc_qs {s : Int} : ∀ n : Nat, zpc s n = zqs (fun k => zif (zB_ s k) 1 0) n
  | 0 => rfl
  | n + 1 => by
    show zpc s n + _ = zqs _ n + zif (zB_ s (n : Int)) 1 0
    rw [zpc_qs n]
    by_cases h : s.toNat.testBit n = true
    · rw [if_pos h, zif_p (by unfold zB_; rw [show ((n : Nat) : Int).toNat = n from Int.toNat_natCast _]; exact h)]
    · rw [if_neg h, zif_n (by unfold zB_; rw [show ((n : Nat) : Int).toNat = n from Int.toNat_natCast _]; exact h)]
-- walks
noncomputable def zqW (E : Int → Int → Prop) : Nat → Int → Int → Prop
  | 0, p, q => q = p
  | n + 1, p, q => ∃ r, zqW E n p r ∧ E r q
noncomputable def zqG (E : Int → Int → Prop) : Prop := (∀ a b, E a b → E b a) ∧ (∀ a b, E a b → 0 ≤ a ∧ a ≤ 9)
theorem zqG.b {E : Int → Int → Prop} (h : zqG E) {a b : Int} (e : E a b) : 0 ≤ b ∧ b ≤ 9 := h.2 b a (h.1 a b e)
theorem zqW_t {E : Int → Int → Prop} : ∀ (n m : Nat) {p r q : Int}, zqW E m p r → zqW E n r q → zqW E (m + n) p q
  | 0, m, p, r, q, h, h2 => by
    have e : q = r := h2
    rw [e]; exact h
  | n + 1, m, p, r, q, h, ⟨s, h2, h3⟩ => ⟨s, zqW_t n m h h2, h3⟩
theorem zqW_1 {E : Int → Int → Prop} {p q : Int} (h : E p q) : zqW E 1 p q := ⟨p, rfl, h⟩
theorem zqW_r {E : Int → Int → Prop} (G : zqG E) : ∀ (n : Nat) {p q : Int}, zqW E n p q → zqW E n q p
  | 0, p, q, h => by
    have e : q = p := h
    exact e.symm
  | n + 1, p, q, ⟨s, h, h2⟩ => by
    have := zqW_t n 1 (zqW_1 (G.1 s q h2)) (zqW_r G n h)
    rw [Nat.add_comm] at this
    exact this
theorem zqW_b {E : Int → Int → Prop} (G : zqG E) : ∀ (n : Nat) {p q : Int}, (0 ≤ p ∧ p ≤ 9) → zqW E n p q → 0 ≤ q ∧ q ≤ 9
  | 0, p, q, hp, h => by
    have e : q = p := h
    rw [e]; exact hp
  | n + 1, p, q, hp, ⟨s, h, h2⟩ => G.b h2
/-- the places of a walk -/
theorem zqW_f {E : Int → Int → Prop} : ∀ (n : Nat) {p q : Int}, zqW E n p q → ∃ f : Nat → Int, ∀ i, i ≤ n → zqW E i p (f i) ∧ zqW E (n - i) (f i) q
  | 0, p, q, h => ⟨fun _ => p, fun i hi => by
      have e : i = 0 := by omega
      rw [e]
      exact ⟨rfl, h⟩⟩
  | n + 1, p, q, ⟨s, h, h2⟩ => by
    obtain ⟨f, hf⟩ := zqW_f n h
    refine ⟨fun i => if i ≤ n then f i else q, fun i hi => ?_⟩
    by_cases c : i ≤ n
    · simp only [c, if_true]
      refine ⟨(hf i c).1, ?_⟩
      rw [show n + 1 - i = (n - i) + 1 by omega]
      exact ⟨s, (hf i c).2, h2⟩
    · simp only [c, if_false]
      have e : i = n + 1 := by omega
      rw [e, Nat.sub_self]
      exact ⟨⟨s, h, h2⟩, rfl⟩
/-- a walk needs no place twice (s = 1), or none twice with the same parity (s = 2) -/
theorem zqW_cut {E : Int → Int → Prop} (G : zqG E) {s : Nat} (hs : s = 1 ∨ s = 2) : ∀ (m n : Nat) {p q : Int}, n ≤ m → (0 ≤ p ∧ p ≤ 9) → zqW E n p q → ∃ k : Nat, k < 10 * s ∧ k % s = n % s ∧ zqW E k p q
  | 0, n, p, q, hm, hp, h => ⟨n, by omega, rfl, h⟩
  | m + 1, n, p, q, hm, hp, h => by
    by_cases c : n < 10 * s
    · exact ⟨n, c, rfl, h⟩
    · obtain ⟨f, hf⟩ := zqW_f n h
      have hb : ∀ i, i ≤ 10 * s → 0 ≤ f i ∧ f i ≤ 9 := fun i hi => zqW_b G i hp (hf i (by omega)).1
      obtain ⟨i, j, hij, hj, e⟩ := zk_ph (10 * s) (fun i => (s : Int) * f i + ((i % s : Nat) : Int)) (fun i hi => by
        have h1 := hb i hi
        show 0 ≤ (s : Int) * f i + ((i % s : Nat) : Int) ∧ (s : Int) * f i + ((i % s : Nat) : Int) < ((10 * s : Nat) : Int)
        rcases hs with e | e <;> subst e <;> omega)
      have e1 : (s : Int) * f i + ((i % s : Nat) : Int) = (s : Int) * f j + ((j % s : Nat) : Int) := e
      have hi := hb i (by omega)
      have hj2 := hb j hj
      have e2 : f i = f j ∧ i % s = j % s := by rcases hs with e | e <;> subst e <;> omega
      have w1 := (hf i (by omega)).1
      have w2 := (hf j (by omega)).2
      rw [← e2.1] at w2
      have w3 := zqW_t _ _ w1 w2
      obtain ⟨k, k1, k2, k3⟩ := zqW_cut G hs m (i + (n - j)) (by omega) hp w3
      refine ⟨k, k1, ?_, k3⟩
      rw [k2]
      have := e2.2
      rcases hs with e | e <;> subst e <;> omega
noncomputable def zqC (E : Int → Int → Prop) (p q : Int) : Prop := ∃ n : Nat, zqW E n p q
/-- by walks of a parity -/
noncomputable def zqV (E : Int → Int → Prop) (b : Nat) (p q : Int) : Prop := ∃ n : Nat, n % 2 = b ∧ zqW E n p q
theorem zqC_r {E : Int → Int → Prop} (p : Int) : zqC E p p := ⟨0, rfl⟩
theorem zqC_s {E : Int → Int → Prop} (G : zqG E) {p q : Int} (h : zqC E p q) : zqC E q p := h.elim (fun n h => ⟨n, zqW_r G n h⟩)
theorem zqC_t {E : Int → Int → Prop} {p q r : Int} (h : zqC E p q) (h2 : zqC E q r) : zqC E p r := by
  obtain ⟨n, h⟩ := h
  obtain ⟨m, h2⟩ := h2
  exact ⟨n + m, zqW_t m n h h2⟩
theorem zqC_e {E : Int → Int → Prop} {p q : Int} (h : E p q) : zqC E p q := ⟨1, zqW_1 h⟩
theorem zqC_b {E : Int → Int → Prop} (G : zqG E) {p q : Int} (hp : 0 ≤ p ∧ p ≤ 9) (h : zqC E p q) : 0 ≤ q ∧ q ≤ 9 := h.elim (fun n h => zqW_b G n hp h)
theorem zqV_C {E : Int → Int → Prop} {p q : Int} : zqC E p q ↔ zqV E 0 p q ∨ zqV E 1 p q := by
  constructor
  · rintro ⟨n, h⟩
    by_cases c : n % 2 = 0
    · exact Or.inl ⟨n, c, h⟩
    · exact Or.inr ⟨n, by omega, h⟩
  · rintro (⟨n, _, h⟩ | ⟨n, _, h⟩) <;> exact ⟨n, h⟩
/-- of each group the least that has a quarrel -/
noncomputable def zqL (E : Int → Int → Prop) (p : Int) : Prop := (∃ r, E p r) ∧ ∀ r, zqC E p r → p ≤ r
/-- they can be parted -/
noncomputable def zqB (E : Int → Int → Prop) : Prop := ∀ q (n : Nat), zqW E n q q → n % 2 = 0
noncomputable def zqn (E : Int → Int → Prop) (b : Nat) (p : Int) : Int := zqs (fun r => zif (zqV E b p r) 1 0) 10
noncomputable def zqm (E : Int → Int → Prop) (p : Int) : Int := max (zqn E 0 p) (zqn E 1 p)
noncomputable def zqSum (E : Int → Int → Prop) (n : Nat) : Int := zqs (fun p => zif (zqL E p) (zqm E p) 0) n
noncomputable def zqMany (E : Int → Int → Prop) (n : Nat) : Int := zqs (fun p => zif (zqL E p) 1 0) n
/-- what parts answers -/
noncomputable def zqO (E : Int → Int → Prop) (l v : Int) : Prop := (l = 0 → zqB E → v = zqSum E 10) ∧ (l = 0 → ¬ zqB E → v = -1) ∧ (l = 1 → v = zqMany E 10) ∧ (¬ l = 0 → ¬ l = 1 → v = -1)
theorem zqO_u {E : Int → Int → Prop} {l v w : Int} (h : zqO E l v) (h2 : zqO E l w) : w = v := by
  by_cases q : l = 0
  · by_cases b : zqB E
    · rw [h.1 q b, h2.1 q b]
    · rw [h.2.1 q b, h2.2.1 q b]
  · by_cases q1 : l = 1
    · rw [h.2.2.1 q1, h2.2.2.1 q1]
    · rw [h.2.2.2 q q1, h2.2.2.2 q q1]
theorem zqV_b {E : Int → Int → Prop} (B : zqB E) (G : zqG E) {p q : Int} (h0 : zqV E 0 p q) (h1 : zqV E 1 p q) : False := by
  obtain ⟨n, n0, h⟩ := h0
  obtain ⟨m, m0, h2⟩ := h1
  have := B p (n + m) (zqW_t m n h (zqW_r G m h2))
  omega
/-- each group has a least -/
theorem zqL_x {E : Int → Int → Prop} (G : zqG E) : ∀ (n : Nat) {q r : Int}, E q r → q ≤ (n : Int) → ∃ l, zqL E l ∧ zqC E l q
  | n, q, r, e, hn => by
    by_cases c : ∃ s, zqC E q s ∧ s < q
    · obtain ⟨s, h, hl⟩ := c
      have hq := G.2 q r e
      have hs := zqC_b G hq h
      have e2 : ∃ t, E s t := by
        obtain ⟨k, h⟩ := zqC_s G h
        cases k with
        | zero =>
          have e : q = s := h
          omega
        | succ k =>
          obtain ⟨f, hf⟩ := zqW_f (k + 1) h
          have h1 := (hf 1 (by omega)).1
          obtain ⟨z, hz, hz2⟩ := h1
          have : z = s := hz
          rw [this] at hz2
          exact ⟨_, hz2⟩
      obtain ⟨t, e2⟩ := e2
      cases n with
      | zero => exfalso; omega
      | succ n =>
        obtain ⟨l, h1, h2⟩ := zqL_x G n e2 (by omega)
        exact ⟨l, h1, zqC_t h2 (zqC_s G h)⟩
    · exact ⟨q, ⟨⟨r, e⟩, fun s h => Classical.byContradiction (fun z => c ⟨s, h, by omega⟩)⟩, zqC_r q⟩
theorem zqL_u {E : Int → Int → Prop} (G : zqG E) {l m : Int} (h : zqL E l) (h2 : zqL E m) (c : zqC E l m) : l = m := by
  have := h.2 m c
  have := h2.2 l (zqC_s G c)
  omega
/-- a group's sides, from another one of it -/
theorem zqm_e {E : Int → Int → Prop} (G : zqG E) {p q : Int} (c : zqC E p q) : zqm E p = zqm E q := by
  obtain ⟨n, h⟩ := c
  have key : ∀ b : Nat, b < 2 → ∀ r, zqV E b p r ↔ zqV E ((b + n) % 2) q r := by
    intro b hb r
    constructor
    · rintro ⟨m, m1, m2⟩
      exact ⟨n + m, by omega, zqW_t m n (zqW_r G n h) m2⟩
    · rintro ⟨m, m1, m2⟩
      exact ⟨n + m, by omega, zqW_t m n h m2⟩
  have e : ∀ b : Nat, b < 2 → zqn E b p = zqn E ((b + n) % 2) q := fun b hb => zqs_c 10 (fun k _ _ => zif_c (key b hb k))
  unfold zqm
  rw [e 0 (by omega), e 1 (by omega)]
  by_cases c : n % 2 = 0
  · rw [show (0 + n) % 2 = 0 by omega, show (1 + n) % 2 = 1 by omega]
  · rw [show (0 + n) % 2 = 1 by omega, show (1 + n) % 2 = 0 by omega]
    exact Int.max_comm _ _
-- THE REFERENCE: sides by rounds
/-- quarrels as masks -/
noncomputable def zqM (M : Int → Int) (a b : Int) : Prop := (0 ≤ a ∧ a ≤ 9) ∧ (0 ≤ b ∧ b ≤ 9) ∧ zB_ (M a) b
/-- all beside a set -/
noncomputable def zqN (M : Int → Int) (s : Int) (n : Int) (v : Int) : Prop := ∀ q : Int, 0 ≤ q → q ≤ 9 → (zB_ v q ↔ ∃ a : Int, 0 ≤ a ∧ a < n ∧ zB_ s a ∧ zB_ (M a) q)
theorem zqN_0 {M : Int → Int} {s : Int} : zqN M s 0 0 := fun q _ _ => ⟨fun h => absurd h (zB_0 q), fun ⟨a, a0, a1, _⟩ => by exfalso; omega⟩
theorem zqN_n {M : Int → Int} {s n v : Int} (h : zqN M s n v) (h0 : 0 ≤ n) (c : ¬ zB_ s n) : zqN M s (n + 1) v := fun q q0 q1 => by
  rw [h q q0 q1]
  constructor
  · rintro ⟨a, a0, a1, a2⟩
    exact ⟨a, a0, by omega, a2⟩
  · rintro ⟨a, a0, a1, a2, a3⟩
    refine ⟨a, a0, ?_, a2, a3⟩
    by_cases e : a = n
    · rw [e] at a2; exact absurd a2 c
    · omega
theorem zqN_y {M : Int → Int} {s n v : Int} (h : zqN M s n v) (h0 : 0 ≤ n) (c : zB_ s n) (hv : zBr v) (hm : zBr (M n)) : zqN M s (n + 1) (zi_or v (M n)) := fun q q0 q1 => by
  rw [zB_or hv hm, h q q0 q1]
  constructor
  · rintro (⟨a, a0, a1, a2⟩ | z)
    · exact ⟨a, a0, by omega, a2⟩
    · exact ⟨n, h0, by omega, c, z⟩
  · rintro ⟨a, a0, a1, a2, a3⟩
    by_cases e : a = n
    · rw [e] at a3; exact Or.inr a3
    · exact Or.inl ⟨a, a0, by omega, a2, a3⟩
/-- after k rounds -/
noncomputable def zqR (E : Int → Int → Prop) (p : Int) (k : Nat) (ev od : Int) : Prop := ∀ q : Int, 0 ≤ q → q ≤ 9 → (zB_ ev q ↔ ∃ n : Nat, n ≤ 2 * k ∧ n % 2 = 0 ∧ zqW E n p q) ∧ (zB_ od q ↔ ∃ n : Nat, n + 1 ≤ 2 * k ∧ n % 2 = 1 ∧ zqW E n p q)
theorem zqR_0 {E : Int → Int → Prop} {p : Int} (hp : 0 ≤ p ∧ p ≤ 9) : zqR E p 0 (zi_shl 1 p) 0 := fun q q0 q1 => by
  refine ⟨?_, ?_⟩
  · rw [zB_shl ⟨hp.1, by omega⟩ q0]
    constructor
    · intro e
      exact ⟨0, by omega, rfl, e⟩
    · rintro ⟨n, n1, n2, n3⟩
      have : n = 0 := by omega
      rw [this] at n3
      exact n3
  · exact ⟨fun h => absurd h (zB_0 q), fun ⟨n, n1, _⟩ => by exfalso; omega⟩
theorem zqR_s {M : Int → Int} {p : Int} {k : Nat} {ev od v w : Int} (h : zqR (zqM M) p k ev od) (hv : zqN M ev 10 v) (hw : zqN M (zi_or od v) 10 w) (b1 : zBr ev) (b2 : zBr od) (b3 : zBr v) (b4 : zBr w) : zqR (zqM M) p (k + 1) (zi_or ev w) (zi_or od v) := by
  have ho : ∀ q : Int, 0 ≤ q → q ≤ 9 → (zB_ (zi_or od v) q ↔ ∃ n : Nat, n + 1 ≤ 2 * (k + 1) ∧ n % 2 = 1 ∧ zqW (zqM M) n p q) := by
    intro q q0 q1
    rw [zB_or b2 b3, (h q q0 q1).2, hv q q0 q1]
    constructor
    · rintro (⟨n, n1, n2, n3⟩ | ⟨a, a0, a1, a2, a3⟩)
      · exact ⟨n, by omega, n2, n3⟩
      · obtain ⟨n, n1, n2, n3⟩ := (h a a0 (by omega)).1.1 a2
        exact ⟨n + 1, by omega, by omega, a, n3, ⟨a0, by omega⟩, ⟨q0, q1⟩, a3⟩
    · rintro ⟨n, n1, n2, n3⟩
      by_cases c : n + 1 ≤ 2 * k
      · exact Or.inl ⟨n, c, n2, n3⟩
      · obtain ⟨m, e⟩ : ∃ m, n = m + 1 := ⟨n - 1, by omega⟩
        rw [e] at n3
        obtain ⟨a, a1, a2⟩ := n3
        have a9 : a ≤ 9 := a2.1.2
        exact Or.inr ⟨a, a2.1.1, by omega, (h a a2.1.1 a2.1.2).1.2 ⟨m, by omega, by omega, a1⟩, a2.2.2⟩
  intro q q0 q1
  refine ⟨?_, ho q q0 q1⟩
  rw [zB_or b1 b4, (h q q0 q1).1, hw q q0 q1]
  constructor
  · rintro (⟨n, n1, n2, n3⟩ | ⟨a, a0, a1, a2, a3⟩)
    · exact ⟨n, by omega, n2, n3⟩
    · obtain ⟨n, n1, n2, n3⟩ := (ho a a0 (by omega)).1 a2
      exact ⟨n + 1, by omega, by omega, a, n3, ⟨a0, by omega⟩, ⟨q0, q1⟩, a3⟩
  · rintro ⟨n, n1, n2, n3⟩
    by_cases c : n ≤ 2 * k
    · exact Or.inl ⟨n, c, n2, n3⟩
    · obtain ⟨m, e⟩ : ∃ m, n = m + 1 := ⟨n - 1, by omega⟩
      rw [e] at n3
      obtain ⟨a, a1, a2⟩ := n3
      have a9 : a ≤ 9 := a2.1.2
      exact Or.inr ⟨a, a2.1.1, by omega, (ho a a2.1.1 a2.1.2).2 ⟨m, by omega, by omega, a1⟩, a2.2.2⟩
/-- ten rounds are enough -/
theorem zqR_x {E : Int → Int → Prop} {p ev od : Int} (hp : 0 ≤ p ∧ p ≤ 9) (G : zqG E) (h : zqR E p 10 ev od) : (∀ q : Int, 0 ≤ q → q ≤ 9 → (zB_ ev q ↔ zqV E 0 p q)) ∧ (∀ q : Int, 0 ≤ q → q ≤ 9 → (zB_ od q ↔ zqV E 1 p q)) := by
  refine ⟨fun q q0 q1 => ?_, fun q q0 q1 => ?_⟩
  · rw [(h q q0 q1).1]
    constructor
    · rintro ⟨n, _, n2, n3⟩
      exact ⟨n, n2, n3⟩
    · rintro ⟨n, n2, n3⟩
      obtain ⟨k, k1, k2, k3⟩ := zqW_cut G (Or.inr rfl) n n (Nat.le_refl _) hp n3
      exact ⟨k, by omega, by omega, k3⟩
  · rw [(h q q0 q1).2]
    constructor
    · rintro ⟨n, _, n2, n3⟩
      exact ⟨n, n2, n3⟩
    · rintro ⟨n, n2, n3⟩
      obtain ⟨k, k1, k2, k3⟩ := zqW_cut G (Or.inr rfl) n n (Nat.le_refl _) hp n3
      exact ⟨k, by omega, by omega, k3⟩
theorem zqR_st {M : Int → Int} {p i ev od v w : Int} (h : zqR (zqM M) p i.toNat ev od) (hv : zqN M ev 10 v) (hw : zqN M (zi_or od v) 10 w) (h0 : 0 ≤ i) (b1 : 0 ≤ ev ∧ ev ≤ 1023) (b2 : 0 ≤ od ∧ od ≤ 1023) (b3 : 0 ≤ v ∧ v ≤ 1023) (b4 : 0 ≤ w ∧ w ≤ 1023) : zqR (zqM M) p (i + 1).toNat (zi_or ev w) (zi_or od v) := by
  rw [show (i + 1).toNat = i.toNat + 1 by omega]
  exact zqR_s h hv hw ⟨b1.1, by omega⟩ ⟨b2.1, by omega⟩ ⟨b3.1, by omega⟩ ⟨b4.1, by omega⟩
theorem zqN_a {M : Int → Int} {s n u w : Int} (h : zqN M s n u) (t : zi_and (zi_shr s n) 1 = 1 → w = 1) (c : w = 0) (hs : 0 ≤ s ∧ s ≤ 1023) (h0 : 0 ≤ n) (h1 : n < 10) : zqN M s (n + 1) u :=
  zqN_n h h0 (fun z => by have := t ((zB_has ⟨hs.1, by omega⟩ ⟨h0, by omega⟩).2 z); omega)
theorem zqN_b {M : Int → Int} {s n u w : Int} (h : zqN M s n u) (f : ¬ zi_and (zi_shr s n) 1 = 1 → w = 0) (c : ¬ w = 0) (hs : 0 ≤ s ∧ s ≤ 1023) (h0 : 0 ≤ n) (h1 : n < 10) (hu : 0 ≤ u ∧ u ≤ 1023) (hm : 0 ≤ M n ∧ M n ≤ 1023) : zqN M s (n + 1) (zi_or u (M n)) :=
  zqN_y h h0 ((zB_has ⟨hs.1, by omega⟩ ⟨h0, by omega⟩).1 (Classical.byContradiction (fun z => c (f z)))) ⟨hu.1, by omega⟩ ⟨hm.1, by omega⟩
/-- a set is a side -/
noncomputable def zqS (E : Int → Int → Prop) (b : Nat) (p v : Int) : Prop := ∀ q : Int, 0 ≤ q → q ≤ 9 → (zB_ v q ↔ zqV E b p q)
theorem zqS_e {E : Int → Int → Prop} {p ev od : Int} (h : zqR E p 10 ev od) (hp : 0 ≤ p ∧ p ≤ 9) : zqG E → zqS E 0 p ev := fun G => (zqR_x hp G h).1
theorem zqS_o {E : Int → Int → Prop} {p ev od : Int} (h : zqR E p 10 ev od) (hp : 0 ≤ p ∧ p ≤ 9) : zqG E → zqS E 1 p od := fun G => (zqR_x hp G h).2
theorem zqn_p {E : Int → Int → Prop} {b : Nat} {p v : Int} (h : zqS E b p v) (hv : 0 ≤ v ∧ v ≤ 1023) : zpc v z16 = zqn E b p := by
  rw [z16_e, zpc_qs]
  have e : ∀ m : Nat, zqs (fun k => zif (zB_ v k) 1 0) (10 + m) = zqs (fun k => zif (zB_ v k) 1 0) 10 := by
    intro m
    induction m with
    | zero => rfl
    | succ m ih =>
      show zqs (fun k => zif (zB_ v k) 1 0) (10 + m) + zif (zB_ v ((10 + m : Nat) : Int)) 1 0 = _
      rw [ih, zif_n (zB_big (n := 10) hv.1 (by omega) (by omega))]
      omega
  rw [e 6]
  exact zqs_c 10 (fun k k0 k1 => zif_c (h k k0 (by omega)))
-- how many ones: the least goes
theorem zpd8 : ∀ b : Nat, b < 256 → 1 ≤ b → zpN (b &&& (b - 1)) 8 + 1 = zpN b 8 ∧ b &&& (b - 1) < 256 := by decide +kernel
theorem zpd16 (h l : Nat) (hh : h < 256) (hl : l < 256) (hp : 1 ≤ 256 * h + l) : zpN ((256 * h + l) &&& (256 * h + l - 1)) 16 + 1 = zpN (256 * h + l) 16 := by
  by_cases c : l = 0
  · have d := zpd8 h hh (by omega)
    rw [c, show 256 * h + 0 - 1 = 256 * (h - 1) + 255 by omega, zbA 0 h 255 (h - 1) (by omega) (by omega), Nat.zero_and, zpN_16, zpN_16 (256 * h + 0)]
    rw [show (256 * (h &&& (h - 1)) + 0) / 256 = h &&& (h - 1) by omega, show (256 * (h &&& (h - 1)) + 0) % 256 = 0 by omega, show (256 * h + 0) / 256 = h by omega, show (256 * h + 0) % 256 = 0 by omega]
    omega
  · have d := zpd8 l hl (by omega)
    rw [show 256 * h + l - 1 = 256 * h + (l - 1) by omega, zbA l h (l - 1) h (by omega) (by omega), Nat.and_self, zpN_16, zpN_16 (256 * h + l)]
    rw [show (256 * h + (l &&& (l - 1))) / 256 = h by omega, show (256 * h + (l &&& (l - 1))) % 256 = l &&& (l - 1) by omega, show (256 * h + l) / 256 = h by omega, show (256 * h + l) % 256 = l by omega]
    omega
theorem zpd_st {n x X : Int} (h : n + zpc x z16 = X) (hx : 0 ≤ x ∧ x ≤ 65535) (c : ¬ x = 0) : n + 1 + zpc (zi_and x (x - 1)) z16 = X := by
  have a := (zB_andN (a := x) (b := x - 1) ⟨by omega, by omega⟩ ⟨by omega, by omega⟩).2
  have d := zpd16 (x.toNat / 256) (x.toNat % 256) (by omega) (by omega) (by omega)
  rw [Nat.div_add_mod] at d
  rw [z16_e, zpN_eq] at h ⊢
  rw [a, show (x - 1).toNat = x.toNat - 1 by omega]
  omega
theorem zpd_x {n x X : Int} (h : n + zpc x z16 = X) (c : x = 0) : n = X := by
  rw [c, zpc_z] at h
  omega
-- THE REFERENCE: parts
/-- all groups whose least is below i -/
noncomputable def zqD (E : Int → Int → Prop) (dn i : Int) : Prop := ∀ q : Int, 0 ≤ q → q ≤ 9 → (zB_ dn q ↔ ∃ l, zqL E l ∧ l < i ∧ zqC E l q)
noncomputable def zqA (E : Int → Int → Prop) (i : Int) : Prop := ∀ l, zqL E l → l < i → ∀ q, ¬ (zqV E 0 l q ∧ zqV E 1 l q)
noncomputable def zqP (E : Int → Int → Prop) (l1 dn gr sm i : Int) : Prop := zqD E dn i ∧ gr = zqMany E i.toNat ∧ (l1 = 0 → zqA E i ∧ sm = zqSum E i.toNat)
noncomputable def zqPb (E : Int → Int → Prop) (l1 dn gr sm i ev od : Int) : Prop := (zqD E dn (i + 1) ∧ gr = zqMany E (i + 1).toNat ∧ (l1 = 0 → zqA E (i + 1) ∧ sm = zqSum E i.toNat)) ∧ zqL E i ∧ zqS E 0 i ev ∧ zqS E 1 i od
theorem zqL_b {E : Int → Int → Prop} (G : zqG E) {l : Int} (h : zqL E l) : 0 ≤ l ∧ l ≤ 9 := h.1.elim (fun r e => G.2 l r e)
theorem zqP_0 {E : Int → Int → Prop} {l1 : Int} (G : zqG E) : zqP E l1 0 0 0 0 :=
  ⟨fun q _ _ => ⟨fun h => absurd h (zB_0 q), fun ⟨l, a, b, _⟩ => by have := zqL_b G a; exfalso; omega⟩, rfl, fun _ => ⟨fun l a b => by have := zqL_b G a; exfalso; omega, rfl⟩⟩
theorem zqP_n {E : Int → Int → Prop} {l1 dn gr sm i : Int} (h : zqP E l1 dn gr sm i) (h0 : 0 ≤ i) (n : ¬ zqL E i) : zqP E l1 dn gr sm (i + 1) := by
  obtain ⟨a, b, c⟩ := h
  have lt : ∀ l, zqL E l → l < i + 1 → l < i := fun l hl w => by
    by_cases e : l = i
    · rw [e] at hl; exact absurd hl n
    · omega
  have e : (i + 1).toNat = i.toNat + 1 := by omega
  refine ⟨fun q q0 q1 => ?_, ?_, fun z => ⟨fun l hl w => (c z).1 l hl (lt l hl w), ?_⟩⟩
  · rw [a q q0 q1]
    exact ⟨fun ⟨l, x, y, z⟩ => ⟨l, x, by omega, z⟩, fun ⟨l, x, y, z⟩ => ⟨l, x, lt l x y, z⟩⟩
  · rw [e]
    show gr = zqMany E i.toNat + zif (zqL E ((i.toNat : Nat) : Int)) 1 0
    rw [show ((i.toNat : Nat) : Int) = i by omega, zif_n n, ← b]
    omega
  · rw [e]
    show sm = zqSum E i.toNat + zif (zqL E ((i.toNat : Nat) : Int)) (zqm E ((i.toNat : Nat) : Int)) 0
    rw [show ((i.toNat : Nat) : Int) = i by omega, zif_n n, ← (c z).2]
    omega
theorem zqP_i {M : Int → Int} {l1 dn gr sm i : Int} (h : zqG (zqM M) → zqP (zqM M) l1 dn gr sm i) (h0 : 0 ≤ i) (e : M i = 0) : zqG (zqM M) → zqP (zqM M) l1 dn gr sm (i + 1) := fun G => zqP_n (h G) h0 (fun n => n.1.elim (fun r w => by
  have := w.2.2
  rw [e] at this
  exact zB_0 r this))
theorem zqP_d {E : Int → Int → Prop} {l1 dn gr sm i w : Int} (h : zqG E → zqP E l1 dn gr sm i) (f : ¬ zi_and (zi_shr dn i) 1 = 1 → w = 0) (c : ¬ w = 0) (hd : 0 ≤ dn ∧ dn ≤ 1023) (h0 : 0 ≤ i) (h1 : i < 10) : zqG E → zqP E l1 dn gr sm (i + 1) := fun G => zqP_n (h G) h0 (fun n => by
  have z := (zB_has ⟨hd.1, by omega⟩ ⟨h0, by omega⟩).1 (Classical.byContradiction (fun z => c (f z)))
  obtain ⟨l, a, b, d⟩ := ((h G).1 i h0 (by omega)).1 z
  have := zqL_u G a n d
  omega)
/-- a new group -/
theorem zqP_l {M : Int → Int} {l1 dn gr sm i w : Int} (h : zqP (zqM M) l1 dn gr sm i) (G : zqG (zqM M)) (ne : ¬ M i = 0) (hm : 0 ≤ M i ∧ M i ≤ 1023) (t : zi_and (zi_shr dn i) 1 = 1 → w = 1) (c : w = 0) (hd : 0 ≤ dn ∧ dn ≤ 1023) (h0 : 0 ≤ i) (h1 : i < 10) : zqL (zqM M) i := by
  have nd : ¬ zB_ dn i := fun z => by have := t ((zB_has ⟨hd.1, by omega⟩ ⟨h0, by omega⟩).2 z); omega
  have ex : ∃ r, zqM M i r := by
    refine Classical.byContradiction (fun z => ne ?_)
    refine zB_ext hm.1 (Int.le_refl 0) (fun k k0 => ?_)
    by_cases k9 : k ≤ 9
    · exact ⟨fun y => absurd ⟨k, ⟨h0, by omega⟩, ⟨k0, k9⟩, y⟩ z, fun y => absurd y (zB_0 k)⟩
    · exact ⟨fun y => absurd y (zB_big (n := 10) hm.1 (by omega) (by omega)), fun y => absurd y (zB_0 k)⟩
  obtain ⟨r, e⟩ := ex
  obtain ⟨l, a, b⟩ := zqL_x G i.toNat e (by omega)
  by_cases q : l = i
  · rw [q] at a; exact a
  · have := a.2 i b
    exact absurd ((h.1 i h0 (by omega)).2 ⟨l, a, by omega, b⟩) nd
theorem zqP_b {M : Int → Int} {l1 dn gr sm i w ev od : Int} (h : zqG (zqM M) → zqP (zqM M) l1 dn gr sm i) (ne : ¬ M i = 0) (hm : 0 ≤ M i ∧ M i ≤ 1023) (t : zi_and (zi_shr dn i) 1 = 1 → w = 1) (c : w = 0) (hd : 0 ≤ dn ∧ dn ≤ 1023) (h0 : 0 ≤ i) (h1 : i < 10)
    (he : zqG (zqM M) → zqS (zqM M) 0 i ev) (ho : zqG (zqM M) → zqS (zqM M) 1 i od) (b1 : 0 ≤ ev ∧ ev ≤ 1023) (b2 : 0 ≤ od ∧ od ≤ 1023) (cc : zi_and ev od = 0 ∨ ¬ l1 = 0) : zqG (zqM M) → zqPb (zqM M) l1 (zi_or (zi_or dn ev) od) (gr + 1) sm i ev od := fun G => by
  have L := zqP_l (h G) G ne hm t c hd h0 h1
  obtain ⟨a, b, d⟩ := h G
  have e := he G
  have o := ho G
  have z1 : zBr dn := ⟨hd.1, by omega⟩
  have z2 : zBr ev := ⟨b1.1, by omega⟩
  have z3 : zBr od := ⟨b2.1, by omega⟩
  have z4 := (zB_orN z1 z2).1
  have en : (i + 1).toNat = i.toNat + 1 := by omega
  refine ⟨⟨fun q q0 q1 => ?_, ?_, fun z => ⟨fun l hl w q hq => ?_, (d z).2⟩⟩, L, e, o⟩
  · rw [zB_or z4 z3, zB_or z1 z2, a q q0 q1, e q q0 q1, o q q0 q1]
    constructor
    · rintro ((⟨l, x, y, z⟩ | z) | z)
      · exact ⟨l, x, by omega, z⟩
      · exact ⟨i, L, by omega, zqV_C.2 (Or.inl z)⟩
      · exact ⟨i, L, by omega, zqV_C.2 (Or.inr z)⟩
    · rintro ⟨l, x, y, z⟩
      by_cases q : l = i
      · rw [q] at z
        exact (zqV_C.1 z).elim (fun z => Or.inl (Or.inr z)) Or.inr
      · exact Or.inl (Or.inl ⟨l, x, by omega, z⟩)
  · rw [en]
    show gr + 1 = zqMany (zqM M) i.toNat + zif (zqL (zqM M) ((i.toNat : Nat) : Int)) 1 0
    rw [show ((i.toNat : Nat) : Int) = i by omega, zif_p L, ← b]
  · by_cases q2 : l = i
    · rw [q2] at hq hl
      have hi := zqL_b G hl
      have hb : 0 ≤ q ∧ q ≤ 9 := zqC_b G hi (zqV_C.2 (Or.inl hq.1))
      rcases cc with cc | cc
      · have : zB_ (zi_and ev od) q := (zB_and z2 z3).2 ⟨(e q hb.1 hb.2).2 hq.1, (o q hb.1 hb.2).2 hq.2⟩
        rw [cc] at this
        exact zB_0 q this
      · exact cc z
    · exact (d z).1 l hl (by omega) q hq
theorem zqP_s {E : Int → Int → Prop} {l1 dn gr sm i ev od v w m : Int} (h : zqG E → zqPb E l1 dn gr sm i ev od) (h0 : 0 ≤ i) (b1 : 0 ≤ ev ∧ ev ≤ 1023) (b2 : 0 ≤ od ∧ od ≤ 1023) (hv : v = zpc ev z16) (hw : w = zpc od z16) (m1 : v ≤ w → m = w) (m2 : w < v → m = v) : zqG E → zqP E l1 dn gr (sm + m) (i + 1) := fun G => by
  obtain ⟨⟨a, b, c⟩, L, e, o⟩ := h G
  refine ⟨a, b, fun z => ⟨(c z).1, ?_⟩⟩
  have x1 := zqn_p e b1
  have x2 := zqn_p o b2
  rw [show (i + 1).toNat = i.toNat + 1 by omega]
  show sm + m = zqSum E i.toNat + zif (zqL E ((i.toNat : Nat) : Int)) (zqm E ((i.toNat : Nat) : Int)) 0
  rw [show ((i.toNat : Nat) : Int) = i by omega, zif_p L, ← (c z).2]
  unfold zqm
  omega
/-- one group can't be parted -/
theorem zqP_x {E : Int → Int → Prop} {i ev od : Int} (he : zqG E → zqS E 0 i ev) (ho : zqG E → zqS E 1 i od) (b1 : 0 ≤ ev ∧ ev ≤ 1023) (b2 : 0 ≤ od ∧ od ≤ 1023) (cc : ¬ zi_and ev od = 0) : zqG E → ¬ zqB E := fun G B => by
  have z2 : zBr ev := ⟨b1.1, by omega⟩
  have z3 : zBr od := ⟨b2.1, by omega⟩
  have ha := zi_and_f ev od
  have h1 := ha.2.1 ⟨by omega, by omega⟩
  refine cc (zB_ext h1.1 (Int.le_refl 0) (fun k k0 => ⟨fun z => ?_, fun z => absurd z (zB_0 k)⟩))
  have w := (zB_and z2 z3).1 z
  by_cases k9 : k ≤ 9
  · exact absurd ((he G k k0 k9).1 w.1) (fun x => zqV_b B G x ((ho G k k0 k9).1 w.2))
  · exact absurd w.1 (zB_big (n := 10) b1.1 (by omega) (by omega))
/-- at the end -/
noncomputable def zqF (E : Int → Int → Prop) (l1 gr sm : Int) : Prop := gr = zqMany E 10 ∧ (l1 = 0 → zqB E ∧ sm = zqSum E 10)
theorem zqP_e {E : Int → Int → Prop} {l1 dn gr sm i : Int} (h : zqG E → zqP E l1 dn gr sm i) (hi : i = 10) : zqG E → zqF E l1 gr sm := fun G => by
  obtain ⟨a, b, c⟩ := h G
  rw [hi, show (10 : Int).toNat = 10 from rfl] at b c
  refine ⟨b, fun z => ⟨fun q n hw => ?_, (c z).2⟩⟩
  refine Classical.byContradiction (fun odd => ?_)
  obtain ⟨m, e⟩ : ∃ m, n = m + 1 := ⟨n - 1, by omega⟩
  rw [e] at hw
  obtain ⟨r, h1, h2⟩ := hw
  have h3 := G.1 _ _ h2
  have hb := G.2 _ _ h3
  obtain ⟨l, l1, k, l2⟩ := zqL_x G 9 h3 hb.2
  have w := zqW_t n k l2 (by rw [e]; exact ⟨r, h1, h2⟩)
  have lb := zqL_b G l1
  refine (c z).1 l l1 (by omega) q ?_
  by_cases p : k % 2 = 0
  · exact ⟨⟨k, p, l2⟩, ⟨k + n, by omega, w⟩⟩
  · exact ⟨⟨k + n, by omega, w⟩, ⟨k, by omega, l2⟩⟩
theorem zqO_a {E : Int → Int → Prop} {l : Int} (h : l = 0) (n : zqG E → ¬ zqB E) : zqG E → zqO E l (-1) := fun G => ⟨fun _ b => absurd b (n G), fun _ _ => rfl, fun q => by exfalso; omega, fun q => absurd h q⟩
theorem zqO_b {E : Int → Int → Prop} {l gr sm : Int} (h : ¬ l = 0) (x : zqG E → zqF E l gr sm) (l1 : l = 1) : zqG E → zqO E l gr := fun G => ⟨fun q => absurd q h, fun q => absurd q h, fun _ => (x G).1, fun _ q => absurd l1 q⟩
theorem zqO_c {E : Int → Int → Prop} {l gr sm : Int} (h : l = 0) (x : zqG E → zqF E l gr sm) : zqG E → zqO E l sm := fun G => ⟨fun q _ => ((x G).2 q).2, fun q b => absurd ((x G).2 q).1 b, fun q => by exfalso; omega, fun q => absurd h q⟩
theorem zqO_d {E : Int → Int → Prop} {l : Int} (h : ¬ l = 0) (h1 : ¬ l = 1) : zqG E → zqO E l (-1) := fun _ => ⟨fun q => absurd q h, fun q => absurd q h, fun q => absurd q h1, fun _ _ => rfl⟩
