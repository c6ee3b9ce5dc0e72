-- CATCH: ends against the fewest that catch all
theorem zof8 : ∀ b : Nat, b < 256 → 1 ≤ b → zpN (b &&& (b - 1)) 8 + 1 = zpN b 8 ∧ b &&& (b - 1) < 256 := by decide +kernel
theorem zof16 (h l : Nat) (hh : h < 256) (hl : l < 256) (hp : 1 ≤ 256 * h + l) : zpN ((256 * h + l) &&& (256 * h + l - 1)) 16 + 1 = zpN (256 * h + l) 16 := by
  by_cases c : l = 0
  · have d := zof8 h hh (by omega)
    rw [c, show 256 * h + 0 - 1 = 256 * (h - 1) + 255 by omega, zbA 0 h 255 (h - 1) (by omega) (by omega), Nat.zero_and, zpN_16, zpN_16 (256 * h + 0)]
    rw [show (256 * (h &&& (h - 1)) + 0) / 256 = h &&& (h - 1) by omega, show (256 * (h &&& (h - 1)) + 0) % 256 = 0 by omega, show (256 * h + 0) / 256 = h by omega, show (256 * h + 0) % 256 = 0 by omega]
    omega
  · have d := zof8 l hl (by omega)
    rw [show 256 * h + l - 1 = 256 * h + (l - 1) by omega, zbA l h (l - 1) h (by omega) (by omega), Nat.and_self, zpN_16, zpN_16 (256 * h + l)]
    rw [show (256 * h + (l &&& (l - 1))) / 256 = h by omega, show (256 * h + (l &&& (l - 1))) % 256 = l &&& (l - 1) by omega, show (256 * h + l) / 256 = h by omega, show (256 * h + l) % 256 = l by omega]
    omega
theorem zof_st {n x X : Int} (h : n + zpc x z16 = X) (hx : 0 ≤ x ∧ x ≤ 65535) (c : ¬ x = 0) : n + 1 + zpc (zi_and x (x - 1)) z16 = X := by
  have a := (zB_andN (a := x) (b := x - 1) ⟨by omega, by omega⟩ ⟨by omega, by omega⟩).2
  have d := zof16 (x.toNat / 256) (x.toNat % 256) (by omega) (by omega) (by omega)
  rw [Nat.div_add_mod] at d
  rw [z16_e, zpN_eq] at h ⊢
  rw [a, show (x - 1).toNat = x.toNat - 1 by omega]
  omega
theorem zof_z : ∀ n : Nat, zpc 0 n = 0
  | 0 => rfl
  | n + 1 => by
    show zpc 0 n + _ = 0
    rw [zof_z n, if_neg (by rw [show (0 : Int).toNat = 0 from rfl, Nat.zero_testBit]; decide)]
    rfl
theorem zof_x {n x X : Int} (h : n + zpc x z16 = X) (c : x = 0) : n = X := by
  rw [c, zof_z] at h
  omega
theorem zof_10 {s : Int} (h : 0 ≤ s ∧ s < 1024) : zpc s z16 ≤ 10 := by
  rw [z16_e]
  have e : ∀ m : Nat, zpc s (10 + m) = zpc s 10 := by
    intro m
    induction m with
    | zero => rfl
    | succ m ih =>
      show zpc s (10 + m) + (if s.toNat.testBit (10 + m) = true then 1 else 0) = _
      have nb := zB_big (s := s) (k := ((10 + m : Nat) : Int)) (n := 10) h.1 (by omega) (by omega)
      unfold zB_ at nb
      rw [show (((10 + m : Nat) : Int)).toNat = 10 + m by omega] at nb
      rw [ih, if_neg nb]
      omega
  rw [e 6]
  exact (zpc_b s 10).2
-- where gutters lead
section
variable {c : Int → Int}
theorem zOa {p j : Int} (cm : c (-1) = -1) (cb : ∀ k : Int, -1 ≤ c k ∧ c k ≤ 9) (hp : 0 ≤ p ∧ p ≤ 9) (j0 : 0 ≤ j) (s : Nat) (h : zit c s p = j) : ∃ i : Nat, i < 10 ∧ zit c i p = j := by
  have ne : ∀ m : Nat, m ≤ s → zit c m p ≠ -1 := fun m hm z => by
    have w := zit_m cm z (s - m)
    rw [show m + (s - m) = s by omega, h] at w
    omega
  have step : ∀ i : Nat, (∀ m : Nat, m ≤ i → zit c m p ≠ -1) → zit c i p = j → (∃ k : Nat, k < 10 ∧ zit c k p = j) ∨ ∃ k : Nat, k < i ∧ zit c k p = j := fun i hm e => by
    by_cases q : i < 10
    · exact Or.inl ⟨i, q, e⟩
    · obtain ⟨a, b, hab, hb, w⟩ := zk_ph 10 (fun m => zit c m p) (fun m hm2 => by
        have h1 := zit_B cb (p := p) ⟨by omega, hp.2⟩ m
        have h2 := hm m (by omega)
        exact ⟨by show 0 ≤ zit c m p; omega, by show zit c m p < 10; omega⟩)
      have w2 : zit c a p = zit c b p := w
      refine Or.inr ⟨i - b + a, by omega, ?_⟩
      rw [zit_add, w2, ← zit_add, show i - b + b = i by omega]
      exact e
  have key : ∀ N i : Nat, i ≤ N → (∀ m : Nat, m ≤ i → zit c m p ≠ -1) → zit c i p = j → ∃ k : Nat, k < 10 ∧ zit c k p = j := by
    intro N
    induction N with
    | zero =>
      intro i hi hm e
      rcases step i hm e with q | ⟨k, hk, _⟩
      · exact q
      · omega
    | succ N ih =>
      intro i hi hm e
      rcases step i hm e with q | ⟨k, hk, ek⟩
      · exact q
      · exact ih k (by omega) (fun m h => hm m (by omega)) ek
  exact key s s (Nat.le_refl s) ne h
/-- led there -/
noncomputable def zOd (c : Int → Int) (p j : Int) : Prop := ∃ s : Nat, zit c s p = j
theorem zOd_t {p q j : Int} (h : zOd c p q) (k : zOd c q j) : zOd c p j := by
  obtain ⟨s, hs⟩ := h
  obtain ⟨t, ht⟩ := k
  exact ⟨t + s, by rw [zit_add, hs, ht]⟩
theorem zOd_r {p : Int} : zOd c p p := ⟨0, rfl⟩
theorem zOd_10 {p j : Int} (cm : c (-1) = -1) (cb : ∀ k : Int, -1 ≤ c k ∧ c k ≤ 9) (hp : 0 ≤ p ∧ p ≤ 9) (j0 : 0 ≤ j) : zOd c p j ↔ ∃ i : Nat, i < 10 ∧ zit c i p = j :=
  ⟨fun ⟨s, h⟩ => zOa cm cb hp j0 s h, fun ⟨i, _, h⟩ => ⟨i, h⟩⟩
theorem zOd_b {p j : Int} (cb : ∀ k : Int, -1 ≤ c k ∧ c k ≤ 9) (hp : 0 ≤ p ∧ p ≤ 9) (h : zOd c p j) : -1 ≤ j ∧ j ≤ 9 := by
  obtain ⟨s, hs⟩ := h
  have := zit_B cb (p := p) ⟨by omega, hp.2⟩ s
  omega
/-- an end: the least of those it is led to, and all of them lead back -/
noncomputable def zEk (c : Int → Int) (v : Int) : Prop := 0 ≤ v ∧ v ≤ 9 ∧ (∀ y : Int, 0 ≤ y → zOd c v y → zOd c y v) ∧ ∀ y : Int, 0 ≤ y → zOd c v y → v ≤ y
theorem zEk_u {v w x : Int} (hv : zEk c v) (hw : zEk c w) (x0 : 0 ≤ x) (a : zOd c v x) (b : zOd c w x) : v = w := by
  have p := hv.2.2.2 w hw.1 (zOd_t a (hw.2.2.1 x x0 b))
  have q := hw.2.2.2 v hv.1 (zOd_t b (hv.2.2.1 x x0 a))
  omega
theorem zEo_k {i v : Int} (cm : c (-1) = -1) (cb : ∀ k : Int, -1 ≤ c k ∧ c k ≤ 9) (hi : 0 ≤ i ∧ i ≤ 9) (h : zEo c i v) : zEk c v ∧ zOd c i v := by
  obtain ⟨m, ⟨t, t10, tn, tt, mr, mb⟩, v0, v1, vb, vl⟩ := h
  have pa := zit_B cb (p := i) ⟨by omega, hi.2⟩ t
  have na := tn t (Nat.le_refl t)
  generalize ha : zit c t i = a at *
  have a0 : 0 ≤ a ∧ a ≤ 9 := by omega
  have ia : zOd c i a := ⟨t, ha⟩
  have bits : ∀ y : Int, 0 ≤ y → (zB_ m y ↔ zOd c a y) := fun y y0 => by rw [mb y y0, zOd_10 cm cb a0 y0]
  have va : v ≤ a := by
    refine Classical.byContradiction (fun q => vl a a0.1 (by omega) ((bits a a0.1).2 zOd_r))
  have av : zOd c a v := (bits v v0).1 (vb (by omega))
  have back : ∀ y : Int, 0 ≤ y → zOd c a y → zOd c y a := fun y y0 hy => by
    obtain ⟨s, s10, hs⟩ := (zOd_10 cm cb a0 y0).1 hy
    rcases tt with e | e
    · subst e
      obtain ⟨p, q, hpq, hq, w⟩ := zk_ph 10 (fun k => zit c k i) (fun k hk => by
        have h1 := zit_B cb (p := i) ⟨by omega, hi.2⟩ k
        have h2 := tn k (by omega)
        exact ⟨by show 0 ≤ zit c k i; omega, by show zit c k i < 10; omega⟩)
      have w2 : zit c p i = zit c q i := w
      have per : zit c (q - p) a = a := by
        have e1 : a = zit c (10 - q) (zit c q i) := by rw [← zit_add, show 10 - q + q = 10 by omega, ha]
        have e2 : zit c (q - p) (zit c q i) = zit c q i := by
          have e3 : zit c (q - p) (zit c p i) = zit c q i := by rw [← zit_add, show q - p + p = q by omega]
          rw [← w2] at e3 ⊢
          exact e3
        rw [e1, ← zit_add, Nat.add_comm, zit_add, e2]
      have loop := zit_per per s 0
      rw [Nat.add_zero] at loop
      have l0 : zit c ((q - p) * s) a = a := loop
      have ge : s ≤ (q - p) * s := Nat.le_mul_of_pos_left s (by omega)
      refine ⟨(q - p) * s - s, ?_⟩
      rw [← hs, ← zit_add, show (q - p) * s - s + s = (q - p) * s by omega]
      exact l0
    · have z : ∀ k : Nat, zit c (k + 1) a = -1 := fun k => by
        have := zit_m cm (n := 1) (p := a) (by show c a = -1; exact e) k
        rw [Nat.add_comm] at this
        exact this
      by_cases q : s = 0
      · subst q
        have ye : a = y := hs
        rw [ye]
        exact zOd_r
      · have := z (s - 1)
        rw [show s - 1 + 1 = s by omega, hs] at this
        omega
  refine ⟨⟨v0, by omega, fun y y0 hy => ?_, fun y y0 hy => ?_⟩, zOd_t ia av⟩
  · exact zOd_t (back y y0 (zOd_t av hy)) av
  · have yb := zOd_b cb ⟨v0, by omega⟩ hy
    exact Classical.byContradiction (fun q => vl y y0 (by omega) ((bits y y0).2 (zOd_t av hy)))
end
-- sums
noncomputable def zvSu (f : Int → Int) : Nat → Int
  | 0 => 0
  | n + 1 => zvSu f n + f (n : Int)
theorem zvSu_le {f h : Int → Int} : ∀ n : Nat, (∀ k : Int, 0 ≤ k → k < n → f k ≤ h k) → zvSu f n ≤ zvSu h n
  | 0, _ => Int.le_refl _
  | n + 1, e => by
    have a := zvSu_le n (fun k k0 k1 => e k k0 (by omega))
    have b := e (n : Int) (by omega) (by omega)
    show zvSu f n + _ ≤ zvSu h n + _
    omega
theorem zvSu_nn {f : Int → Int} (p : ∀ k : Int, 0 ≤ f k) : ∀ n : Nat, 0 ≤ zvSu f n
  | 0 => Int.le_refl _
  | n + 1 => by
    have a := zvSu_nn p n
    have b := p (n : Int)
    show 0 ≤ zvSu f n + _
    omega
theorem zvSu_ge {f : Int → Int} (p : ∀ k : Int, 0 ≤ f k) {k : Int} (k0 : 0 ≤ k) : ∀ n : Nat, k < n → f k ≤ zvSu f n
  | 0, h => by exfalso; omega
  | n + 1, h => by
    have a := zvSu_nn p n
    have b := p (n : Int)
    show f k ≤ zvSu f n + f (n : Int)
    by_cases e : k = (n : Int)
    · rw [e]; omega
    · have := zvSu_ge p k0 n (by omega)
      omega
theorem zvSu_z {f : Int → Int} : ∀ n : Nat, (∀ k : Int, 0 ≤ k → k < n → f k = 0) → zvSu f n = 0
  | 0, _ => rfl
  | n + 1, e => by
    show zvSu f n + _ = 0
    rw [zvSu_z n (fun k k0 k1 => e k k0 (by omega)), e (n : Int) (by omega) (by omega)]
    rfl
/-- one at most counts -/
theorem zvSu_1 {f : Int → Int} {M : Int} (M0 : 0 ≤ M) (b : ∀ k : Int, f k ≤ M) : ∀ n : Nat, (∀ i j : Int, 0 ≤ i → i < n → 0 ≤ j → j < n → f i ≠ 0 → f j ≠ 0 → i = j) → zvSu f n ≤ M
  | 0, _ => M0
  | n + 1, u => by
    show zvSu f n + f (n : Int) ≤ M
    by_cases e : f (n : Int) = 0
    · rw [e, Int.add_zero]
      exact zvSu_1 M0 b n (fun i j i0 i1 j0 j1 => u i j i0 (by omega) j0 (by omega))
    · have z := zvSu_z (f := f) n (fun k k0 k1 => Classical.byContradiction (fun q => by
        have := u k (n : Int) k0 (by omega) (by omega) (by omega) q e
        omega))
      rw [z, Int.zero_add]
      exact b _
theorem zvSu_add {f h : Int → Int} : ∀ n : Nat, zvSu (fun k => f k + h k) n = zvSu f n + zvSu h n
  | 0 => rfl
  | n + 1 => by
    show zvSu (fun k => f k + h k) n + (f (n : Int) + h (n : Int)) = zvSu f n + f (n : Int) + (zvSu h n + h (n : Int))
    rw [zvSu_add n]
    omega
theorem zvSu_0 : ∀ n : Nat, zvSu (fun _ => 0) n = 0
  | 0 => rfl
  | n + 1 => by
    show zvSu (fun _ => 0) n + 0 = 0
    rw [zvSu_0 n]
    rfl
theorem zvSu_sw {F : Int → Int → Int} (n : Nat) : ∀ m : Nat, zvSu (fun i => zvSu (fun j => F i j) n) m = zvSu (fun j => zvSu (fun i => F i j) m) n
  | 0 => (zvSu_0 n).symm
  | m + 1 => by
    show zvSu (fun i => zvSu (fun j => F i j) n) m + zvSu (fun j => F (m : Int) j) n = zvSu (fun j => zvSu (fun i => F i j) m + F (m : Int) j) n
    rw [zvSu_sw n m, zvSu_add]
/-- what a set weighs -/
noncomputable def zSw (w : Int → Int) (s : Int) (n : Nat) : Int := zvSu (fun k => zite (zB_ s k) (w k) 0) n
theorem zSw_le {c w : Int → Int} {E C : Int} (w0 : ∀ k : Int, 0 ≤ w k) (wm : ∀ i j : Int, 0 ≤ i → i ≤ j → j ≤ 9 → w i ≤ w j) (hE : ∀ e : Int, 0 ≤ e → zB_ E e → zEk c e) (hC : ∀ e : Int, 0 ≤ e → zB_ E e → ∃ x : Int, 0 ≤ x ∧ x ≤ 9 ∧ zB_ C x ∧ zOd c e x) : zSw w E 10 ≤ zSw w C 10 := by
  have p : ∀ e x : Int, 0 ≤ zite (zB_ E e ∧ zB_ C x ∧ zOd c e x) (w x) 0 := fun e x => by
    by_cases h : zB_ E e ∧ zB_ C x ∧ zOd c e x
    · rw [zite_p h]; exact w0 x
    · rw [zite_n h]; exact Int.le_refl _
  have s1 : zSw w E 10 ≤ zvSu (fun e => zvSu (fun x => zite (zB_ E e ∧ zB_ C x ∧ zOd c e x) (w x) 0) 10) 10 := by
    refine zvSu_le 10 (fun e e0 e1 => ?_)
    show zite _ _ _ ≤ _
    by_cases h : zB_ E e
    · rw [zite_p h]
      obtain ⟨x, x0, x9, hx, ex⟩ := hC e e0 h
      have g := zvSu_ge (f := fun x => zite (zB_ E e ∧ zB_ C x ∧ zOd c e x) (w x) 0) (p e) x0 10 (by omega)
      have g2 : zite (zB_ E e ∧ zB_ C x ∧ zOd c e x) (w x) 0 ≤ zvSu (fun x => zite (zB_ E e ∧ zB_ C x ∧ zOd c e x) (w x) 0) 10 := g
      rw [zite_p ⟨h, hx, ex⟩] at g2
      exact Int.le_trans (wm e x e0 ((hE e e0 h).2.2.2 x x0 ex) x9) g2
    · rw [zite_n h]
      exact zvSu_nn (p e) 10
  have s2 : zvSu (fun x => zvSu (fun e => zite (zB_ E e ∧ zB_ C x ∧ zOd c e x) (w x) 0) 10) 10 ≤ zSw w C 10 := by
    refine zvSu_le 10 (fun x x0 x1 => ?_)
    show _ ≤ zite _ _ _
    by_cases h : zB_ C x
    · rw [zite_p h]
      refine zvSu_1 (w0 x) (fun e => ?_) 10 (fun i j i0 i1 j0 j1 hi hj => ?_)
      · by_cases q : zB_ E e ∧ zB_ C x ∧ zOd c e x
        · rw [zite_p q]; exact Int.le_refl _
        · rw [zite_n q]; exact w0 x
      · by_cases qi : zB_ E i ∧ zB_ C x ∧ zOd c i x
        · by_cases qj : zB_ E j ∧ zB_ C x ∧ zOd c j x
          · exact zEk_u (hE i i0 qi.1) (hE j j0 qj.1) x0 qi.2.2 qj.2.2
          · exact absurd (zite_n qj) hj
        · exact absurd (zite_n qi) hi
    · rw [zite_n h, zvSu_z 10 (fun e _ _ => zite_n (fun q => h q.2.1))]
      exact Int.le_refl _
  rw [zvSu_sw] at s1
  exact Int.le_trans s1 s2
theorem zSw_1 (s : Int) : ∀ n : Nat, zSw (fun _ => 1) s n = zpc s n
  | 0 => rfl
  | n + 1 => by
    show zSw (fun _ => 1) s n + zite (zB_ s (n : Int)) 1 0 = zpc s n + _
    rw [zSw_1 s n]
    by_cases h : s.toNat.testBit n = true
    · rw [if_pos h, zite_p (by unfold zB_; rw [show ((n : Nat) : Int).toNat = n from Int.toNat_natCast _]; exact h)]
    · rw [if_neg h, zite_n (by unfold zB_; rw [show ((n : Nat) : Int).toNat = n from Int.toNat_natCast _]; exact h)]
theorem zpc_t {s : Int} (h : 0 ≤ s ∧ s < 1024) : zpc s z16 = zpc s 10 := by
  rw [z16_e]
  have e : ∀ m : Nat, zpc s (10 + m) = zpc s 10 := by
    intro m
    induction m with
    | zero => rfl
    | succ m ih =>
      show zpc s (10 + m) + (if s.toNat.testBit (10 + m) = true then 1 else 0) = _
      have nb := zB_big (s := s) (k := ((10 + m : Nat) : Int)) (n := 10) h.1 (by omega) (by omega)
      unfold zB_ at nb
      rw [show (((10 + m : Nat) : Int)).toNat = 10 + m by omega] at nb
      rw [ih, if_neg nb]
      omega
  exact e 6
/-- a set's own number -/
noncomputable def zvN (s : Nat) : Nat → Nat
  | 0 => 0
  | n + 1 => zvN s n + (if s.testBit n = true then 2 ^ n else 0)
theorem zvN_e : ∀ s : Nat, s < 1024 → zvN s 10 = s := by decide +kernel
theorem zSw_v (s : Int) : ∀ n : Nat, zSw (fun k => ((2 ^ k.toNat : Nat) : Int)) s n = ((zvN s.toNat n : Nat) : Int)
  | 0 => rfl
  | n + 1 => by
    show zSw (fun k => ((2 ^ k.toNat : Nat) : Int)) s n + zite (zB_ s (n : Int)) ((2 ^ ((n : Nat) : Int).toNat : Nat) : Int) 0 = ((zvN s.toNat n + _ : Nat) : Int)
    rw [zSw_v s n, show ((n : Nat) : Int).toNat = n from Int.toNat_natCast _]
    by_cases h : s.toNat.testBit n = true
    · rw [if_pos h, zite_p (by unfold zB_; rw [show ((n : Nat) : Int).toNat = n from Int.toNat_natCast _]; exact h)]
      omega
    · rw [if_neg h, zite_n (by unfold zB_; rw [show ((n : Nat) : Int).toNat = n from Int.toNat_natCast _]; exact h)]
      omega
theorem zSw_n {s : Int} (h : 0 ≤ s ∧ s < 1024) : zSw (fun k => ((2 ^ k.toNat : Nat) : Int)) s 10 = s := by
  rw [zSw_v, zvN_e s.toNat (by omega)]
  omega
theorem zpw_m {i j : Int} (i0 : 0 ≤ i) (h : i ≤ j) : ((2 ^ i.toNat : Nat) : Int) ≤ ((2 ^ j.toNat : Nat) : Int) := by
  have := Nat.pow_le_pow_right (show 0 < 2 by decide) (show i.toNat ≤ j.toNat by omega)
  omega
/-- no other catches all with fewer; with as many none is less -/
theorem zvEm {c : Int → Int} {E C : Int} (bE : 0 ≤ E ∧ E < 1024) (bC : 0 ≤ C ∧ C < 1024) (hE : ∀ e : Int, 0 ≤ e → zB_ E e → zEk c e) (hC : ∀ e : Int, 0 ≤ e → zB_ E e → ∃ x : Int, 0 ≤ x ∧ x ≤ 9 ∧ zB_ C x ∧ zOd c e x) : zpc E z16 ≤ zpc C z16 ∧ E ≤ C := by
  have a := zSw_le (w := fun _ => 1) (fun _ => by decide) (fun _ _ _ _ _ => Int.le_refl _) hE hC
  have b := zSw_le (w := fun k => ((2 ^ k.toNat : Nat) : Int)) (fun k => by show (0 : Int) ≤ ((2 ^ k.toNat : Nat) : Int); generalize 2 ^ k.toNat = q; omega) (fun i j i0 h _ => zpw_m i0 h) hE hC
  rw [zSw_1, zSw_1] at a
  rw [zSw_n bE, zSw_n bC] at b
  rw [zpc_t bE, zpc_t bC]
  exact ⟨a, b⟩
-- the class
noncomputable def zAE (c : Int → Int) (n s : Int) : Prop := zBr s ∧ ∃ e : Int → Int, (∀ i : Int, 0 ≤ i → i < n → zEo c i (e i)) ∧ ∀ j : Int, 0 ≤ j → (zB_ s j ↔ ∃ i : Int, 0 ≤ i ∧ i < n ∧ e i = j)
theorem zAE_0 {c : Int → Int} : zAE c 0 0 := ⟨⟨by decide, by decide⟩, fun _ => 0, fun i i0 i1 => by exfalso; omega, fun j _ => ⟨fun h => absurd h (zB_0 j), fun ⟨i, i0, i1, _⟩ => by exfalso; omega⟩⟩
theorem zAE_s {c : Int → Int} {n s v : Int} (h : zAE c n s) (n0 : 0 ≤ n) (n9 : n ≤ 9) (k : 0 ≤ n → n ≤ 9 → zEo c n v) : zAE c (n + 1) (zi_or s (zi_shl 1 v)) := by
  have k1 := k n0 n9
  have vb : 0 ≤ v ∧ v ≤ 30 := by
    obtain ⟨m, _, v0, v1, _⟩ := k1
    omega
  obtain ⟨hb, e, h1, h2⟩ := h
  refine ⟨(zB_orN hb (zB_shlN vb).1).1, fun i => if i = n then v else e i, fun i i0 i1 => ?_, fun j j0 => ?_⟩
  · show zEo c i (if i = n then v else e i)
    by_cases q : i = n
    · rw [if_pos q, q]; exact k1
    · rw [if_neg q]; exact h1 i i0 (by omega)
  · rw [zB_add hb vb j0, h2 j j0]
    constructor
    · rintro (⟨i, i0, i1, ei⟩ | ej)
      · exact ⟨i, i0, by omega, by show (if i = n then v else e i) = j; rw [if_neg (by omega)]; exact ei⟩
      · exact ⟨n, n0, by omega, by show (if n = n then v else e n) = j; rw [if_pos rfl]; exact ej.symm⟩
    · rintro ⟨i, i0, i1, ei⟩
      have ei' : (if i = n then v else e i) = j := ei
      by_cases q : i = n
      · rw [if_pos q] at ei'
        exact Or.inr ei'.symm
      · rw [if_neg q] at ei'
        exact Or.inl ⟨i, i0, by omega, ei'⟩
theorem zAE_x {c : Int → Int} {n m s : Int} (h : zAE c n s) (e : n = m) : zAE c m s := by rw [e] at h; exact h
noncomputable def zcaS (g : zi_M) (l v : Int) : Prop := (¬ (l = 0 ∨ l = 1) → v = -1) ∧ (l = 0 ∨ l = 1 → ∃ s : Int, zAE (zeg g) (g 2 8) s ∧ (l = 1 → v = s) ∧ (l = 0 → 0 ≤ s → s ≤ 65535 → v = zpc s z16))
theorem zcaS_n {g : zi_M} {l : Int} (h : ¬ (l = 0 ∨ l = 1)) : zcaS g l (-1) := ⟨fun _ => rfl, fun q => absurd q h⟩
theorem zcaS_1 {g : zi_M} {l s : Int} (a : zAE (zeg g) (g 2 8) s) (h : ¬ l = 0) (b : l = 0 ∨ l = 1) : zcaS g l s := ⟨fun q => absurd b q, fun _ => ⟨s, a, fun _ => rfl, fun q => absurd q h⟩⟩
theorem zcaS_0 {g : zi_M} {l s v : Int} (a : zAE (zeg g) (g 2 8) s) (h : l = 0) (e : 0 ≤ s → s ≤ 65535 → v = zpc s z16) : zcaS g l v := ⟨fun q => absurd (Or.inl h) q, fun _ => ⟨s, a, fun q => by exfalso; omega, fun _ => e⟩⟩
-- the reference
theorem zan_y {a b : Int} (ha : zBr a) (hb : zBr b) (h : ¬ zi_and a b = 0) : ∃ j : Int, 0 ≤ j ∧ zB_ a j ∧ zB_ b j := by
  refine Classical.byContradiction (fun n => h ?_)
  refine zB_ext (zB_andN ha hb).1.1 (Int.le_refl 0) (fun k k0 => ?_)
  rw [zB_and ha hb]
  exact ⟨fun q => absurd ⟨k, k0, q.1, q.2⟩ n, fun q => absurd q (zB_0 k)⟩
theorem zan_n {a b j : Int} (ha : zBr a) (hb : zBr b) (h : zi_and a b = 0) (x : zB_ a j) (y : zB_ b j) : False := by
  have q := (zB_and (k := j) ha hb).2 ⟨x, y⟩
  rw [h] at q
  exact zB_0 j q
noncomputable def zvCt (f : Int → Int) (S s : Int) : Prop := ∀ p : Int, 0 ≤ p → p < S → ∃ j : Int, 0 ≤ j ∧ zB_ s j ∧ zOr f p j
noncomputable def zCi (f : Int → Int) (n s : Int) : Prop := zBr s → zvCt f n s
theorem zCi_0 {f : Int → Int} {s : Int} : zCi f 0 s := fun _ p p0 p1 => by exfalso; omega
theorem zCi_s {f : Int → Int} {n s v : Int} (h : zCi f n s) (k : zMp f n v) (e : ¬ zi_and v s = 0) : zCi f (n + 1) s := fun b p p0 p1 => by
  by_cases q : p = n
  · have y := zMp_o k
    obtain ⟨j, j0, ja, jb⟩ := zan_y y.1 b e
    rw [q]
    exact ⟨j, j0, jb, (y.2 j j0).1 ja⟩
  · exact h b p p0 (by omega)
theorem zCi_x {f : Int → Int} {n m s : Int} (h : zCi f n s) (e : n = m) : zCi f m s := by rw [e] at h; exact h
noncomputable def zCn (f : Int → Int) (S s : Int) : Prop := zBr s → ¬ zvCt f S s
theorem zCn_y {f : Int → Int} {S n s v : Int} (k : zMp f n v) (e : zi_and v s = 0) (n0 : 0 ≤ n) (n1 : n < S) : zCn f S s := fun b h => by
  have y := zMp_o k
  obtain ⟨j, j0, jb, jo⟩ := h n n0 n1
  exact zan_n y.1 b e ((y.2 j j0).2 jo) jb
/-- the best so far of the first i -/
noncomputable def zCs (P : Int → Prop) (N i b : Int) : Prop := 0 ≤ b ∧ b < N ∧ P b ∧ (∀ s : Int, 0 ≤ s → s < i → P s → zpc b z16 ≤ zpc s z16) ∧ ((b < i ∧ ∀ s : Int, 0 ≤ s → s < b → P s → zpc b z16 < zpc s z16) ∨ b = N - 1)
section
variable {P : Int → Prop} {N i b : Int}
theorem zCs_0 (N0 : 0 < N) (p : P (N - 1)) : zCs P N 0 (N - 1) := ⟨by omega, by omega, p, fun s s0 s1 => by exfalso; omega, Or.inr rfl⟩
theorem zCs_k (h : zCs P N i b) (w : zpc b z16 ≤ zpc i z16) : zCs P N (i + 1) b := by
  obtain ⟨b0, b1, p, m, f⟩ := h
  refine ⟨b0, b1, p, fun s s0 s1 ps => ?_, ?_⟩
  · by_cases q : s = i
    · rw [q]; exact w
    · exact m s s0 (by omega) ps
  · rcases f with ⟨f1, f2⟩ | f
    · exact Or.inl ⟨by omega, f2⟩
    · exact Or.inr f
theorem zCs_n (h : zCs P N i b) (n : ¬ P i) : zCs P N (i + 1) b := by
  obtain ⟨b0, b1, p, m, f⟩ := h
  refine ⟨b0, b1, p, fun s s0 s1 ps => ?_, ?_⟩
  · by_cases q : s = i
    · exact absurd (q ▸ ps) n
    · exact m s s0 (by omega) ps
  · rcases f with ⟨f1, f2⟩ | f
    · exact Or.inl ⟨by omega, f2⟩
    · exact Or.inr f
theorem zCs_y (h : zCs P N i b) (i0 : 0 ≤ i) (iN : i < N) (pi : P i) (w : zpc i z16 < zpc b z16) : zCs P N (i + 1) i := by
  obtain ⟨b0, b1, p, m, f⟩ := h
  refine ⟨i0, iN, pi, fun s s0 s1 ps => ?_, Or.inl ⟨by omega, fun s s0 s1 ps => Int.lt_of_lt_of_le w (m s s0 s1 ps)⟩⟩
  by_cases q : s = i
  · rw [q]; exact Int.le_refl _
  · exact Int.le_of_lt (Int.lt_of_lt_of_le w (m s s0 (by omega) ps))
theorem zCs_x {n : Int} (h : zCs P N i b) (e : i = n) : zCs P N n b := by rw [e] at h; exact h
end
theorem zsh_p {x : Int} (h : 0 ≤ x ∧ x ≤ 10) : zi_shl 1 x = ((2 ^ x.toNat : Nat) : Int) ∧ 0 < zi_shl 1 x ∧ zi_shl 1 x ≤ 1024 := by
  have d : ∀ n : Nat, n ≤ 10 → zi_shl 1 (n : Int) = ((2 ^ n : Nat) : Int) ∧ 0 < zi_shl 1 (n : Int) ∧ zi_shl 1 (n : Int) ≤ 1024 := by decide +kernel
  have q := d x.toNat (by omega)
  rw [show ((x.toNat : Nat) : Int) = x by omega] at q
  exact q
theorem zfu : ∀ S : Nat, S ≤ 10 → ∀ s : Nat, s < 2 ^ S → zpN s 16 = zpN (2 ^ S - 1) 16 → s = 2 ^ S - 1 := by decide +kernel
theorem zOr_0 {f : Int → Int} {p : Int} (h : 0 ≤ p) : zOr f p p := ⟨0, fun m hm => by
  rw [show m = 0 by omega]
  show p ≠ -1
  omega, rfl⟩
theorem zvCt_f {f : Int → Int} {S : Int} (h : 0 ≤ S ∧ S ≤ 10) : zvCt f S (zi_shl 1 S - 1) := fun p p0 p1 => by
  have q := zsh_p h
  refine ⟨p, p0, ?_, zOr_0 p0⟩
  have e := (zB_all (s := zi_shl 1 S - 1) (n := S.toNat) (by omega) (by omega)).1 (by rw [q.1]; have := Nat.two_pow_pos S.toNat; omega)
  exact e p p0 (by omega)
theorem zBr_l {l N : Int} (h : 0 ≤ l) (k : l < N) (n : N ≤ 1024) : zBr l := ⟨h, by omega⟩
noncomputable def zcaM (g : zi_M) (l v : Int) : Prop := (¬ (l = 0 ∨ l = 1) → v = -1) ∧ (l = 0 ∨ l = 1 → ∃ b : Int, zCs (zvCt (zf g) (g 214 6)) (zi_shl 1 (g 214 6)) (zi_shl 1 (g 214 6)) b ∧ (l = 1 → v = b) ∧ (l = 0 → v = zpc b z16))
theorem zcaM_n {g : zi_M} {l : Int} (h : ¬ (l = 0 ∨ l = 1)) : zcaM g l (-1) := ⟨fun _ => rfl, fun q => absurd q h⟩
theorem zcaM_1 {g : zi_M} {l b : Int} (a : zCs (zvCt (zf g) (g 214 6)) (zi_shl 1 (g 214 6)) (zi_shl 1 (g 214 6)) b) (h : ¬ l = 0) (q : l = 0 ∨ l = 1) : zcaM g l b := ⟨fun z => absurd q z, fun _ => ⟨b, a, fun _ => rfl, fun z => absurd z h⟩⟩
theorem zcaM_0 {g : zi_M} {l b v : Int} (a : zCs (zvCt (zf g) (g 214 6)) (zi_shl 1 (g 214 6)) (zi_shl 1 (g 214 6)) b) (h : l = 0) (e : v = zpc b z16) : zcaM g l v := ⟨fun z => absurd (Or.inl h) z, fun _ => ⟨b, a, fun z => by exfalso; omega, fun _ => e⟩⟩
/-- the loop over sets: in the words of the memory at its start -/
noncomputable def zCg (g : zi_M) (i b : Int) : Prop := zCs (zvCt (zf g) (g 214 6)) (zi_shl 1 (g 214 6)) i b
theorem zca_6 {g0 g : zi_M} (F : zk_fr fr_M_catches g0 g) : g 214 6 = g0 214 6 ∧ zf g = zf g0 := ⟨F 214 6 (fun w => by unfold fr_M_catches at w; omega), funext fun p => by unfold zf; rw [F 232 p (fun w => by unfold fr_M_catches at w; omega)]⟩
theorem zCg_0 {g0 g : zi_M} (I : zk_I g) (F : zk_fr fr_M_catches g0 g) : zCg g0 0 (zi_shl 1 (g 214 6) - 1) := by
  have b6 : (0 : Int) ≤ g 214 6 ∧ g 214 6 ≤ 10 := I.1 214 6
  have q := zca_6 F
  rw [q.1] at b6 ⊢
  exact zCs_0 (zsh_p b6).2.1 (zvCt_f b6)
theorem zCg_k {g0 : zi_M} {i b v w : Int} (h : zCg g0 i b) (e1 : v = zpc i z16) (e2 : w = zpc b z16) (c : w ≤ v) : zCg g0 (i + 1) b := zCs_k h (by omega)
theorem zCg_n {g0 g : zi_M} {i b v : Int} (h : zCg g0 i b) (F : zk_fr fr_M_catches g0 g) (i0 : 0 ≤ i) (i1 : i ≤ 1024) (t : v = 0 → zCn (zf g) (g 214 6) i) (c : v = 0) : zCg g0 (i + 1) b := by
  have q := zca_6 F
  have k := t c
  rw [q.1, q.2] at k
  exact zCs_n h (k ⟨i0, by omega⟩)
theorem zCg_y {g0 g : zi_M} {i b v w u : Int} (h : zCg g0 i b) (F : zk_fr fr_M_catches g0 g) (i0 : 0 ≤ i) (i1 : i < zi_shl 1 (g 214 6)) (i2 : i ≤ 1024) (t : ¬ u = 0 → zCi (zf g) (g 214 6) i) (c : ¬ u = 0) (e1 : v = zpc i z16) (e2 : w = zpc b z16) (d : v < w) : zCg g0 (i + 1) i := by
  have q := zca_6 F
  have k := t c
  rw [q.1, q.2] at k
  rw [q.1] at i1
  exact zCs_y h i0 i1 (k ⟨i0, by omega⟩) (by omega)
theorem zCg_x {g0 g : zi_M} {i b : Int} (h : zCg g0 i b) (I : zk_I g) (F : zk_fr fr_M_catches g0 g) (i0 : i ≤ zi_shl 1 (g0 214 6)) (c : zi_shl 1 (g 214 6) ≤ i) : zCs (zvCt (zf g0) (g0 214 6)) (zi_shl 1 (g0 214 6)) (zi_shl 1 (g0 214 6)) b := by
  rw [(zca_6 F).1] at c
  exact zCs_x h (by omega)
theorem zCg_l {g0 g : zi_M} {i : Int} (F : zk_fr fr_M_catches g0 g) (c : i < zi_shl 1 (g 214 6)) : i + 1 ≤ zi_shl 1 (g0 214 6) := by
  rw [(zca_6 F).1] at c
  omega
theorem zCg_z {g0 g : zi_M} (I : zk_I g) (F : zk_fr fr_M_catches g0 g) : 0 ≤ zi_shl 1 (g0 214 6) := by
  have b6 : (0 : Int) ≤ g 214 6 ∧ g 214 6 ≤ 10 := I.1 214 6
  rw [(zca_6 F).1] at b6
  have := (zsh_p b6).2.1
  omega
-- the answers of CATCH
theorem zB_lt {s : Int} (n : Nat) (s0 : 0 ≤ s) (h : ∀ j : Int, 0 ≤ j → zB_ s j → j < (n : Int)) : s < ((2 ^ n : Nat) : Int) := by
  have q : s.toNat < 2 ^ n := Nat.lt_pow_two_of_testBit s.toNat (fun i hi => by
    have z : ¬ zB_ s (i : Int) := fun y => by
      have := h (i : Int) (by omega) y
      omega
    unfold zB_ at z
    rw [show ((i : Nat) : Int).toNat = i from Int.toNat_natCast _] at z
    exact Bool.eq_false_iff.2 z)
  omega
theorem zOd_lt {c : Int → Int} {S : Int} (hc : ∀ k : Int, c k < S) {i v : Int} (hi : i < S) (h : zOd c i v) : v < S := by
  obtain ⟨s, hs⟩ := h
  cases s with
  | zero =>
    have e : i = v := hs
    omega
  | succ s =>
    have e : c (zit c s i) = v := hs
    have := hc (zit c s i)
    omega
theorem zca_eq {g : zi_M} {l v1 v2 : Int} (I : zk_I g) (X : zXg g) (gv : zGv 2 g) (sp : g 2 8 = g 214 6) (a : zcaS g l v1) (b : zcaM g l v2) : v2 = v1 := by
  have b8 : (0 : Int) ≤ g 2 8 ∧ g 2 8 ≤ 10 := I.1 2 8
  have cm := zeg_m g
  have cb := zeg_b I
  obtain ⟨a1, a2⟩ := a
  obtain ⟨b1, b2⟩ := b
  rw [← sp] at b2
  by_cases h : l = 0 ∨ l = 1
  · obtain ⟨E, ⟨eb, e, ee, ej⟩, s1, s0⟩ := a2 h
    obtain ⟨B, ⟨B0, BN, BP, Bm, Bf⟩, t1, t0⟩ := b2 h
    have N := zsh_p b8
    have out : ∀ p j : Int, 0 ≤ p → p ≤ 9 → 0 ≤ j → (zOr (zf g) p j ↔ zOd (zeg g) p j) := fun p j p0 p1 j0 => by
      rw [zOd_10 cm cb ⟨p0, p1⟩ j0]
      exact (zOc_r (c := zeg g) (f := zf g) (fun k k0 k1 => by
        unfold zeg zf
        rw [if_pos ⟨k0, k1⟩]
        exact X.2 k k0 k1) cm cb ⟨p0, p1⟩ j0).symm
    have cS : ∀ k : Int, zeg g k < g 2 8 := fun k => by
      unfold zeg
      by_cases q : 0 ≤ k ∧ k < 10
      · rw [if_pos q]; exact gv k q.1 (by omega)
      · rw [if_neg q]; omega
    have hE : ∀ j : Int, 0 ≤ j → zB_ E j → zEk (zeg g) j ∧ j < g 2 8 := fun j j0 hj => by
      obtain ⟨i, i0, i1, ei⟩ := (ej j j0).1 hj
      have k := zEo_k cm cb ⟨i0, by omega⟩ (ee i i0 i1)
      rw [ei] at k
      exact ⟨k.1, zOd_lt cS i1 k.2⟩
    have EN : E < zi_shl 1 (g 2 8) := by
      rw [N.1]
      exact zB_lt (g 2 8).toNat eb.1 (fun j j0 hj => by have := (hE j j0 hj).2; omega)
    have PE : zvCt (zf g) (g 2 8) E := fun p p0 p1 => by
      have k := zEo_k cm cb ⟨p0, by omega⟩ (ee p p0 p1)
      exact ⟨e p, k.1.1, (ej (e p) k.1.1).2 ⟨p, p0, p1, rfl⟩, (out p (e p) p0 (by omega) k.1.1).2 k.2⟩
    have m := zvEm (c := zeg g) (E := E) (C := B) ⟨eb.1, by omega⟩ ⟨B0, by omega⟩ (fun j j0 hj => (hE j j0 hj).1) (fun j j0 hj => by
      have q := hE j j0 hj
      obtain ⟨x, x0, xb, xo⟩ := BP j j0 q.2
      have xd := (out j x j0 q.1.2.1 x0).1 xo
      exact ⟨x, x0, (zOd_b cb ⟨j0, q.1.2.1⟩ xd).2, xb, xd⟩)
    have m2 := Bm E eb.1 EN PE
    have EB : E = B := by
      rcases Bf with ⟨f1, f2⟩ | f
      · refine Classical.byContradiction (fun q => ?_)
        have := f2 E eb.1 (by omega) PE
        omega
      · have zz : zpc E z16 = zpc B z16 := by omega
        rw [z16_e, zpN_eq, zpN_eq] at zz
        have fu := zfu (g 2 8).toNat (by omega) E.toNat (by rw [N.1] at EN; omega) (by
          rw [show 2 ^ (g 2 8).toNat - 1 = B.toNat by rw [N.1] at f; have := Nat.two_pow_pos (g 2 8).toNat; omega]
          omega)
        rw [N.1] at f
        have := Nat.two_pow_pos (g 2 8).toNat
        have e0 := eb.1
        omega
    rcases h with h | h
    · rw [s0 h eb.1 (by omega), t0 h, EB]
    · rw [s1 h, t1 h, EB]
  · rw [a1 h, b1 h]
