noncomputable def zup (f : Int → Int) (a v : Int) : Int → Int := fun i => if i = a then v else f i
theorem zup_e {f : Int → Int} {a v : Int} : zup f a v a = v := by unfold zup; rw [if_pos rfl]
theorem zup_n {f : Int → Int} {a v i : Int} (h : ¬ i = a) : zup f a v i = f i := by unfold zup; rw [if_neg h]
theorem zup_u {g : zi_M} {a : Nat} {i v : Int} : zi_u g a i v a = zup (g a) i v := funext (fun k => by
  by_cases q : k = i
  · rw [q, zi_u_eq, zup_e]
  · rw [zi_u_ni q, zup_n q])
-- TOKENS: what the next one is, of a tape of n signs, from a place on
noncomputable def zlt (c : Int) : Prop := (97 ≤ c ∧ c ≤ 122) ∨ (65 ≤ c ∧ c ≤ 90)
noncomputable def zdt (c : Int) : Prop := 48 ≤ c ∧ c ≤ 57
noncomputable def zbk (c : Int) : Prop := c = 32 ∨ c = 10
noncomputable def zsg (c : Int) : Prop := c = 59 ∨ c = 43 ∨ c = 45 ∨ c = 42 ∨ c = 47 ∨ c = 40 ∨ c = 41 ∨ c = 60 ∨ c = 61 ∨ c = 62
/-- a run of such signs from a on ends at b -/
noncomputable def zrn (P : Int → Prop) (f : Int → Int) (n a b : Int) : Prop := (a < b ∧ b ≤ n) ∧ (∀ i : Int, a ≤ i → i < b → P (f i)) ∧ (b < n → ¬ P (f b))
theorem zrn_u {P : Int → Prop} {f : Int → Int} {n a b c : Int} (h : zrn P f n a b) (k : zrn P f n a c) : b = c := by
  obtain ⟨⟨h1, h2⟩, h3, h4⟩ := h
  obtain ⟨⟨k1, k2⟩, k3, k4⟩ := k
  by_cases q : b < c
  · exact absurd (k3 b (by omega) q) (h4 (by omega))
  · by_cases q2 : c < b
    · exact absurd (h3 c (by omega) q2) (k4 (by omega))
    · omega
/-- the word of the list that stands there -/
noncomputable def zWd (f : Int → Int) (a b w : Int) : Prop := ∃ s : Int, (0 ≤ s ∧ s < 128) ∧ zk_wd s.toNat = 32 ∧ zw_nx s = w ∧ (∀ i : Int, 0 ≤ i → i < b - a → zk_wd (s + 1 + i).toNat = f (a + i)) ∧ zk_wd (s + 1 + (b - a)).toNat = 32
noncomputable def zdec (f : Int → Int) (a : Int) : Nat → Int
  | 0 => 0
  | m + 1 => 10 * zdec f a m + f (a + m) - 48
noncomputable def zTn (f : Int → Int) (n p a b k v : Int) : Prop := (p ≤ a ∧ a ≤ n ∧ (∀ i : Int, p ≤ i → i < a → zbk (f i)) ∧ (a < n → ¬ zbk (f a))) ∧ ((a = n ∧ b = a ∧ k = 0) ∨ (a < n ∧ zlt (f a) ∧ zrn zlt f n a b ∧ ((k = 2 ∧ zWd f a b v) ∨ (k = 1 ∧ ∀ w : Int, ¬ zWd f a b w))) ∨ (a < n ∧ zdt (f a) ∧ zrn zdt f n a b ∧ ((b - a < 5 ∧ k = 3 ∧ v = zdec f a (b - a).toNat) ∨ (5 ≤ b - a ∧ k = 1))) ∨ (a < n ∧ ¬ zlt (f a) ∧ ¬ zdt (f a) ∧ b = a + 1 ∧ v = f a ∧ ((zsg (f a) ∧ k = 4) ∨ (¬ zsg (f a) ∧ k = 1))))
theorem zld {c : Int} (h : zlt c) : ¬ zdt c := by unfold zlt at h; unfold zdt; omega
/-- no two words are alike, and none begins another at the same place -/
theorem zk_wd_sp : ∀ n : Nat, n < 129 → zk_wd n = 32 ∨ (97 ≤ zk_wd n ∧ zk_wd n ≤ 122) := by decide +kernel
noncomputable def zwe (s : Nat) : Nat := if zk_wd (s + 1) = 32 then 0 else if zk_wd (s + 2) = 32 then 1 else if zk_wd (s + 3) = 32 then 2 else if zk_wd (s + 4) = 32 then 3 else if zk_wd (s + 5) = 32 then 4 else 5
theorem zwe_all : ∀ s : Nat, s < 128 → zk_wd s = 32 → (1 ≤ zwe s ∧ s + 1 + zwe s ≤ 128 ∧ zk_wd (s + 1 + zwe s) = 32 ∧ ∀ i : Nat, i < zwe s → ¬ zk_wd (s + 1 + i) = 32) := by decide +kernel
theorem zanyR {n : Nat} {p : Nat → Bool} (h : (List.range n).any p = true) : ∃ i : Nat, i < n ∧ p i = true := by
  rw [List.any_eq_true] at h
  obtain ⟨x, hx, hp⟩ := h
  exact ⟨x, List.mem_range.1 hx, hp⟩
theorem zwd_neB : ∀ s : Nat, s < 128 → zk_wd s = 32 → ∀ t : Nat, t < s → zk_wd t = 32 → zwe s = zwe t → (List.range 6).any (fun i => decide (i < zwe s) && !decide (zk_wd (s + 1 + i) = zk_wd (t + 1 + i))) = true := by decide +kernel
theorem zwd_ne (s : Nat) (h : s < 128) (h1 : zk_wd s = 32) (t : Nat) (ht : t < s) (h2 : zk_wd t = 32) (he : zwe s = zwe t) : ∃ i : Nat, i < 6 ∧ i < zwe s ∧ ¬ zk_wd (s + 1 + i) = zk_wd (t + 1 + i) := by
  obtain ⟨i, i1, i2⟩ := zanyR (zwd_neB s h h1 t ht h2 he)
  rw [Bool.and_eq_true, decide_eq_true_eq] at i2
  refine ⟨i, i1, i2.1, fun e => ?_⟩
  have := i2.2
  rw [decide_eq_true e] at this
  cases this
theorem zWd_l {f : Int → Int} {a b w : Int} {s : Int} (h0 : 0 ≤ s ∧ s < 128) (h1 : zk_wd s.toNat = 32) (h3 : ∀ i : Int, 0 ≤ i → i < b - a → zk_wd (s + 1 + i).toNat = f (a + i)) (h4 : zk_wd (s + 1 + (b - a)).toNat = 32) (hl : ∀ i : Int, a ≤ i → i < b → zlt (f i)) (hab : a < b) : b - a = (zwe s.toNat : Int) := by
  obtain ⟨e1, e2, e3, e4⟩ := zwe_all s.toNat (by omega) h1
  by_cases q : (zwe s.toNat : Int) < b - a
  · have := h3 (zwe s.toNat : Int) (by omega) q
    rw [show (s + 1 + (zwe s.toNat : Int)).toNat = s.toNat + 1 + zwe s.toNat by omega, e3] at this
    have h := hl (a + zwe s.toNat) (by omega) (by omega)
    rw [← this] at h
    unfold zlt at h
    omega
  · by_cases q2 : b - a < (zwe s.toNat : Int)
    · have := e4 (b - a).toNat (by omega)
      rw [show s.toNat + 1 + (b - a).toNat = (s + 1 + (b - a)).toNat by omega] at this
      exact absurd h4 this
    · omega
theorem zWd_u {f : Int → Int} {a b v w : Int} (hl : ∀ i : Int, a ≤ i → i < b → zlt (f i)) (hab : a < b) (h : zWd f a b v) (k : zWd f a b w) : v = w := by
  obtain ⟨s, s0, s1, s2, s3, s4⟩ := h
  obtain ⟨t, t0, t1, t2, t3, t4⟩ := k
  have ls := zWd_l s0 s1 s3 s4 hl hab (w := v)
  have lt := zWd_l t0 t1 t3 t4 hl hab (w := w)
  have no : ∀ x y : Int, (0 ≤ x ∧ x < 128) → (0 ≤ y ∧ y < 128) → zk_wd x.toNat = 32 → zk_wd y.toNat = 32 → b - a = (zwe x.toNat : Int) → b - a = (zwe y.toNat : Int) → (∀ i : Int, 0 ≤ i → i < b - a → zk_wd (x + 1 + i).toNat = f (a + i)) → (∀ i : Int, 0 ≤ i → i < b - a → zk_wd (y + 1 + i).toNat = f (a + i)) → ¬ y < x := by
    intro x y x0 y0 x1 y1 lx ly x3 y3 q
    obtain ⟨i, i1, i2, i3⟩ := zwd_ne x.toNat (by omega) x1 y.toNat (by omega) y1 (by omega)
    apply i3
    have hx := x3 (i : Int) (by omega) (by omega)
    have hy := y3 (i : Int) (by omega) (by omega)
    rw [show (x + 1 + (i : Int)).toNat = x.toNat + 1 + i by omega] at hx
    rw [show (y + 1 + (i : Int)).toNat = y.toNat + 1 + i by omega] at hy
    rw [hx, hy]
  have n1 := no s t s0 t0 s1 t1 ls lt s3 t3
  have n2 := no t s t0 s0 t1 s1 lt ls t3 s3
  have e : s = t := by omega
  rw [← s2, ← t2, e]
theorem zWd_26 {f : Int → Int} {a b w : Int} (h : zWd f a b w) : 0 ≤ w ∧ w ≤ 26 := by
  obtain ⟨s, s0, s1, s2, -, -⟩ := h
  have h1 := zw_nxb s s0 s1
  have h2 : ∀ n : Nat, n < 128 → 0 ≤ zw_nn n := by decide +kernel
  have h3 := h2 s.toNat (by omega)
  have h4 : zw_nx s = zw_nn s.toNat := rfl
  omega
/-- the next token is one -/
theorem zTn_u {f : Int → Int} {n p a b k v a' b' k' v' : Int} (h : zTn f n p a b k v) (h' : zTn f n p a' b' k' v') : a = a' ∧ b = b' ∧ k = k' ∧ (2 ≤ k → v = v') := by
  obtain ⟨⟨h1, h2, h3, h4⟩, h5⟩ := h
  obtain ⟨⟨k1, k2, k3, k4⟩, k5⟩ := h'
  have e : a = a' := by
    by_cases q : a < a'
    · exact absurd (k3 a h1 q) (h4 (by omega))
    · by_cases q2 : a' < a
      · exact absurd (h3 a' k1 q2) (k4 (by omega))
      · omega
  subst e
  rcases h5 with ⟨x1, x2, x3⟩ | ⟨x1, x2, x3, x4⟩ | ⟨x1, x2, x3, x4⟩ | ⟨x1, x2, x3, x4, x5, x6⟩ <;> rcases k5 with ⟨y1, y2, y3⟩ | ⟨y1, y2, y3, y4⟩ | ⟨y1, y2, y3, y4⟩ | ⟨y1, y2, y3, y4, y5, y6⟩ <;> (try (exfalso; omega)) <;> (try exact absurd y2 (zld x2)) <;> (try exact absurd x2 (zld y2)) <;> (try exact absurd x2 y2) <;> (try exact absurd y2 x2) <;> (try exact absurd x2 y3) <;> (try exact absurd y2 x3)
  · exact ⟨rfl, by omega, by omega, fun q => by omega⟩
  · have eb := zrn_u x3 y3
    subst eb
    rcases x4 with ⟨z1, z2⟩ | ⟨z1, z2⟩ <;> rcases y4 with ⟨w1, w2⟩ | ⟨w1, w2⟩
    · exact ⟨rfl, rfl, by omega, fun _ => zWd_u x3.2.1 x3.1.1 z2 w2⟩
    · exact absurd z2 (w2 _)
    · exact absurd w2 (z2 _)
    · exact ⟨rfl, rfl, by omega, fun q => by omega⟩
  · have eb := zrn_u x3 y3
    subst eb
    rcases x4 with ⟨z1, z2, z3⟩ | ⟨z1, z2⟩ <;> rcases y4 with ⟨w1, w2, w3⟩ | ⟨w1, w2⟩
    · exact ⟨rfl, rfl, by omega, fun _ => by rw [z3, w3]⟩
    · exfalso; omega
    · exfalso; omega
    · exact ⟨rfl, rfl, by omega, fun q => by omega⟩
  · refine ⟨rfl, by omega, ?_, fun _ => by rw [x5, y5]⟩
    rcases x6 with ⟨z1, z2⟩ | ⟨z1, z2⟩ <;> rcases y6 with ⟨w1, w2⟩ | ⟨w1, w2⟩
    · omega
    · exact absurd z1 w1
    · exact absurd w1 z1
    · omega
theorem zTn_c {f h : Int → Int} {n p a b k v : Int} (e : ∀ i : Int, p ≤ i → i < n → f i = h i) (t : zTn f n p a b k v) : zTn h n p a b k v := by
  obtain ⟨⟨h1, h2, h3, h4⟩, h5⟩ := t
  have er : ∀ P : Int → Prop, zrn P f n a b → zrn P h n a b := fun P r => ⟨r.1, fun i i0 i1 => by rw [← e i (by omega) (by have := r.1.2; omega)]; exact r.2.1 i i0 i1, fun q => by rw [← e b (by have := r.1.1; omega) q]; exact r.2.2 q⟩
  refine ⟨⟨h1, h2, fun i i0 i1 => by rw [← e i i0 (by omega)]; exact h3 i i0 i1, fun q => by rw [← e a h1 q]; exact h4 q⟩, ?_⟩
  rcases h5 with x | ⟨x1, x2, x3, x4⟩ | ⟨x1, x2, x3, x4⟩ | ⟨x1, x2, x3, x4, x5, x6⟩
  · exact Or.inl x
  · have ew : ∀ w : Int, zWd f a b w ↔ zWd h a b w := by
      intro w
      have ee : ∀ i : Int, 0 ≤ i → i < b - a → f (a + i) = h (a + i) := fun i i0 i1 => e _ (by omega) (by have := x3.1.2; omega)
      constructor
      · intro ⟨s, s0, s1, s2, s3, s4⟩
        exact ⟨s, s0, s1, s2, fun i i0 i1 => by rw [← ee i i0 i1]; exact s3 i i0 i1, s4⟩
      · intro ⟨s, s0, s1, s2, s3, s4⟩
        exact ⟨s, s0, s1, s2, fun i i0 i1 => by rw [ee i i0 i1]; exact s3 i i0 i1, s4⟩
    refine Or.inr (Or.inl ⟨x1, by rw [← e a h1 x1]; exact x2, er _ x3, ?_⟩)
    rcases x4 with ⟨z1, z2⟩ | ⟨z1, z2⟩
    · exact Or.inl ⟨z1, (ew v).1 z2⟩
    · exact Or.inr ⟨z1, fun w q => z2 w ((ew w).2 q)⟩
  · refine Or.inr (Or.inr (Or.inl ⟨x1, by rw [← e a h1 x1]; exact x2, er _ x3, ?_⟩))
    rcases x4 with ⟨z1, z2, z3⟩ | z
    · refine Or.inl ⟨z1, z2, ?_⟩
      rw [z3]
      have ed : ∀ m : Nat, (m : Int) ≤ b - a → zdec f a m = zdec h a m := by
        intro m
        induction m with
        | zero => intro _; rfl
        | succ m ih =>
          intro hm
          unfold zdec
          rw [ih (by omega), e (a + m) (by omega) (by have := x3.1.2; omega)]
      exact ed _ (by have := x3.1.1; omega)
    · exact Or.inr z
  · refine Or.inr (Or.inr (Or.inr ⟨x1, by rw [← e a h1 x1]; exact x2, by rw [← e a h1 x1]; exact x3, x4, by rw [← e a h1 x1]; exact x5, ?_⟩))
    rw [← e a h1 x1]
    exact x6
theorem zdec_s {f : Int → Int} {a i x : Int} (h : x = zdec f a (i - a).toNat) (hi : a ≤ i) : x * 10 + f i - 48 = zdec f a (i + 1 - a).toNat := by
  rw [show (i + 1 - a).toNat = (i - a).toNat + 1 by omega]
  unfold zdec
  rw [← h, show a + ((i - a).toNat : Int) = i by omega]
  omega
theorem znm_e {f : Int → Int} {n a i x : Int} (h1 : ∀ j : Int, a ≤ j → j < i → zdt (f j)) (hx : x = zdec f a (i - a).toNat) (ha : a ≤ i) (h5 : i ≤ a + 4) (hin : i ≤ n ∨ i = a) (he : n ≤ i ∨ ¬ zdt (f i)) : ∀ b : Int, zrn zdt f n a b → b - a < 5 ∧ x = zdec f a (b - a).toNat := fun b r => by
  have e : b = i := by
    by_cases q : b < i
    · exact absurd (h1 b (by have := r.1.1; omega) q) (r.2.2 (by have := r.1.1; omega))
    · by_cases q2 : i < b
      · have d := r.2.1 i ha q2
        have := r.1.2
        rcases he with w | w
        · exfalso; omega
        · exact absurd d w
      · omega
  rw [e]
  exact ⟨by omega, hx⟩
theorem znm_b {f : Int → Int} {n a i : Int} (h1 : ∀ j : Int, a ≤ j → j < i → zdt (f j)) (hd : zdt (f i)) (h5 : 4 ≤ i - a) (hin : i < n) : ∀ b : Int, zrn zdt f n a b → 5 ≤ b - a := fun b r => by
  by_cases q : b < i
  · exact absurd (h1 b (by have := r.1.1; omega) q) (r.2.2 (by omega))
  · by_cases q2 : b = i
    · rw [← q2] at hd
      exact absurd hd (r.2.2 (by omega))
    · omega
-- KEYWORDS of a text of the class
noncomputable def zkn (r : Nat) : Nat → Int
  | 0 => 0
  | n + 1 => zkn r n + (if zs_sc r n = 32 then 1 else 0)
/-- letters from st to sp of the keywords are one word -/
noncomputable def zKs (r : Nat) (st sp : Int) : Prop := (0 ≤ st ∧ st ≤ sp ∧ sp ≤ zs_sl r) ∧ (st = 0 ∨ zs_sc r (st - 1) = 32) ∧ (sp = zs_sl r ∨ zs_sc r sp = 32) ∧ (∀ i : Int, st ≤ i → i < sp → ¬ zs_sc r i = 32)
noncomputable def zKm (r : Nat) (f : Int → Int) (a b st sp : Int) : Prop := b - a = sp - st ∧ ∀ i : Int, 0 ≤ i → i < b - a → f (a + i) = zs_sc r (st + i)
noncomputable def zKw (r : Nat) (f : Int → Int) (a b j : Int) : Prop := ∃ st sp : Int, zKs r st sp ∧ zkn r st.toNat = j ∧ zKm r f a b st sp
/-- words of the class's lists are words of the reference's -/
noncomputable def zmp (r : Nat) (j : Int) : Int := if r = 1000000001 then j else if r = 1000000002 then 16 + j else if r = 1000000003 then (if j = 0 then 15 else 11) else (if j = 0 then 19 else if j = 7 then 18 else if j = 8 then 20 else 20 + j)
theorem zallR {n : Nat} {p : Nat → Bool} (h : (List.range n).all p = true) (i : Nat) (hi : i < n) : p i = true := List.all_eq_true.1 h i (List.mem_range.2 hi)
theorem zorB {a b : Bool} (h : (!a || b) = true) (ha : a = true) : b = true := by
  rw [ha] at h
  exact h
theorem zKs_allB : (List.range 4).all (fun q => (List.range 77).all (fun st => (List.range 6).all (fun l => !((decide (st = 0) || decide (zs_sc (1000000001 + q) ((st : Int) - 1) = 32)) && ((decide (((st + l : Nat) : Int) = zs_sl (1000000001 + q)) || decide (zs_sc (1000000001 + q) ((st + l : Nat) : Int) = 32)) && ((List.range 6).all (fun i => !decide (i < l) || !decide (zs_sc (1000000001 + q) ((st + i : Nat) : Int) = 32)) && decide (((st + l : Nat) : Int) ≤ zs_sl (1000000001 + q))))) || (decide (1 ≤ l) && ((List.range 6).all (fun i => !decide (i < l) || (decide (97 ≤ zs_sc (1000000001 + q) ((st + i : Nat) : Int)) && decide (zs_sc (1000000001 + q) ((st + i : Nat) : Int) ≤ 122))) && (List.range 128).any (fun s => decide (zk_wd s = 32) && (decide (zw_nn s = zmp (1000000001 + q) (zkn (1000000001 + q) st)) && ((List.range 6).all (fun i => !decide (i < l) || decide (zk_wd (s + 1 + i) = zs_sc (1000000001 + q) ((st + i : Nat) : Int))) && decide (zk_wd (s + 1 + l) = 32))))))))) = true := by decide +kernel
theorem zKs_all (q : Nat) (q4 : q < 4) (st : Nat) (hs : st < 77) (h1 : st = 0 ∨ zs_sc (1000000001 + q) ((st : Int) - 1) = 32) (l : Nat) (hl : l < 6) (h2 : ((st + l : Nat) : Int) = zs_sl (1000000001 + q) ∨ zs_sc (1000000001 + q) ((st + l : Nat) : Int) = 32) (h3 : ∀ i : Nat, i < l → ¬ zs_sc (1000000001 + q) ((st + i : Nat) : Int) = 32) (h4 : ((st + l : Nat) : Int) ≤ zs_sl (1000000001 + q)) : 1 ≤ l ∧ (∀ i : Nat, i < l → 97 ≤ zs_sc (1000000001 + q) ((st + i : Nat) : Int) ∧ zs_sc (1000000001 + q) ((st + i : Nat) : Int) ≤ 122) ∧ ∃ s : Nat, s < 128 ∧ zk_wd s = 32 ∧ zw_nn s = zmp (1000000001 + q) (zkn (1000000001 + q) st) ∧ (∀ i : Nat, i < l → zk_wd (s + 1 + i) = zs_sc (1000000001 + q) ((st + i : Nat) : Int)) ∧ zk_wd (s + 1 + l) = 32 := by
  have h0 := zallR (zallR (zallR zKs_allB q q4) st hs) l hl
  have hp : (List.range 6).all (fun i => !decide (i < l) || !decide (zs_sc (1000000001 + q) ((st + i : Nat) : Int) = 32)) = true := List.all_eq_true.2 (fun i _ => by
    by_cases c : i < l
    · rw [decide_eq_false (h3 i c)]
      exact Bool.or_true _
    · rw [decide_eq_false c]
      rfl)
  have h := zorB h0 (by
    rw [hp, Bool.true_and, decide_eq_true h4, Bool.and_true, Bool.and_eq_true, Bool.or_eq_true, Bool.or_eq_true, decide_eq_true_eq, decide_eq_true_eq, decide_eq_true_eq, decide_eq_true_eq]
    exact ⟨h1, h2⟩)
  rw [Bool.and_eq_true, Bool.and_eq_true] at h
  obtain ⟨a1, a2, a3⟩ := h
  obtain ⟨s, s0, s1⟩ := zanyR a3
  rw [Bool.and_eq_true, Bool.and_eq_true, Bool.and_eq_true] at s1
  obtain ⟨b1, b2, b3, b4⟩ := s1
  refine ⟨of_decide_eq_true a1, fun i hi => ?_, s, s0, of_decide_eq_true b1, of_decide_eq_true b2, fun i hi => of_decide_eq_true (zorB (zallR b3 i (by omega)) (decide_eq_true hi)), of_decide_eq_true b4⟩
  have := zorB (zallR a2 i (by omega)) (decide_eq_true hi)
  rw [Bool.and_eq_true] at this
  exact ⟨of_decide_eq_true this.1, of_decide_eq_true this.2⟩
noncomputable def zkN (r : Nat) : Int := if r = 1000000001 then 16 else if r = 1000000002 then 2 else if r = 1000000003 then 2 else 9
theorem zKs_lenB : ∀ q : Nat, q < 4 → ∀ st : Nat, st < 77 → (List.range 6).any (fun l => decide (zs_sl (1000000001 + q) ≤ ((st + l : Nat) : Int)) || decide (zs_sc (1000000001 + q) ((st + l : Nat) : Int) = 32)) = true := by decide +kernel
theorem zKs_len (q : Nat) (q4 : q < 4) (st : Nat) (hs : st < 77) : ∃ l : Nat, l < 6 ∧ (zs_sl (1000000001 + q) ≤ ((st + l : Nat) : Int) ∨ zs_sc (1000000001 + q) ((st + l : Nat) : Int) = 32) := by
  obtain ⟨l, l0, l1⟩ := zanyR (zKs_lenB q q4 st hs)
  rw [Bool.or_eq_true, decide_eq_true_eq, decide_eq_true_eq] at l1
  exact ⟨l, l0, l1⟩
theorem zKs_numB : ∀ q : Nat, q < 4 → ∀ j : Nat, j < 16 → (j : Int) < zkN (1000000001 + q) → (List.range 77).any (fun st => (decide (st = 0) || decide (zs_sc (1000000001 + q) ((st : Int) - 1) = 32)) && (decide (zkn (1000000001 + q) st = (j : Int)) && (List.range 6).any (fun l => (decide (((st + l : Nat) : Int) = zs_sl (1000000001 + q)) || decide (zs_sc (1000000001 + q) ((st + l : Nat) : Int) = 32)) && ((List.range 6).all (fun i => !decide (i < l) || !decide (zs_sc (1000000001 + q) ((st + i : Nat) : Int) = 32)) && decide (((st + l : Nat) : Int) ≤ zs_sl (1000000001 + q)))))) = true := by decide +kernel
theorem zKs_num (q : Nat) (q4 : q < 4) (j : Nat) (hj : j < 16) (hn : (j : Int) < zkN (1000000001 + q)) : ∃ st : Nat, st < 77 ∧ (st = 0 ∨ zs_sc (1000000001 + q) ((st : Int) - 1) = 32) ∧ zkn (1000000001 + q) st = (j : Int) ∧ ∃ l : Nat, l < 6 ∧ (((st + l : Nat) : Int) = zs_sl (1000000001 + q) ∨ zs_sc (1000000001 + q) ((st + l : Nat) : Int) = 32) ∧ (∀ i : Nat, i < l → ¬ zs_sc (1000000001 + q) ((st + i : Nat) : Int) = 32) ∧ ((st + l : Nat) : Int) ≤ zs_sl (1000000001 + q) := by
  obtain ⟨st, s0, s1⟩ := zanyR (zKs_numB q q4 j hj hn)
  rw [Bool.and_eq_true, Bool.and_eq_true] at s1
  obtain ⟨a1, a2, a3⟩ := s1
  obtain ⟨l, l0, l1⟩ := zanyR a3
  rw [Bool.and_eq_true, Bool.and_eq_true] at l1
  obtain ⟨b1, b2, b3⟩ := l1
  rw [Bool.or_eq_true, decide_eq_true_eq, decide_eq_true_eq] at a1 b1
  refine ⟨st, s0, a1, of_decide_eq_true a2, l, l0, b1, fun i hi e => ?_, of_decide_eq_true b3⟩
  have := zorB (zallR b2 i (by omega)) (decide_eq_true hi)
  rw [decide_eq_true e] at this
  cases this
theorem zKs_nb : ∀ q : Nat, q < 4 → ∀ st : Nat, st < 77 → (st : Int) ≤ zs_sl (1000000001 + q) → 0 ≤ zkn (1000000001 + q) st ∧ (zkn (1000000001 + q) st < zkN (1000000001 + q)) := by decide +kernel
theorem zmp_in : ∀ q : Nat, q < 4 → ∀ j : Nat, j < 16 → ∀ i : Nat, i < j → (j : Int) < zkN (1000000001 + q) → ¬ zmp (1000000001 + q) (j : Int) = zmp (1000000001 + q) (i : Int) := by decide +kernel
theorem zs_q {r : Nat} (h : zs_str r) : ∃ q : Nat, q < 4 ∧ r = 1000000001 + q := by
  rcases zs_stc h with e | e | e | e
  · exact ⟨0, by decide, e⟩
  · exact ⟨1, by decide, e⟩
  · exact ⟨2, by decide, e⟩
  · exact ⟨3, by decide, e⟩
theorem zKs_W {r : Nat} (hr : zs_str r) {st sp : Int} (h : zKs r st sp) : (1 ≤ sp - st ∧ sp - st < 6) ∧ (∀ i : Int, 0 ≤ i → i < sp - st → 97 ≤ zs_sc r (st + i) ∧ zs_sc r (st + i) ≤ 122) ∧ ∃ s : Int, (0 ≤ s ∧ s < 128) ∧ zk_wd s.toNat = 32 ∧ zw_nx s = zmp r (zkn r st.toNat) ∧ (∀ i : Int, 0 ≤ i → i < sp - st → zk_wd (s + 1 + i).toNat = zs_sc r (st + i)) ∧ zk_wd (s + 1 + (sp - st)).toNat = 32 := by
  have hb := zs_slb hr
  obtain ⟨q, q4, e⟩ := zs_q hr
  subst e
  obtain ⟨⟨h1, h2, h3⟩, h4, h5, h6⟩ := h
  obtain ⟨S, rfl⟩ : ∃ S : Nat, st = (S : Int) := ⟨st.toNat, by omega⟩
  have l6 : sp - (S : Int) < 6 := by
    obtain ⟨l, l1, l2⟩ := zKs_len q q4 S (by omega)
    refine Classical.byContradiction (fun n => ?_)
    rcases l2 with w | w
    · omega
    · exact h6 ((S + l : Nat) : Int) (by omega) (by omega) w
  obtain ⟨l, rfl⟩ : ∃ l : Nat, sp = ((S + l : Nat) : Int) := ⟨(sp - S).toNat, by omega⟩
  obtain ⟨a1, a2, s, s0, s1, s2, s3, s4⟩ := zKs_all q q4 S (by omega) (by rcases h4 with w | w; exact Or.inl (by omega); exact Or.inr w) l (by omega) h5 (fun i hi => h6 _ (by omega) (by omega)) h3
  refine ⟨⟨by omega, l6⟩, fun i i0 i1 => ?_, (s : Int), ⟨by omega, by omega⟩, ?_, ?_, fun i i0 i1 => ?_, ?_⟩
  · have := a2 i.toNat (by omega)
    rw [show ((S + i.toNat : Nat) : Int) = (S : Int) + i by omega] at this
    exact this
  · rw [Int.toNat_natCast]; exact s1
  · show zw_nn (s : Int).toNat = _
    rw [Int.toNat_natCast, Int.toNat_natCast]; exact s2
  · have := s3 i.toNat (by omega)
    rw [show ((S + i.toNat : Nat) : Int) = (S : Int) + i by omega, show s + 1 + i.toNat = ((s : Int) + 1 + i).toNat by omega] at this
    exact this
  · rw [show ((s : Int) + 1 + (((S + l : Nat) : Int) - (S : Int))).toNat = s + 1 + l by omega]
    exact s4
theorem zKw_W {r : Nat} (hr : zs_str r) {f : Int → Int} {a b j : Int} (h : zKw r f a b j) : zWd f a b (zmp r j) ∧ a < b ∧ (∀ i : Int, a ≤ i → i < b → zlt (f i)) ∧ 0 ≤ j ∧ j < zkN r := by
  obtain ⟨st, sp, h1, h2, h3, h4⟩ := h
  obtain ⟨a1, a2, s, s0, s1, s2, s3, s4⟩ := zKs_W hr h1
  have hn : 0 ≤ zkn r st.toNat ∧ zkn r st.toNat < zkN r := by
    have hb := zs_slb hr
    obtain ⟨q, q4, e⟩ := zs_q hr
    subst e
    exact zKs_nb q q4 st.toNat (by have := h1.1; omega) (by have := h1.1; omega)
  refine ⟨⟨s, s0, s1, by rw [s2, h2], fun i i0 i1 => by rw [s3 i i0 (by omega), ← h4 i i0 i1], by rw [h3]; exact s4⟩, by omega, fun i i0 i1 => ?_, by omega, by omega⟩
  have e := h4 (i - a) (by omega) (by omega)
  rw [show a + (i - a) = i by omega] at e
  have := a2 (i - a) (by omega) (by omega)
  rw [e]
  unfold zlt
  omega
theorem zw_nxi {s t : Int} (hs : 0 ≤ s ∧ s < 128) (ht : 0 ≤ t ∧ t < 128) (s1 : zk_wd s.toNat = 32) (t1 : zk_wd t.toNat = 32) (e : zw_nx s = zw_nx t) : s = t := by
  by_cases q : s < t
  · have := zw_nxs s t ⟨hs.1, q⟩ s1
    omega
  · by_cases q2 : t < s
    · have := zw_nxs t s ⟨ht.1, q2⟩ t1
      omega
    · omega
theorem zW_Kw {r : Nat} (hr : zs_str r) {f : Int → Int} {a b j : Int} (hj : 0 ≤ j ∧ j < zkN r) (hab : a < b) (hl : ∀ i : Int, a ≤ i → i < b → zlt (f i)) (h : zWd f a b (zmp r j)) : zKw r f a b j := by
  have hb := zs_slb hr
  obtain ⟨st, sp, hk, hn⟩ : ∃ st sp : Int, zKs r st sp ∧ zkn r st.toNat = j := by
    obtain ⟨q, q4, e⟩ := zs_q hr
    subst e
    have h16 : zkN (1000000001 + q) ≤ 16 := by
      have : ∀ q : Nat, q < 4 → zkN (1000000001 + q) ≤ 16 := by decide +kernel
      exact this q q4
    obtain ⟨S, S0, S1, S2, l, l0, l1, l2, l3⟩ := zKs_num q q4 j.toNat (by omega) (by omega)
    refine ⟨(S : Int), ((S + l : Nat) : Int), ⟨⟨by omega, by omega, l3⟩, ?_, l1, fun i i0 i1 => ?_⟩, by rw [Int.toNat_natCast, S2]; omega⟩
    · rcases S1 with w | w
      · exact Or.inl (by omega)
      · exact Or.inr w
    · have := l2 (i - S).toNat (by omega)
      rw [show ((S + (i - (S : Int)).toNat : Nat) : Int) = i by omega] at this
      exact this
  obtain ⟨a1, a2, s, s0, s1, s2, s3, s4⟩ := zKs_W hr hk
  obtain ⟨t, t0, t1, t2, t3, t4⟩ := h
  rw [hn] at s2
  have e := zw_nxi s0 t0 s1 t1 (s2.trans t2.symm)
  subst e
  have l1 := zWd_l (w := zmp r j) s0 s1 t3 t4 hl hab
  obtain ⟨e1, e2, e3, e4⟩ := zwe_all s.toNat (by omega) s1
  have l2 : sp - st = (zwe s.toNat : Int) := by
    by_cases q : (zwe s.toNat : Int) < sp - st
    · have := s3 (zwe s.toNat : Int) (by omega) q
      rw [show (s + 1 + (zwe s.toNat : Int)).toNat = s.toNat + 1 + zwe s.toNat by omega, e3] at this
      have := a2 (zwe s.toNat : Int) (by omega) q
      omega
    · by_cases q2 : sp - st < (zwe s.toNat : Int)
      · have := e4 (sp - st).toNat (by omega)
        rw [show s.toNat + 1 + (sp - st).toNat = (s + 1 + (sp - st)).toNat by omega] at this
        exact absurd s4 this
      · omega
  exact ⟨st, sp, hk, hn, by omega, fun i i0 i1 => by rw [← t3 i i0 i1, s3 i i0 (by omega)]⟩
theorem zKw_u {r : Nat} (hr : zs_str r) {f : Int → Int} {a b j k : Int} (h : zKw r f a b j) (h2 : zKw r f a b k) : j = k := by
  obtain ⟨w1, ab, l, j0, j1⟩ := zKw_W hr h
  obtain ⟨w2, -, -, k0, k1⟩ := zKw_W hr h2
  have e := zWd_u l ab w1 w2
  obtain ⟨q, q4, eq⟩ := zs_q hr
  subst eq
  have h16 : zkN (1000000001 + q) ≤ 16 := by
    have : ∀ q : Nat, q < 4 → zkN (1000000001 + q) ≤ 16 := by decide +kernel
    exact this q q4
  by_cases c : j < k
  · have := zmp_in q q4 k.toNat (by omega) j.toNat (by omega) (by omega)
    rw [show ((k.toNat : Nat) : Int) = k by omega, show ((j.toNat : Nat) : Int) = j by omega] at this
    exact absurd e.symm this
  · by_cases c2 : k < j
    · have := zmp_in q q4 j.toNat (by omega) k.toNat (by omega) (by omega)
      rw [show ((k.toNat : Nat) : Int) = k by omega, show ((j.toNat : Nat) : Int) = j by omega] at this
      exact absurd e this
    · omega
-- STARTS of tokens
noncomputable def zSt (f : Int → Int) (a : Int) : Prop := ¬ zbk (f a) ∧ ¬ (0 < a ∧ ((zlt (f a) ∧ zlt (f (a - 1))) ∨ (zdt (f a) ∧ zdt (f (a - 1)))))
/-- the class's token at a place: kind and value -/
noncomputable def zCk (r : Nat) (f : Int → Int) (n a kd vl : Int) : Prop := (zlt (f a) ∧ ∃ b : Int, zrn zlt f n a b ∧ ((kd = 2 ∧ zKw r f a b vl) ∨ (kd = 0 ∧ ∀ j : Int, ¬ zKw r f a b j))) ∨ (zdt (f a) ∧ ∃ b : Int, zrn zdt f n a b ∧ ((kd = 1 ∧ b - a < 5 ∧ vl = zdec f a (b - a).toNat) ∨ (kd = 0 ∧ 5 ≤ b - a))) ∨ (¬ zlt (f a) ∧ ¬ zdt (f a) ∧ ((kd = 3 ∧ zsg (f a) ∧ vl = f a) ∨ (kd = 0 ∧ ¬ zsg (f a))))
/-- the rows of tokens, c of them, all that begin before m -/
noncomputable def zSi (r : Nat) (f : Int → Int) (n : Int) (K V A : Int → Int) (c m : Int) : Prop := (∀ t : Int, 0 ≤ t → t < c → (0 ≤ A t ∧ A t < m) ∧ zSt f (A t) ∧ zCk r f n (A t) (K t) (V t)) ∧ (∀ t : Int, 0 ≤ t → t + 1 < c → A t < A (t + 1) ∧ ∀ a : Int, A t < a → a < A (t + 1) → ¬ zSt f a) ∧ (∀ a : Int, 0 ≤ a → a < m → (c = 0 ∨ a < A 0 ∨ (1 ≤ c ∧ A (c - 1) < a)) → ¬ zSt f a)
noncomputable def zSp (r : Nat) (f : Int → Int) (n : Int) (K V A : Int → Int) (c : Int) : Prop := 1 ≤ c ∧ zSi r f n K V A (c - 1) n ∧ A (c - 1) = n ∧ K (c - 1) = 4
/-- a token's inside holds no start, and what comes next is one -/
theorem zTn_in {f : Int → Int} {n p a b k v x : Int} (h : zTn f n p a b k v) (ha : 0 ≤ a) (x0 : a < x) (x1 : x < b) : ¬ zSt f x := fun s => by
  obtain ⟨-, h5⟩ := h
  rcases h5 with ⟨y1, y2, y3⟩ | ⟨y1, y2, y3, y4⟩ | ⟨y1, y2, y3, y4⟩ | ⟨y1, y2, y3, y4, y5, y6⟩
  · omega
  · exact s.2 ⟨by omega, Or.inl ⟨y3.2.1 x (by omega) x1, y3.2.1 (x - 1) (by omega) (by omega)⟩⟩
  · exact s.2 ⟨by omega, Or.inr ⟨y3.2.1 x (by omega) x1, y3.2.1 (x - 1) (by omega) (by omega)⟩⟩
  · omega
theorem zbk_n {c : Int} (h : zbk c) : ¬ zlt c ∧ ¬ zdt c := by
  unfold zbk at h
  unfold zlt zdt
  omega
theorem zTn_nx {f : Int → Int} {n p a b k v a' b' k' v' : Int} (ha : 0 ≤ a) (h : zTn f n p a b k v) (hn : a < n) (h2 : zTn f n b a' b' k' v') (q : a' < n) : zSt f a' := by
  obtain ⟨-, h5⟩ := h
  obtain ⟨⟨k1, k2, k3, k4⟩, -⟩ := h2
  have ab : a < b := by
    rcases h5 with ⟨y1, y2, y3⟩ | ⟨y1, y2, y3, y4⟩ | ⟨y1, y2, y3, y4⟩ | ⟨y1, y2, y3, y4, y5, y6⟩
    · omega
    · exact y3.1.1
    · exact y3.1.1
    · omega
  refine ⟨k4 q, fun w => ?_⟩
  by_cases e : a' = b
  · rw [e] at w q
    rcases h5 with ⟨y1, y2, y3⟩ | ⟨y1, y2, y3, y4⟩ | ⟨y1, y2, y3, y4⟩ | ⟨y1, y2, y3, y4, y5, y6⟩
    · omega
    · rcases w.2 with ⟨w1, w2⟩ | ⟨w1, w2⟩
      · exact y3.2.2 q w1
      · exact zld (y3.2.1 (b - 1) (by omega) (by omega)) w2
    · rcases w.2 with ⟨w1, w2⟩ | ⟨w1, w2⟩
      · exact zld w2 (y3.2.1 (b - 1) (by omega) (by omega))
      · exact y3.2.2 q w1
    · rw [show b - 1 = a by omega] at w
      rcases w.2 with ⟨w1, w2⟩ | ⟨w1, w2⟩
      · exact y2 w2
      · exact y3 w2
  · have := zbk_n (k3 (a' - 1) (by omega) (by omega))
    rcases w.2 with ⟨w1, w2⟩ | ⟨w1, w2⟩
    · exact this.1 w2
    · exact this.2 w2
theorem zSp_A {r : Nat} {f : Int → Int} {n : Int} {K V A : Int → Int} {c : Int} (h : zSp r f n K V A c) {t : Int} (ht : 0 ≤ t ∧ t < c - 1) : (0 ≤ A t ∧ A t < n) ∧ A t < A (t + 1) ∧ A (t + 1) ≤ n ∧ (∀ a : Int, A t < a → a < A (t + 1) → ¬ zSt f a) ∧ (A (t + 1) < n → zSt f (A (t + 1))) := by
  obtain ⟨h1, ⟨i1, i2, i3⟩, h3, h4⟩ := h
  have a1 := i1 t ht.1 ht.2
  by_cases q : t + 1 < c - 1
  · have a2 := i2 t ht.1 q
    have a3 := i1 (t + 1) (by omega) q
    exact ⟨a1.1, a2.1, by omega, a2.2, fun _ => a3.2.1⟩
  · have e : t + 1 = c - 1 := by omega
    rw [e, h3]
    refine ⟨a1.1, a1.1.2, Int.le_refl _, fun a x y => i3 a (by omega) y (Or.inr (Or.inr ⟨by omega, ?_⟩)), fun w => by omega⟩
    rw [show c - 1 - 1 = t by omega]
    exact x
theorem zNx {r : Nat} {f : Int → Int} {n : Int} {K V A : Int → Int} {c : Int} (h : zSp r f n K V A c) {t p b k v a' b' k' v' : Int} (ht : 0 ≤ t ∧ t < c - 1) (h1 : zTn f n p (A t) b k v) (h2 : zTn f n b a' b' k' v') : a' = A (t + 1) := by
  obtain ⟨z1, z2, z3, z4, z5⟩ := zSp_A h ht
  have bb : A t < b ∧ b ≤ a' ∧ a' ≤ n := by
    have h5 := h1.2
    have k1 := h2.1
    refine ⟨?_, k1.1, k1.2.1⟩
    rcases h5 with ⟨y1, y2, y3⟩ | ⟨y1, y2, y3, y4⟩ | ⟨y1, y2, y3, y4⟩ | ⟨y1, y2, y3, y4, y5, y6⟩
    · omega
    · exact y3.1.1
    · exact y3.1.1
    · omega
  by_cases q : a' < A (t + 1)
  · exact absurd (zTn_nx z1.1 h1 z1.2 h2 (by omega)) (z4 a' (by omega) q)
  · by_cases q2 : A (t + 1) < a'
    · have s := z5 (by omega)
      by_cases q3 : A (t + 1) < b
      · exact absurd s (zTn_in h1 z1.1 z2 q3)
      · exact absurd (h2.1.2.2.1 (A (t + 1)) (by omega) q2) s.1
    · omega
theorem zN0 {r : Nat} {f : Int → Int} {n : Int} {K V A : Int → Int} {c : Int} (h : zSp r f n K V A c) {a b k v : Int} (h1 : zTn f n 0 a b k v) : a = A 0 := by
  obtain ⟨c1, ⟨i1, i2, i3⟩, h3, h4⟩ := h
  have sa : a < n → zSt f a := fun q => ⟨h1.1.2.2.2 q, fun w => by
    have := zbk_n (h1.1.2.2.1 (a - 1) (by omega) (by omega))
    rcases w.2 with ⟨w1, w2⟩ | ⟨w1, w2⟩
    · exact this.1 w2
    · exact this.2 w2⟩
  have an := h1.1
  by_cases c0 : c = 1
  · rw [c0] at h3 i3
    rw [show (1 : Int) - 1 = 0 from rfl] at h3 i3
    rw [h3]
    by_cases q : a < n
    · exact absurd (sa q) (i3 a an.1 q (Or.inl rfl))
    · omega
  · have a0 := i1 0 (by omega) (by omega)
    by_cases q : a < A 0
    · exact absurd (sa (by omega)) (i3 a an.1 (by omega) (Or.inr (Or.inl q)))
    · by_cases q2 : A 0 < a
      · exact absurd (an.2.2.1 (A 0) a0.1.1 q2) a0.2.1.1
      · omega
/-- kinds and values of both sides -/
theorem zTC {r : Nat} (hr : zs_str r) {f : Int → Int} {n : Int} {K V A : Int → Int} {c : Int} (h : zSp r f n K V A c) {t p b k v : Int} (ht : 0 ≤ t ∧ t < c) (h1 : zTn f n p (A t) b k v) : (k = 0 ↔ K t = 4) ∧ (k = 3 ↔ K t = 1) ∧ (k = 4 ↔ K t = 3) ∧ (k = 3 ∨ k = 4 → v = V t) ∧ ∀ j : Int, 0 ≤ j → j < zkN r → ((k = 2 ∧ v = zmp r j) ↔ (K t = 2 ∧ V t = j)) := by
  obtain ⟨c1, ⟨i1, i2, i3⟩, h3, h4⟩ := h
  by_cases q : t < c - 1
  · have a1 := i1 t ht.1 q
    obtain ⟨⟨l0, l1⟩, -, ck⟩ := a1
    obtain ⟨-, h5⟩ := h1
    rcases h5 with ⟨y1, y2, y3⟩ | ⟨y1, y2, y3, y4⟩ | ⟨y1, y2, y3, y4⟩ | ⟨y1, y2, y3, y4, y5, y6⟩
    · exfalso; omega
    · rcases ck with ⟨x1, b1, x2, x3⟩ | ⟨x1, -⟩ | ⟨x1, -⟩
      · have eb := zrn_u y3 x2
        subst eb
        have ab := y3.1.1
        have ls := y3.2.1
        rcases x3 with ⟨x4, x5⟩ | ⟨x4, x5⟩
        · obtain ⟨w1, -, -, w4, w5⟩ := zKw_W hr x5
          rcases y4 with ⟨y5, y6⟩ | ⟨y5, y6⟩
          · have ev := zWd_u ls ab y6 w1
            refine ⟨by omega, by omega, by omega, fun w => by omega, fun j j0 j1 => ⟨fun w => ⟨x4, ?_⟩, fun w => ⟨y5, ?_⟩⟩⟩
            · have := w.2
              rw [this] at y6
              exact zKw_u hr x5 (zW_Kw hr ⟨j0, j1⟩ ab ls y6)
            · rw [ev, w.2]
          · exact absurd w1 (y6 _)
        · rcases y4 with ⟨y5, y6⟩ | ⟨y5, y6⟩
          · refine ⟨by omega, by omega, by omega, fun w => by omega, fun j j0 j1 => ⟨fun w => ?_, fun w => by omega⟩⟩
            rw [w.2] at y6
            exact absurd (zW_Kw hr ⟨j0, j1⟩ ab ls y6) (x5 j)
          · exact ⟨by omega, by omega, by omega, fun w => by omega, fun j j0 j1 => ⟨fun w => by omega, fun w => by omega⟩⟩
      · exact absurd x1 (zld y2)
      · exact absurd y2 x1
    · rcases ck with ⟨x1, -⟩ | ⟨x1, b1, x2, x3⟩ | ⟨x1, x2, -⟩
      · exact absurd y2 (zld x1)
      · have eb := zrn_u y3 x2
        subst eb
        rcases x3 with ⟨x4, x5, x6⟩ | ⟨x4, x5⟩ <;> rcases y4 with ⟨z1, z2, z3⟩ | ⟨z1, z2⟩
        · exact ⟨by omega, by omega, by omega, fun w => by rw [z3, x6], fun j j0 j1 => ⟨fun w => by omega, fun w => by omega⟩⟩
        · exfalso; omega
        · exfalso; omega
        · exact ⟨by omega, by omega, by omega, fun w => by omega, fun j j0 j1 => ⟨fun w => by omega, fun w => by omega⟩⟩
      · exact absurd y2 x2
    · rcases ck with ⟨x1, -⟩ | ⟨x1, -⟩ | ⟨x1, x2, x3⟩
      · exact absurd x1 y2
      · exact absurd x1 y3
      · rcases x3 with ⟨x4, x5, x6⟩ | ⟨x4, x5⟩ <;> rcases y6 with ⟨z1, z2⟩ | ⟨z1, z2⟩
        · exact ⟨by omega, by omega, by omega, fun w => by rw [y5, x6], fun j j0 j1 => ⟨fun w => by omega, fun w => by omega⟩⟩
        · exact absurd x5 z1
        · exact absurd z1 x5
        · exact ⟨by omega, by omega, by omega, fun w => by omega, fun j j0 j1 => ⟨fun w => by omega, fun w => by omega⟩⟩
  · have e : t = c - 1 := by omega
    subst e
    obtain ⟨-, h5⟩ := h1
    rw [h3] at h5
    rcases h5 with ⟨y1, y2, y3⟩ | ⟨y1, -⟩ | ⟨y1, -⟩ | ⟨y1, -⟩
    · exact ⟨by omega, by omega, by omega, fun w => by omega, fun j j0 j1 => ⟨fun w => by omega, fun w => by omega⟩⟩
    · exfalso; omega
    · exfalso; omega
    · exfalso; omega
theorem zSi_no {r : Nat} {f : Int → Int} {n : Int} {K V A : Int → Int} {c i : Int} (h : zSi r f n K V A c i) (hn : ¬ zSt f i) : zSi r f n K V A c (i + 1) := by
  obtain ⟨h1, h2, h3⟩ := h
  refine ⟨fun t t0 t1 => ?_, h2, fun a a0 a1 w => ?_⟩
  · have := h1 t t0 t1
    exact ⟨⟨this.1.1, by omega⟩, this.2⟩
  · by_cases q : a = i
    · rw [q]; exact hn
    · exact h3 a a0 (by omega) w
theorem zSi_add {r : Nat} {f : Int → Int} {n : Int} {K V A : Int → Int} {c i kd vl : Int} (h : zSi r f n K V A c i) (hc : 0 ≤ c) (hi : 0 ≤ i) (hs : zSt f i) (hk : zCk r f n i kd vl) : zSi r f n (zup K c kd) (zup V c vl) (zup A c i) (c + 1) (i + 1) := by
  obtain ⟨h1, h2, h3⟩ := h
  refine ⟨fun t t0 t1 => ?_, fun t t0 t1 => ?_, fun a a0 a1 w => ?_⟩
  · by_cases q : t = c
    · rw [q, zup_e, zup_e, zup_e]
      exact ⟨⟨hi, by omega⟩, hs, hk⟩
    · rw [zup_n q, zup_n q, zup_n q]
      have := h1 t t0 (by omega)
      exact ⟨⟨this.1.1, by omega⟩, this.2⟩
  · by_cases q : t + 1 = c
    · have a1 := h1 t t0 (by omega)
      rw [q, zup_e, zup_n (show ¬ t = c by omega)]
      refine ⟨a1.1.2, fun a x y => h3 a (by have := a1.1.1; omega) y (Or.inr (Or.inr ⟨by omega, ?_⟩))⟩
      rw [show c - 1 = t by omega]
      exact x
    · rw [zup_n (show ¬ t = c by omega), zup_n q]
      exact h2 t t0 (by omega)
  · rcases w with w | w | ⟨w1, w2⟩
    · omega
    · by_cases q : c = 0
      · rw [← q, zup_e] at w
        exact h3 a a0 w (Or.inl q)
      · rw [zup_n (show ¬ (0 : Int) = c by omega)] at w
        have a1 := h1 0 (by omega) (by omega)
        exact h3 a a0 (by omega) (Or.inr (Or.inl w))
    · rw [show c + 1 - 1 = c by omega, zup_e] at w2
      omega
theorem zSi_0 {r : Nat} {f : Int → Int} {n : Int} {K V A : Int → Int} : zSi r f n K V A 0 0 := ⟨fun t t0 t1 => by exfalso; omega, fun t t0 t1 => by exfalso; omega, fun a a0 a1 w => by exfalso; omega⟩
theorem zSp_of {r : Nat} {f : Int → Int} {n : Int} {K V A : Int → Int} {c v : Int} (h : zSi r f n K V A c n) (hc : 0 ≤ c) : zSp r f n (zup K c 4) (zup V c v) (zup A c n) (c + 1) := by
  obtain ⟨h1, h2, h3⟩ := h
  refine ⟨by omega, ?_, by rw [show c + 1 - 1 = c by omega, zup_e], by rw [show c + 1 - 1 = c by omega, zup_e]⟩
  rw [show c + 1 - 1 = c by omega]
  refine ⟨fun t t0 t1 => ?_, fun t t0 t1 => ?_, fun a a0 a1 w => h3 a a0 a1 ?_⟩
  · rw [zup_n (show ¬ t = c by omega), zup_n (show ¬ t = c by omega), zup_n (show ¬ t = c by omega)]
    exact h1 t t0 t1
  · rw [zup_n (show ¬ t = c by omega), zup_n (show ¬ t + 1 = c by omega)]
    exact h2 t t0 t1
  · rcases w with w | w | ⟨w1, w2⟩
    · exact Or.inl w
    · by_cases q : c = 0
      · exact Or.inl q
      · rw [zup_n (show ¬ (0 : Int) = c by omega)] at w
        exact Or.inr (Or.inl w)
    · rw [zup_n (show ¬ c - 1 = c by omega)] at w2
      exact Or.inr (Or.inr ⟨w1, w2⟩)
theorem zadd_l {g g3 g5 g7 g8 : zi_M} {a b d x : Int} (e8 : g8 = zi_u g7 191 3 x) (e7 : g7 = zi_u g5 194 (g5 191 3) d) (e5 : g5 = zi_u g3 193 (g3 191 3) b) (e3 : g3 = zi_u g 192 (g 191 3) a) : g8 192 = zup (g 192) (g 191 3) a ∧ g8 193 = zup (g 193) (g 191 3) b ∧ g8 194 = zup (g 194) (g 191 3) d := by
  have c3 : g3 191 3 = g 191 3 := by rw [e3]; exact zi_u_ne (by decide)
  have c5 : g5 191 3 = g 191 3 := by rw [e5, zi_u_ne (by decide)]; exact c3
  refine ⟨?_, ?_, ?_⟩
  · rw [e8, zi_u_row (by decide), e7, zi_u_row (by decide), e5, zi_u_row (by decide), e3, zup_u]
  · rw [e8, zi_u_row (by decide), e7, zi_u_row (by decide), e5, zup_u, c3, e3, zi_u_row (by decide)]
  · rw [e8, zi_u_row (by decide), e7, zup_u, c5, e5, zi_u_row (by decide), e3, zi_u_row (by decide)]
/-- a run there is -/
theorem zrn_ex {P : Int → Prop} {f : Int → Int} {n a : Int} (h : a < n) (hp : P (f a)) : ∃ b : Int, zrn P f n a b := by
  have st : ∀ m : Nat, (∃ b : Int, zrn P f n a b) ∨ (∀ i : Int, a ≤ i → i < a + 1 + m → i < n ∧ P (f i)) := by
    intro m
    induction m with
    | zero => exact Or.inr (fun i i0 i1 => by rw [show i = a by omega]; exact ⟨h, hp⟩)
    | succ m ih =>
      rcases ih with w | w
      · exact Or.inl w
      · have l := w (a + m) (by omega) (by omega)
        by_cases q : a + 1 + (m : Int) < n
        · by_cases z : P (f (a + 1 + m))
          · refine Or.inr (fun i i0 i1 => ?_)
            by_cases e : i = a + 1 + m
            · rw [e]; exact ⟨q, z⟩
            · exact w i i0 (by omega)
          · exact Or.inl ⟨a + 1 + m, ⟨by omega, by omega⟩, fun i i0 i1 => (w i i0 i1).2, fun _ => z⟩
        · exact Or.inl ⟨a + 1 + m, ⟨by omega, by omega⟩, fun i i0 i1 => (w i i0 i1).2, fun y => absurd y q⟩
  rcases st (n - a).toNat with w | w
  · exact w
  · have := (w n (by omega) (by omega)).1
    omega
theorem zdec_0 {f : Int → Int} {n a b : Int} (r : zrn zdt f n a b) : 0 ≤ zdec f a (b - a).toNat := by
  have st : ∀ m : Nat, (m : Int) ≤ b - a → 0 ≤ zdec f a m := by
    intro m
    induction m with
    | zero => intro _; exact Int.le_refl _
    | succ m ih =>
      intro hm
      have i1 := ih (by omega)
      have i2 := r.2.1 (a + m) (by omega) (by omega)
      unfold zdt at i2
      unfold zdec
      omega
  exact st _ (by have := r.1.1; omega)
noncomputable def zSl (f : Int → Int) (r : Nat) (a st sp : Int) : Prop := ∀ i : Int, st ≤ i → i < sp → f (a + i - st) = zs_sc r i
theorem zSl_s {f : Int → Int} {r : Nat} {a st i : Int} (h : zSl f r a st i) (e : f (a + i - st) = zs_sc r i) : zSl f r a st (i + 1) := fun j j0 j1 => by
  by_cases q : j = i
  · rw [q]; exact e
  · exact h j j0 (by omega)
theorem zSl_0 {f : Int → Int} {r : Nat} {a st : Int} : zSl f r a st st := fun j j0 j1 => by exfalso; omega
theorem zSl_n {f : Int → Int} {r : Nat} {a st sp i : Int} (h0 : st ≤ i) (h1 : i < sp) (e : ¬ f (a + i - st) = zs_sc r i) : ¬ zSl f r a st sp := fun h => e (h i h0 h1)
theorem zSl_x {f : Int → Int} {r : Nat} {a st sp i : Int} (h : zSl f r a st i) (e : sp ≤ i) : zSl f r a st sp := fun j j0 j1 => h j j0 (by omega)
theorem zKs_u {r : Nat} {st tt sp : Int} (h : zKs r st sp) (k : zKs r tt sp) : st = tt := by
  obtain ⟨⟨h1, h2, h3⟩, h4, h5, h6⟩ := h
  obtain ⟨⟨k1, k2, k3⟩, k4, k5, k6⟩ := k
  by_cases q : st < tt
  · rcases k4 with w | w
    · omega
    · exact absurd w (h6 (tt - 1) (by omega) (by omega))
  · by_cases q2 : tt < st
    · rcases h4 with w | w
      · omega
      · exact absurd w (k6 (st - 1) (by omega) (by omega))
    · omega
/-- what the search for a keyword keeps -/
noncomputable def zKv (r : Nat) (f : Int → Int) (a n l4 l5 l6 : Int) : Prop := (0 ≤ l5 ∧ l5 ≤ l6 ∧ l6 ≤ zs_sl r + 1) ∧ (0 ≤ l4 ∧ l4 ≤ l6) ∧ (l5 ≤ zs_sl r → l4 = zkn r l5.toNat ∧ (l5 = 0 ∨ zs_sc r (l5 - 1) = 32)) ∧ (∀ i : Int, l5 ≤ i → i < l6 → ¬ zs_sc r i = 32) ∧ (∀ b : Int, zrn zlt f n a b → ∀ st sp : Int, zKs r st sp → sp < l6 → ¬ zKm r f a b st sp)
theorem zKv_0 {r : Nat} {f : Int → Int} {a n : Int} (h : 0 ≤ zs_sl r) : zKv r f a n 0 0 0 := ⟨⟨by omega, by omega, by omega⟩, ⟨by omega, by omega⟩, fun _ => ⟨rfl, Or.inl rfl⟩, fun i i0 i1 => by exfalso; omega, fun b _ st sp k q => by have := k.1; exfalso; omega⟩
theorem zKv_ch {r : Nat} {f : Int → Int} {a n l4 l5 l6 : Int} (h : zKv r f a n l4 l5 l6) (h1 : l6 < zs_sl r) (h2 : ¬ zs_sc r l6 = 32) : zKv r f a n l4 l5 (l6 + 1) := by
  obtain ⟨a1, a2, a3, a4, a5⟩ := h
  refine ⟨⟨by omega, by omega, by omega⟩, ⟨by omega, by omega⟩, a3, fun i i0 i1 => ?_, fun b hb st sp k q => ?_⟩
  · by_cases e : i = l6
    · rw [e]; exact h2
    · exact a4 i i0 (by omega)
  · by_cases e : sp = l6
    · rw [e] at k
      rcases k.2.2.1 with w | w
      · omega
      · exact absurd w h2
    · exact a5 b hb st sp k (by omega)
theorem zKv_w {r : Nat} {f : Int → Int} {a n l4 l5 l6 : Int} (h : zKv r f a n l4 l5 l6) (h1 : l6 = zs_sl r ∨ (l6 < zs_sl r ∧ zs_sc r l6 = 32)) (hl : l5 ≤ zs_sl r) : zKs r l5 l6 := by
  obtain ⟨a1, a2, a3, a4, a5⟩ := h
  refine ⟨⟨by omega, by omega, by omega⟩, (a3 hl).2, ?_, a4⟩
  rcases h1 with w | w
  · exact Or.inl w
  · exact Or.inr w.2
theorem zkn_c {r : Nat} {l5 l6 : Int} (h0 : 0 ≤ l5) (h1 : l5 ≤ l6) (h : ∀ i : Int, l5 ≤ i → i < l6 → ¬ zs_sc r i = 32) : zkn r l6.toNat = zkn r l5.toNat := by
  have st : ∀ m : Nat, l5 + (m : Int) ≤ l6 → zkn r (l5.toNat + m) = zkn r l5.toNat := by
    intro m
    induction m with
    | zero => intro _; rfl
    | succ m ih =>
      intro hm
      show zkn r (l5.toNat + m) + (if zs_sc r ((l5.toNat + m : Nat) : Int) = 32 then 1 else 0) = _
      have := h (l5 + m) (by omega) (by omega)
      rw [show ((l5.toNat + m : Nat) : Int) = l5 + m by omega, if_neg this, ih (by omega)]
      omega
  have := st (l6 - l5).toNat (by omega)
  rw [show l5.toNat + (l6 - l5).toNat = l6.toNat by omega] at this
  exact this
theorem zKv_n {r : Nat} {f : Int → Int} {a n l4 l5 l6 : Int} (h : zKv r f a n l4 l5 l6) (hl : l5 ≤ zs_sl r) (h1 : l6 = zs_sl r ∨ (l6 < zs_sl r ∧ zs_sc r l6 = 32)) (hn : ∀ b : Int, zrn zlt f n a b → ¬ zKm r f a b l5 l6) : zKv r f a n (l4 + 1) (l6 + 1) (l6 + 1) := by
  have w := zKv_w h h1 hl
  obtain ⟨a1, a2, a3, a4, a5⟩ := h
  refine ⟨⟨by omega, by omega, by omega⟩, ⟨by omega, by omega⟩, fun q => ?_, fun i i0 i1 => by exfalso; omega, fun b hb st sp k q => ?_⟩
  · have e32 : zs_sc r l6 = 32 := by
      rcases h1 with z | z
      · omega
      · exact z.2
    refine ⟨?_, Or.inr (by rw [show l6 + 1 - 1 = l6 by omega]; exact e32)⟩
    rw [show (l6 + 1).toNat = l6.toNat + 1 by omega]
    show _ = zkn r l6.toNat + (if zs_sc r (l6.toNat : Int) = 32 then 1 else 0)
    rw [show ((l6.toNat : Nat) : Int) = l6 by omega, if_pos e32, zkn_c a1.1 a1.2.1 a4, (a3 hl).1]
  · by_cases e : sp = l6
    · rw [e] at k ⊢
      rw [zKs_u k w]
      exact hn b hb
    · exact a5 b hb st sp k (by omega)
/-- where a keyword stands whole, the run of letters ends -/
theorem zKm_r {r : Nat} (hr : zs_str r) {f : Int → Int} {a n st sp : Int} (k : zKs r st sp) (hs : zSl f r a st sp) (hn : a + sp - st ≤ n) (he : a + sp - st < n → ¬ zlt (f (a + sp - st))) : zrn zlt f n a (a + sp - st) ∧ zKm r f a (a + sp - st) st sp := by
  obtain ⟨l, c, -⟩ := zKs_W hr k
  refine ⟨⟨⟨by omega, hn⟩, fun i i0 i1 => ?_, he⟩, by omega, fun i i0 i1 => ?_⟩
  · have := hs (st + (i - a)) (by omega) (by omega)
    rw [show a + (st + (i - a)) - st = i by omega] at this
    have c1 := c (i - a) (by omega) (by omega)
    rw [this]
    unfold zlt
    omega
  · have := hs (st + i) (by omega) (by omega)
    rw [show a + (st + i) - st = a + i by omega] at this
    exact this
theorem zKm_s {r : Nat} {f : Int → Int} {a b st sp : Int} (h : zKm r f a b st sp) : zSl f r a st sp ∧ b = a + sp - st := by
  refine ⟨fun i i0 i1 => ?_, by have := h.1; omega⟩
  have := h.2 (i - st) (by omega) (by have := h.1; omega)
  rw [show a + (i - st) = a + i - st by omega, show st + (i - st) = i by omega] at this
  exact this
theorem zal_j {f : Int → Int} {P : Int → Prop} {a i : Int} (h : ∀ j : Int, a ≤ j → j < i → P (f j)) (hp : P (f i)) : ∀ j : Int, a ≤ j → j < i + 1 → P (f j) := fun j j0 j1 => by
  by_cases q : j = i
  · rw [q]; exact hp
  · exact h j j0 (by omega)
theorem zdec_i {f : Int → Int} {a i : Int} (h : i = a) : (0 : Int) = zdec f a (i - a).toNat := by
  rw [h, show (a - a).toNat = 0 by omega]
  rfl
theorem znm_x {x y b : Int} (h : b < 5 ∧ x = y) : (b < 5 → x = y) ∧ (5 ≤ b → x = -1) := ⟨fun _ => h.2, fun q => by have := h.1; omega⟩
theorem znm_y {y b : Int} (h : 5 ≤ b) : (b < 5 → (-1 : Int) = y) ∧ (5 ≤ b → (-1 : Int) = -1) := ⟨fun q => by omega, fun _ => rfl⟩
