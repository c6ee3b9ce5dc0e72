-- ENDS: gutters followed, class against reference
noncomputable def zeg (g : zi_M) (p : Int) : Int := if 0 ≤ p ∧ p < 10 then g 29 p else -1
theorem zeg_v {g : zi_M} {l v : Int} (a : l < 0 → v = -1) (b : 0 ≤ l → 10 ≤ l → v = -1) (c : 0 ≤ l → l < 10 → v = g 29 l) : v = zeg g l := by
  unfold zeg
  by_cases h : 0 ≤ l ∧ l < 10
  · rw [if_pos h]; exact c h.1 h.2
  · rw [if_neg h]
    by_cases k : l < 0
    · exact a k
    · exact b (by omega) (by omega)
theorem zeg_b {g : zi_M} (I : zk_I g) (p : Int) : -1 ≤ zeg g p ∧ zeg g p ≤ 9 := by
  have h : -1 ≤ g 29 p ∧ g 29 p ≤ 9 := I.1 29 p
  unfold zeg
  by_cases k : 0 ≤ p ∧ p < 10
  · rw [if_pos k]; exact h
  · rw [if_neg k]; omega
theorem zeg_m (g : zi_M) : zeg g (-1) = -1 := by
  unfold zeg
  rw [if_neg (by omega)]
theorem zit_B {c : Int → Int} (cb : ∀ k : Int, -1 ≤ c k ∧ c k ≤ 9) {p : Int} (hp : -1 ≤ p ∧ p ≤ 9) : ∀ n : Nat, -1 ≤ zit c n p ∧ zit c n p ≤ 9
  | 0 => hp
  | n + 1 => cb _
theorem zit_m {c : Int → Int} (cm : c (-1) = -1) {p : Int} {n : Nat} (h : zit c n p = -1) : ∀ j : Nat, zit c (n + j) p = -1
  | 0 => h
  | j + 1 => by
    show c (zit c (n + j) p) = -1
    rw [zit_m cm h j, cm]
/-- what ten steps from q meet, as bits -/
noncomputable def zeR (c : Int → Int) (q s : Int) : Prop := zBr s ∧ ∀ j : Int, 0 ≤ j → (zB_ s j ↔ ∃ i : Nat, i < 10 ∧ zit c i q = j)
noncomputable def zRc (c : Int → Int) (q n s a : Int) : Prop := zBr s ∧ (∀ j : Int, 0 ≤ j → (zB_ s j ↔ ∃ i : Nat, (i : Int) < n ∧ zit c i q = j)) ∧ a = zit c n.toNat q
theorem zRc_0 {c : Int → Int} {q : Int} : zRc c q 0 0 q := ⟨⟨by decide, by decide⟩, fun j _ => ⟨fun h => absurd h (zB_0 j), fun ⟨i, hi, _⟩ => by exfalso; omega⟩, rfl⟩
theorem zRc_s {c : Int → Int} {q n s a v : Int} (h : zRc c q n s a) (n0 : 0 ≤ n) (a0 : 0 ≤ a ∧ a ≤ 9) (e : v = c a) : zRc c q (n + 1) (zi_or s (zi_shl 1 a)) v := by
  obtain ⟨h1, h2, h3⟩ := h
  have hs := zB_shlN (j := a) ⟨a0.1, by omega⟩
  refine ⟨(zB_orN h1 hs.1).1, fun j j0 => ?_, ?_⟩
  · rw [zB_add h1 ⟨a0.1, by omega⟩ j0, h2 j j0]
    constructor
    · rintro (⟨i, hi, k⟩ | k)
      · exact ⟨i, by omega, k⟩
      · exact ⟨n.toNat, by omega, by rw [k, h3]⟩
    · rintro ⟨i, hi, k⟩
      by_cases w : (i : Int) < n
      · exact Or.inl ⟨i, w, k⟩
      · have : i = n.toNat := by omega
        right
        rw [← k, h3, this]
  · rw [e, h3, show (n + 1).toNat = n.toNat + 1 by omega]
    rfl
theorem zRc_10 {c : Int → Int} {q n s a : Int} (h : zRc c q n s a) (e : n = 10) : zeR c q s := ⟨h.1, fun j j0 => by
  rw [h.2.1 j j0]
  subst e
  exact ⟨fun ⟨i, hi, k⟩ => ⟨i, by omega, k⟩, fun ⟨i, hi, k⟩ => ⟨i, by omega, k⟩⟩⟩
theorem zRc_m {c : Int → Int} (cm : c (-1) = -1) {q n s a : Int} (n0 : 0 ≤ n) (n1 : n ≤ 10) (h : zRc c q n s a) (e : a = -1) : zeR c q s := ⟨h.1, fun j j0 => by
  rw [h.2.1 j j0]
  refine ⟨fun ⟨i, hi, k⟩ => ⟨i, by omega, k⟩, fun ⟨i, hi, k⟩ => ⟨i, ?_, k⟩⟩
  by_cases w : (i : Int) < n
  · exact w
  · exfalso
    have z := zit_m cm (n := n.toNat) (p := q) (by rw [← h.2.2]; exact e) (i - n.toNat)
    rw [show n.toNat + (i - n.toNat) = i by omega, k] at z
    omega⟩
noncomputable def zeL (c : Int → Int) (p s : Int) : Prop := ∃ t : Nat, t ≤ 10 ∧ (∀ i : Nat, i ≤ t → zit c i p ≠ -1) ∧ (t = 10 ∨ c (zit c t p) = -1) ∧ zeR c (zit c t p) s
noncomputable def zEo (c : Int → Int) (p v : Int) : Prop := ∃ m : Int, zeL c p m ∧ 0 ≤ v ∧ v ≤ 10 ∧ (v < 10 → zB_ m v) ∧ ∀ j : Int, 0 ≤ j → j < v → ¬ zB_ m j
noncomputable def zGo (c : Int → Int) (p v : Int) : Prop := ∃ m : Int, zeL c p m ∧ 0 ≤ v ∧ v ≤ 10 ∧ (v < 10 → zit c v.toNat p = -1 ∨ zB_ m (zit c v.toNat p)) ∧ ∀ i : Nat, (i : Int) < v → ¬ zB_ m (zit c i p)
/-- the reference's answer -/
noncomputable def zEr (f : Int → Int) (p l v : Int) : Prop := ∃ n : Nat, n ≤ 9 ∧ (∀ i : Nat, i ≤ n → zit f i p ≠ -1) ∧ (∀ i : Nat, i < n → znr f (zit f i p)) ∧ (f (zit f n p) = -1 ∨ zrd f (zit f n p)) ∧ (l = 1 → v = n) ∧ (¬ l = 1 → (f (zit f n p) = -1 → v = zit f n p) ∧ (¬ f (zit f n p) = -1 → ∃ k : Nat, 1 ≤ k ∧ zit f k (zit f n p) = zit f n p ∧ (∃ i : Nat, v = zit f i (zit f n p)) ∧ ∀ i : Nat, i < k → v ≤ zit f i (zit f n p)))
theorem zit_q {c f : Int → Int} (hc : ∀ k : Int, 0 ≤ k → k < 10 → c k = f k) (cb : ∀ k : Int, -1 ≤ c k ∧ c k ≤ 9) {p : Int} (hp : 0 ≤ p ∧ p ≤ 9) : ∀ n : Nat, (∀ i : Nat, i < n → zit c i p ≠ -1) → zit f n p = zit c n p
  | 0, _ => rfl
  | n + 1, h => by
    have e := zit_q hc cb hp n (fun i hi => h i (by omega))
    have b := zit_B cb (p := p) ⟨by omega, hp.2⟩ n
    have w := h n (Nat.lt_succ_self n)
    show f (zit f n p) = c (zit c n p)
    rw [e, hc _ (by omega) (by omega)]
/-- a round has no end, and turns -/
theorem zit_per {c : Int → Int} {a : Int} {k : Nat} (e : zit c k a = a) : ∀ q r : Nat, zit c (k * q + r) a = zit c r a
  | 0, r => by rw [Nat.mul_zero, Nat.zero_add]
  | q + 1, r => by
    rw [show k * (q + 1) + r = (k * q + r) + k by rw [Nat.mul_succ]; omega, zit_add, e]
    exact zit_per e q r
theorem zit_mod {c : Int → Int} {a : Int} {k : Nat} (e : zit c k a = a) (n : Nat) : zit c (n % k) a = zit c n a := by
  have h := zit_per e (n / k) (n % k)
  rw [Nat.div_add_mod] at h
  exact h.symm
theorem zrd_ne {c : Int → Int} {a : Int} (h : zrd c a) (n : Nat) : zit c n a ≠ -1 := by
  obtain ⟨k, k1, k2, e, hk⟩ := h
  rw [← zit_mod e n]
  exact hk _ (Nat.mod_lt _ (by omega))
theorem zEn_c {c : Int → Int} (cm : c (-1) = -1) {p l v1 v2 : Int} (A0 : l = 0 → zEo c p v1) (A1 : l = 1 → zGo c p v1) (hl : l = 0 ∨ l = 1) (cb : ∀ k : Int, -1 ≤ c k ∧ c k ≤ 9) (hp : 0 ≤ p ∧ p ≤ 9) (B : zEr c p l v2) : v2 = v1 := by
  obtain ⟨n, n9, nn, nr, nt, b1, b0⟩ := B
  generalize ha : zit c n p = a at nt b0
  have ab := zit_B cb (p := p) ⟨by omega, hp.2⟩ n
  have an := nn n (Nat.le_refl _)
  rw [ha] at ab an
  -- what the class's bits are
  have key : ∀ m : Int, zeL c p m → (∀ j : Int, 0 ≤ j → (zB_ m j ↔ ∃ s : Nat, zit c s a = j)) := by
    rintro m ⟨t, t10, tn, tt, -, tr⟩ j j0
    rw [tr j j0]
    rcases nt with e | e
    · have z1 : zit c (n + 1) p = -1 := by show c (zit c n p) = -1; rw [ha]; exact e
      have htn : t = n := by
        have h1 : t ≤ n := by
          rcases Nat.lt_or_ge n t with w | w
          · exact absurd z1 (tn (n + 1) (by omega))
          · exact w
        rcases tt with w | w
        · omega
        · rcases Nat.lt_or_ge t n with u | u
          · exact absurd w (nn (t + 1) (by omega))
          · omega
      rw [htn, ha]
      have za : ∀ s : Nat, 1 ≤ s → zit c s a = -1 := fun s hs => by
        have h := zit_m cm (n := 1) (p := a) (by show c a = -1; exact e) (s - 1)
        rw [show 1 + (s - 1) = s by omega] at h
        exact h
      constructor
      · rintro ⟨i, -, k⟩; exact ⟨i, k⟩
      · rintro ⟨s, k⟩
        rcases Nat.eq_zero_or_pos s with w | w
        · exact ⟨0, by omega, by rw [← k, w]⟩
        · rw [za s w] at k; omega
    · have ht : t = 10 := by
        rcases tt with w | w
        · exact w
        · exfalso
          have z1 : zit c (t + 1) p = -1 := w
          rcases Nat.lt_or_ge t n with u | u
          · exact nn (t + 1) (by omega) z1
          · rw [show t + 1 = (t + 1 - n) + n by omega, zit_add, ha] at z1
            exact zrd_ne e _ z1
      have hq : zit c t p = zit c (10 - n) a := by
        rw [ht, show (10 : Nat) = (10 - n) + n by omega, zit_add, ha, show (10 - n) + n - n = 10 - n by omega]
      rw [hq]
      obtain ⟨k, k1, k2, ke, -⟩ := e
      constructor
      · rintro ⟨i, -, h⟩
        rw [← zit_add] at h
        exact ⟨_, h⟩
      · rintro ⟨s, h⟩
        refine ⟨(s + k * 10 - (10 - n)) % k, ?_, ?_⟩
        · have := Nat.mod_lt (s + k * 10 - (10 - n)) (show 0 < k by omega); omega
        · have hk : 10 ≤ k * 10 := Nat.le_mul_of_pos_left 10 (by omega)
          have e2 : zit c ((s + k * 10 - (10 - n)) % k) (zit c (10 - n) a) = zit c (s + k * 10 - (10 - n)) (zit c (10 - n) a) := by
            refine zit_mod ?_ _
            rw [← zit_add, Nat.add_comm, zit_add, ke]
          rw [e2, ← zit_add, show s + k * 10 - (10 - n) + (10 - n) = k * 10 + s by omega, zit_per ke, h]
  have early : ∀ (i : Nat), i < n → ∀ s : Nat, zit c s a ≠ zit c i p := by
    intro i hi s hs
    rcases nt with e | e
    · rcases Nat.eq_zero_or_pos s with w | w
      · rw [w] at hs
        have hs' : a = zit c i p := hs
        have : zit c (i + 1) p = -1 := by show c (zit c i p) = -1; rw [← hs']; exact e
        exact nn (i + 1) (by omega) this
      · have h := zit_m cm (n := 1) (p := a) (by show c a = -1; exact e) (s - 1)
        rw [show 1 + (s - 1) = s by omega, hs] at h
        exact nn i (by omega) h
    · have e' := e
      obtain ⟨k, k1, k2, ke, -⟩ := e
      refine nr i hi k k1 k2 (fun j _ => ?_) ?_
      · rw [← hs, ← zit_add]; exact zrd_ne e' _
      · rw [← hs, ← zit_add, Nat.add_comm, zit_add, ke]
  rcases hl with hl | hl
  · obtain ⟨m, hm, v0, v10, vb, vl⟩ := A0 hl
    have K := key m hm
    obtain ⟨b2, b3⟩ := b0 (by omega)
    -- v2 lies on the round (or is the end), and nothing there is less
    have hv2 : (∃ s : Nat, zit c s a = v2) ∧ (∀ s : Nat, zit c s a ≠ -1 → v2 ≤ zit c s a) ∧ 0 ≤ v2 ∧ v2 ≤ 9 := by
      by_cases e : c a = -1
      · have h := b2 e
        refine ⟨⟨0, h.symm⟩, fun s hs => ?_, by omega, by omega⟩
        rcases Nat.eq_zero_or_pos s with w | w
        · rw [w, h]; exact Int.le_refl _
        · have z := zit_m cm (n := 1) (p := a) (by show c a = -1; exact e) (s - 1)
          rw [show 1 + (s - 1) = s by omega] at z
          exact absurd z hs
      · obtain ⟨k, k1, ke, ⟨i, hi⟩, kl⟩ := b3 e
        have r : zrd c a := by
          rcases nt with w | w
          · exact absurd w e
          · exact w
        have bb := zit_B cb (p := a) ab i
        have ne := zrd_ne r i
        refine ⟨⟨i, hi.symm⟩, fun s _ => ?_, by omega, by omega⟩
        rw [← zit_mod ke s]
        exact kl _ (Nat.mod_lt _ (by omega))
    obtain ⟨⟨s, hs⟩, low, p0, p9⟩ := hv2
    have in2 : zB_ m v2 := (K v2 p0).mpr ⟨s, hs⟩
    have le1 : v1 ≤ v2 := by
      rcases Int.lt_or_le v2 v1 with w | w
      · exact absurd in2 (vl v2 p0 w)
      · exact w
    obtain ⟨s1, hs1⟩ := (K v1 v0).mp (vb (by omega))
    have := low s1 (by omega)
    omega
  · obtain ⟨m, hm, v0, v10, vb, vl⟩ := A1 hl
    have K := key m hm
    have h2 := b1 hl
    have inn : zB_ m (zit c n p) := by rw [ha]; exact (K a (by omega)).mpr ⟨0, rfl⟩
    have le1 : v1 ≤ n := by
      rcases Int.lt_or_le (n : Int) v1 with w | w
      · exact absurd inn (vl n w)
      · exact w
    rcases Int.lt_or_le v1 n with w | w
    · exfalso
      rcases vb (by omega) with u | u
      · exact nn v1.toNat (by omega) u
      · have bb := zit_B cb (p := p) ⟨by omega, hp.2⟩ v1.toNat
        have ne := nn v1.toNat (by omega)
        obtain ⟨s, hs⟩ := (K _ (by omega)).mp u
        exact early v1.toNat (by omega) s hs
    · omega
theorem zEr_c {c f : Int → Int} (hc : ∀ k : Int, 0 ≤ k → k < 10 → c k = f k) (cb : ∀ k : Int, -1 ≤ c k ∧ c k ≤ 9) (fb : ∀ k : Int, -1 ≤ f k ∧ f k ≤ 9) {p l v : Int} (hp : 0 ≤ p ∧ p ≤ 9) (h : zEr f p l v) : zEr c p l v := by
  have hf : ∀ k : Int, 0 ≤ k → k < 10 → f k = c k := fun k a b => (hc k a b).symm
  obtain ⟨n, n9, nn, nr, nt, b1, b0⟩ := h
  have en : ∀ i : Nat, i ≤ n → zit c i p = zit f i p := fun i hi => zit_q hf fb hp i (fun j hj => nn j (by omega))
  have ab : ∀ i : Nat, i ≤ n → 0 ≤ zit f i p ∧ zit f i p ≤ 9 := fun i hi => by
    have b := zit_B fb (p := p) ⟨by omega, hp.2⟩ i
    have w := nn i hi
    omega
  have an := ab n (Nat.le_refl _)
  have ec : c (zit f n p) = f (zit f n p) := hc _ an.1 (by omega)
  have rr : zrd f (zit f n p) → (zrd c (zit f n p) ∧ ∀ j : Nat, zit c j (zit f n p) = zit f j (zit f n p)) := fun r => by
    have q : ∀ j : Nat, zit c j (zit f n p) = zit f j (zit f n p) := fun j => zit_q hf fb an j (fun i _ => zrd_ne r i)
    obtain ⟨k, k1, k2, ke, kn⟩ := r
    exact ⟨⟨k, k1, k2, by rw [q]; exact ke, fun j hj => by rw [q]; exact kn j hj⟩, q⟩
  refine ⟨n, n9, fun i hi => by rw [en i hi]; exact nn i hi, fun i hi => ?_, ?_, b1, fun q => ?_⟩
  · rw [en i (by omega)]
    intro k k1 k2 hk e
    have q : ∀ j : Nat, j ≤ k → zit f j (zit f i p) = zit c j (zit f i p) := fun j hj => zit_q hc cb (ab i (by omega)) j (fun w hw => hk w (by omega))
    exact nr i hi k k1 k2 (fun j hj => by rw [q j hj]; exact hk j hj) (by rw [q k (Nat.le_refl _)]; exact e)
  · rw [en n (Nat.le_refl _), ec]
    rcases nt with w | w
    · exact Or.inl w
    · exact Or.inr (rr w).1
  · rw [en n (Nat.le_refl _), ec]
    obtain ⟨b2, b3⟩ := b0 q
    refine ⟨b2, fun e => ?_⟩
    obtain ⟨k, k1, ke, ⟨i, hi⟩, kl⟩ := b3 e
    have r : zrd f (zit f n p) := by
      rcases nt with w | w
      · exact absurd w e
      · exact w
    have qq := (rr r).2
    exact ⟨k, k1, by rw [qq]; exact ke, ⟨i, by rw [qq]; exact hi⟩, fun j hj => by rw [qq]; exact kl j hj⟩
theorem zEn_eq {g : zi_M} {l1 l2 v1 v2 : Int} (I : zk_I g) (R : zXg g) (sp : g 2 8 = g 214 6) (A : 0 ≤ l1 ∧ l1 < g 2 8 ∧ (l2 = 0 ∨ l2 = 1) → (l2 = 0 → zEo (zeg g) l1 v1) ∧ (l2 = 1 → zGo (zeg g) l1 v1)) (A' : ¬ (0 ≤ l1 ∧ l1 < g 2 8 ∧ (l2 = 0 ∨ l2 = 1)) → v1 = -1) (B : 0 ≤ l1 ∧ l1 < g 214 6 ∧ (l2 = 0 ∨ l2 = 1) → zEr (zf g) l1 l2 v2) (B' : ¬ (0 ≤ l1 ∧ l1 < g 214 6 ∧ (l2 = 0 ∨ l2 = 1)) → v2 = -1) : v2 = v1 := by
  rw [sp] at A A'
  by_cases h : 0 ≤ l1 ∧ l1 < g 214 6 ∧ (l2 = 0 ∨ l2 = 1)
  · have a := A h
    have b := B h
    have m : 0 ≤ g 214 6 ∧ g 214 6 ≤ 10 := I.1 214 6
    have hc : ∀ k : Int, 0 ≤ k → k < 10 → zeg g k = zf g k := fun k k0 k1 => by
      unfold zeg zf
      rw [if_pos ⟨k0, k1⟩]
      exact R.2 k k0 k1
    exact zEn_c (zeg_m g) a.1 a.2 h.2.2 (zeg_b I) ⟨by omega, by omega⟩ (zEr_c hc (zeg_b I) (zf_b I) ⟨by omega, by omega⟩ b)
  · rw [A' h, B' h]
