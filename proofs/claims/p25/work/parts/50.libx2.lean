-- KNOWN: the fewest that have HEARD all of it between them
theorem zoe8 : ∀ b : Nat, b < 256 → 1 ≤ b → zpN (b &&& (b - 1)) 8 + 1 = zpN b 8 ∧ b &&& (b - 1) < 256 := by decide +kernel
theorem zoe16 (h l : Nat) (hh : h < 256) (hl : l < 256) (hp : 1 ≤ 256 * h + l) : zpN ((256 * h + l) &&& (256 * h + l - 1)) 16 + 1 = zpN (256 * h + l) 16 := by
  by_cases c : l = 0
  · have d := zoe8 h hh (by omega)
    rw [c, show 256 * h + 0 - 1 = 256 * (h - 1) + 255 by omega, zbA 0 h 255 (h - 1) (by omega) (by omega), Nat.zero_and, zpN_16, zpN_16 (256 * h + 0)]
    rw [show (256 * (h &&& (h - 1)) + 0) / 256 = h &&& (h - 1) by omega, show (256 * (h &&& (h - 1)) + 0) % 256 = 0 by omega, show (256 * h + 0) / 256 = h by omega, show (256 * h + 0) % 256 = 0 by omega]
    omega
  · have d := zoe8 l hl (by omega)
    rw [show 256 * h + l - 1 = 256 * h + (l - 1) by omega, zbA l h (l - 1) h (by omega) (by omega), Nat.and_self, zpN_16, zpN_16 (256 * h + l)]
    rw [show (256 * h + (l &&& (l - 1))) / 256 = h by omega, show (256 * h + (l &&& (l - 1))) % 256 = l &&& (l - 1) by omega, show (256 * h + l) / 256 = h by omega, show (256 * h + l) % 256 = l by omega]
    omega
theorem zoe_st {n x X : Int} (h : n + zpc x z16 = X) (hx : 0 ≤ x ∧ x ≤ 65535) (c : ¬ x = 0) : n + 1 + zpc (zi_and x (x - 1)) z16 = X := by
  have a := (zB_andN (a := x) (b := x - 1) ⟨by omega, by omega⟩ ⟨by omega, by omega⟩).2
  have d := zoe16 (x.toNat / 256) (x.toNat % 256) (by omega) (by omega) (by omega)
  rw [Nat.div_add_mod] at d
  rw [z16_e, zpN_eq] at h ⊢
  rw [a, show (x - 1).toNat = x.toNat - 1 by omega]
  omega
theorem zoe_z : ∀ n : Nat, zpc 0 n = 0
  | 0 => rfl
  | n + 1 => by
    show zpc 0 n + _ = 0
    rw [zoe_z n, if_neg (by rw [show (0 : Int).toNat = 0 from rfl, Nat.zero_testBit]; decide)]
    rfl
theorem zoe_x {n x X : Int} (h : n + zpc x z16 = X) (c : x = 0) : n = X := by
  rw [c, zoe_z] at h
  omega
theorem zoe_10 {s : Int} (h : 0 ≤ s ∧ s < 1024) : zpc s z16 ≤ 10 := by
  rw [z16_e]
  have e : ∀ m : Nat, zpc s (10 + m) = zpc s 10 := by
    intro m
    induction m with
    | zero => rfl
    | succ m ih =>
      show zpc s (10 + m) + (if s.toNat.testBit (10 + m) = true then 1 else 0) = _
      have nb := zB_big (s := s) (k := ((10 + m : Nat) : Int)) (n := 10) h.1 (by omega) (by omega)
      unfold zB_ at nb
      rw [show (((10 + m : Nat) : Int)).toNat = 10 + m by omega] at nb
      rw [ih, if_neg nb]
      omega
  rw [e 6]
  exact (zpc_b s 10).2
-- a least one, of several the first
noncomputable def zvKs (C : Int → Prop) (i b : Int) : Prop := (b = -1 ∧ ∀ s : Int, 0 ≤ s → s < i → ¬ C s) ∨ (0 ≤ b ∧ b < i ∧ C b ∧ (∀ s : Int, 0 ≤ s → s < i → C s → zpc b z16 ≤ zpc s z16) ∧ ∀ s : Int, 0 ≤ s → s < b → C s → zpc b z16 < zpc s z16)
section
variable {C D : Int → Prop} {i b : Int}
theorem zvKs_0 : zvKs C 0 (-1) := Or.inl ⟨rfl, fun s s0 s1 => by exfalso; omega⟩
theorem zvKs_n (h : zvKs C i b) (n : ¬ C i) : zvKs C (i + 1) b := by
  rcases h with ⟨e, h⟩ | ⟨b0, b1, c, h, k⟩
  · refine Or.inl ⟨e, fun s s0 s1 => ?_⟩
    by_cases q : s = i
    · rw [q]; exact n
    · exact h s s0 (by omega)
  · refine Or.inr ⟨b0, by omega, c, fun s s0 s1 cs => ?_, k⟩
    by_cases q : s = i
    · exact absurd (q ▸ cs) n
    · exact h s s0 (by omega) cs
theorem zvKs_k (h : zvKs C i b) (b0 : ¬ b = -1) (w : zpc b z16 ≤ zpc i z16) : zvKs C (i + 1) b := by
  rcases h with ⟨e, h⟩ | ⟨b0, b1, c, h, k⟩
  · exact absurd e b0
  · refine Or.inr ⟨b0, by omega, c, fun s s0 s1 cs => ?_, k⟩
    by_cases q : s = i
    · rw [q]; exact w
    · exact h s s0 (by omega) cs
theorem zvKs_y (h : zvKs C i b) (i0 : 0 ≤ i) (ci : C i) (w : b = -1 ∨ zpc i z16 < zpc b z16) : zvKs C (i + 1) i := by
  rcases h with ⟨e, h⟩ | ⟨b0, b1, c, h, k⟩
  · refine Or.inr ⟨i0, by omega, ci, fun s s0 s1 cs => ?_, fun s s0 s1 cs => absurd cs (h s s0 s1)⟩
    by_cases q : s = i
    · rw [q]; exact Int.le_refl _
    · exact absurd cs (h s s0 (by omega))
  · have w2 : zpc i z16 < zpc b z16 := by
      rcases w with w | w
      · exfalso; omega
      · exact w
    refine Or.inr ⟨i0, by omega, ci, fun s s0 s1 cs => ?_, fun s s0 s1 cs => Int.lt_of_lt_of_le w2 (h s s0 s1 cs)⟩
    by_cases q : s = i
    · rw [q]; exact Int.le_refl _
    · exact Int.le_of_lt (Int.lt_of_lt_of_le w2 (h s s0 (by omega) cs))
theorem zvKs_x {n : Int} (h : zvKs C i b) (e : i = n) : zvKs C n b := by rw [e] at h; exact h
theorem zvKs_u {v w : Int} (e : ∀ s : Int, 0 ≤ s → s < i → (C s ↔ D s)) (h : zvKs C i v) (k : zvKs D i w) : w = v := by
  rcases h with ⟨h, a⟩ | ⟨h0, h1, h2, h3, h4⟩
  · rcases k with ⟨k, b⟩ | ⟨k0, k1, k2, k3, k4⟩
    · rw [h, k]
    · exact absurd ((e w k0 k1).2 k2) (a w k0 k1)
  · rcases k with ⟨k, b⟩ | ⟨k0, k1, k2, k3, k4⟩
    · exact absurd ((e v h0 h1).1 h2) (b v h0 h1)
    · have p1 := h3 w k0 k1 ((e w k0 k1).2 k2)
      have p2 := k3 v h0 h1 ((e v h0 h1).1 h2)
      by_cases c : v < w
      · have := k4 v h0 c ((e v h0 h1).1 h2)
        omega
      · by_cases d : w < v
        · have := h4 w k0 d ((e w k0 k1).2 k2)
          omega
        · omega
end
/-- what a set of spouts has heard -/
noncomputable def zWf (W : Int → Int) (s : Int) : Nat → Int
  | 0 => 0
  | n + 1 => zite (zi_and (zi_shr s (n : Int)) 1 = 1) (zi_or (zWf W s n) (W (n : Int))) (zWf W s n)
theorem zWf_c {W V : Int → Int} {s : Int} : ∀ n : Nat, (∀ i : Int, 0 ≤ i → i < n → W i = V i) → zWf W s n = zWf V s n
  | 0, _ => rfl
  | n + 1, h => by
    show zite _ _ _ = zite _ _ _
    rw [zWf_c n (fun i i0 i1 => h i i0 (by omega)), h (n : Int) (by omega) (by omega)]
theorem zWf_n {W : Int → Int} {s l i : Int} (h : l = zWf W s i.toNat) (i0 : 0 ≤ i) (c : ¬ zi_and (zi_shr s i) 1 = 1) : l = zWf W s (i + 1).toNat := by
  rw [show (i + 1).toNat = i.toNat + 1 by omega]
  show _ = zite _ _ _
  rw [show ((i.toNat : Nat) : Int) = i by omega, zite_n c]
  exact h
theorem zWf_y {W : Int → Int} {s l i v w : Int} (h : l = zWf W s i.toNat) (i0 : 0 ≤ i) (c : zi_and (zi_shr s i) 1 = 1) (hv : v = W i) (e : w = zi_or l v) : w = zWf W s (i + 1).toNat := by
  rw [show (i + 1).toNat = i.toNat + 1 by omega]
  show _ = zite _ _ _
  rw [show ((i.toNat : Nat) : Int) = i by omega, zite_p c, ← h, ← hv]
  exact e
theorem zWf_x {W : Int → Int} {s l i n : Int} (h : l = zWf W s i.toNat) (e : i = n) : l = zWf W s n.toNat := by rw [h, e]
noncomputable def zKc (W : Int → Int) (w S s : Int) : Prop := zi_and w (zi_xor (zWf W s S.toNat) (-1)) = 0
noncomputable def zWc0 (g : zi_M) (p : Int) : Int := zhs (zVC (g 2 11) 2 g) (36 + 20 * p) (zVC (g 2 11) 2 g (26 + p)).toNat
noncomputable def zWr0 (g : zi_M) (p : Int) : Int := zhs (zVM (g 2 11) g) (36 + 20 * p) (zVM (g 2 11) g (26 + p)).toNat
-- the class
noncomputable def zvKw (l : Int) (g0 g : zi_M) : Prop := ∀ p : Int, 0 ≤ p → p < l → g 185 p = zWc0 g0 p
theorem zvKw_0 {g0 g : zi_M} : zvKw 0 g0 g := fun p p0 p1 => by exfalso; omega
theorem zvKw_s {l v : Int} {g0 g g7 : zi_M} (h : zvKw l g0 g) (F : zk_fr fr_Thought_fewestThatKnow g0 g) (k : zHF 2 g l v) (c : l < g 2 8) (e : g7 = zi_u g 185 l v) : zvKw (l + 1) g0 g7 := fun p p0 p1 => by
  by_cases q : p = l
  · have r := k c (g0 2 11)
    rw [q, e, zi_u_eq, r, zVC_c (g := g0) (fun a i z => F a i (fun w => by unfold fr_Thought_fewestThatKnow at w; omega))]
    rfl
  · rw [e, zi_u_ni q]
    exact h p p0 (by omega)
theorem zvKw_x {l n : Int} {g0 g : zi_M} (h : zvKw l g0 g) (e : l = n) : zvKw n g0 g := by rw [e] at h; exact h
theorem zvKw_8 {g0 g : zi_M} (F : zk_fr fr_Thought_fewestThatKnow g0 g) : g 2 8 = g0 2 8 := F 2 8 (fun w => by unfold fr_Thought_fewestThatKnow at w; omega)
noncomputable def zKf (b f : Int) : Prop := (b = -1 → f = 11) ∧ (0 ≤ b → f = zpc b z16)
theorem zKf_0 : zKf (-1) 11 := ⟨fun _ => rfl, fun q => by exfalso; omega⟩
theorem zKf_1 {i v : Int} (b : 0 ≤ i → i ≤ 65535 → v = zpc i z16) (i0 : 0 ≤ i) (i1 : i ≤ 65535) : zKf i v := ⟨fun q => by exfalso; omega, fun _ => b i0 i1⟩
theorem zKa_a {C : Int → Prop} {i b f v : Int} (h : zvKs C i b) (k : zKf b f) (e : 0 ≤ i → i ≤ 65535 → v = zpc i z16) (i0 : 0 ≤ i) (i1 : i < 1024) (c : f ≤ v) : zvKs C (i + 1) b := by
  have e2 := e i0 (by omega)
  have t := zoe_10 (s := i) ⟨i0, i1⟩
  by_cases n : b = -1
  · have := k.1 n
    exfalso; omega
  · have b0 : 0 ≤ b := by
      rcases h with ⟨e, _⟩ | ⟨b0, _⟩
      · exact absurd e n
      · exact b0
    have := k.2 b0
    exact zvKs_k h n (by omega)
theorem zKq_e {W : Int → Int} {g0 g : zi_M} {l i v : Int} (w : zvKw (g0 2 8) g0 g) (F : zk_fr fr_Thought_fewestThatKnow g0 g) (I : zk_I g) (e : v = zWf (g 185) i (g 2 8).toNat) : v = zWf (zWc0 g0) i (g0 2 8).toNat := by
  have b8 : (0 : Int) ≤ g 2 8 ∧ g 2 8 ≤ 10 := I.1 2 8
  rw [e, zvKw_8 F]
  rw [zvKw_8 F] at b8
  exact zWf_c _ (fun p p0 p1 => w p p0 (by omega))
theorem zKa_b {g0 g : zi_M} {l i b v : Int} (h : zvKs (zKc (zWc0 g0) l (g0 2 8)) i b) (w : zvKw (g0 2 8) g0 g) (F : zk_fr fr_Thought_fewestThatKnow g0 g) (I : zk_I g) (e : v = zWf (g 185) i (g 2 8).toNat) (c : ¬ zi_and l (zi_xor v (-1)) = 0) : zvKs (zKc (zWc0 g0) l (g0 2 8)) (i + 1) b := by
  rw [zKq_e (W := zWc0 g0) (l := l) w F I e] at c
  exact zvKs_n h c
theorem zKa_c {g0 g : zi_M} {l i b f v u : Int} (h : zvKs (zKc (zWc0 g0) l (g0 2 8)) i b) (k : zKf b f) (w : zvKw (g0 2 8) g0 g) (F : zk_fr fr_Thought_fewestThatKnow g0 g) (I : zk_I g) (e : v = zWf (g 185) i (g 2 8).toNat) (c : zi_and l (zi_xor v (-1)) = 0) (bu : 0 ≤ i → i ≤ 65535 → u = zpc i z16) (i0 : 0 ≤ i) (i1 : i < 1024) (lt : u < f) : zvKs (zKc (zWc0 g0) l (g0 2 8)) (i + 1) i := by
  rw [zKq_e (W := zWc0 g0) (l := l) w F I e] at c
  have e2 := bu i0 (by omega)
  refine zvKs_y h i0 c ?_
  by_cases n : b = -1
  · exact Or.inl n
  · have b0 : 0 ≤ b := by
      rcases h with ⟨e, _⟩ | ⟨b0, _⟩
      · exact absurd e n
      · exact b0
    have := k.2 b0
    exact Or.inr (by omega)
theorem zKN_0 {x : Int} (I : 0 ≤ x ∧ x ≤ 10) : 0 ≤ zi_shl 1 x ∧ zi_shl 1 x ≤ 1024 := by
  have h : ∀ n : Nat, n ≤ 10 → 0 ≤ zi_shl 1 (n : Int) ∧ zi_shl 1 (n : Int) ≤ 1024 := by decide +kernel
  have q := h x.toNat (by omega)
  rw [show ((x.toNat : Nat) : Int) = x by omega] at q
  exact q
noncomputable def zKR (W : Int → Int) (S l b : Int) : Prop := zvKs (zKc W l S) (zi_shl 1 S) b
noncomputable def zknP (W : Int → Int) (S l1 l2 v : Int) : Prop := (¬ (0 ≤ l1 ∧ l1 ≤ 65535 ∧ 0 ≤ l2 ∧ l2 ≤ 1) → v = -1) ∧ (0 ≤ l1 ∧ l1 ≤ 65535 ∧ 0 ≤ l2 ∧ l2 ≤ 1 → ∃ b : Int, zKR W S l1 b ∧ (b = -1 → v = -1) ∧ (¬ b = -1 → (l2 = 1 → v = b) ∧ (l2 = 0 → v = zpc b z16)))
noncomputable def zknS (g : zi_M) (l1 l2 v : Int) : Prop := zknP (zWc0 g) (g 2 8) l1 l2 v
noncomputable def zknM (g : zi_M) (l1 l2 v : Int) : Prop := zknP (zWr0 g) (g 214 6) l1 l2 v
theorem zknP_n {W : Int → Int} {S l1 l2 : Int} (h : ¬ (0 ≤ l1 ∧ l1 ≤ 65535 ∧ 0 ≤ l2 ∧ l2 ≤ 1)) : zknP W S l1 l2 (-1) := ⟨fun _ => rfl, fun q => absurd q h⟩
theorem zknP_1 {W : Int → Int} {S l1 l2 b : Int} (r : 0 ≤ l1 ∧ l1 ≤ 65535) (h : zKR W S l1 b) (c : l2 = 1) : zknP W S l1 l2 b := ⟨fun q => absurd ⟨r.1, r.2, by omega, by omega⟩ q, fun _ => ⟨b, h, fun e => e, fun _ => ⟨fun _ => rfl, fun q => by exfalso; omega⟩⟩⟩
theorem zknP_m {W : Int → Int} {S l1 l2 b v : Int} (h : zKR W S l1 b) (c : b = -1) (e : v = -1) (q : 0 ≤ l1 ∧ l1 ≤ 65535 ∧ 0 ≤ l2 ∧ l2 ≤ 1) : zknP W S l1 l2 v := ⟨fun n => absurd q n, fun _ => ⟨b, h, fun _ => e, fun n => absurd c n⟩⟩
theorem zknP_0 {W : Int → Int} {S l1 l2 b v : Int} (r : 0 ≤ l1 ∧ l1 ≤ 65535) (h : zKR W S l1 b) (c : l2 = 0) (n : ¬ b = -1) (e : v = zpc b z16) : zknP W S l1 l2 v := ⟨fun q => absurd ⟨r.1, r.2, by omega, by omega⟩ q, fun _ => ⟨b, h, fun q => absurd q n, fun _ => ⟨fun q => by exfalso; omega, fun _ => e⟩⟩⟩
theorem zKR_b {W : Int → Int} {S l b v : Int} (n : ¬ b = -1) (r : -1 ≤ b ∧ b ≤ 1023) (e : 0 ≤ b → b ≤ 65535 → v = zpc b z16) : v = zpc b z16 := e (by omega) (by omega)
theorem zknS_e {g0 g : zi_M} {l1 l2 v : Int} (e : g = g0) (h : zknS g l1 l2 v) : zknS g0 l1 l2 v := by rw [← e]; exact h
-- the reference
theorem zKr_v {l v : Int} {g0 g : zi_M} (F : zk_fr fr_M_known g0 g) (k : zMF g l v) : v = zWr0 g0 l := by
  have r := k (g0 2 11)
  rw [zVM_c (g := g0) (fun a i z => F a i (fun w => by unfold fr_M_known at w; omega))] at r
  exact r
theorem zKr_6 {g0 g : zi_M} (F : zk_fr fr_M_known g0 g) : g 214 6 = g0 214 6 := F 214 6 (fun w => by unfold fr_M_known at w; omega)
theorem zKr_h {s i v : Int} (t : ¬ zi_and (zi_shr s i) 1 = 1 → v = 0) (c : ¬ v = 0) : zi_and (zi_shr s i) 1 = 1 := Classical.byContradiction (fun q => c (t q))
theorem zKr_g {s i v : Int} (t : zi_and (zi_shr s i) 1 = 1 → v = 1) (c : v = 0) : ¬ zi_and (zi_shr s i) 1 = 1 := fun q => by have := t q; omega
/-- the answers of KNOWN -/
theorem zkn_eq {g g1 : zi_M} {l1 l2 v1 v2 : Int} (I : zk_I g) (R : zFD g) (sp : g 2 8 = g 214 6) (a : zknS g l1 l2 v1) (b : zknM g1 l1 l2 v2) (hs : ∀ (a : Nat) (i : Int), 214 ≤ a → g1 a i = g a i) (h11 : g1 2 11 = g 2 11) : v2 = v1 := by
  obtain ⟨a1, a2⟩ := a
  obtain ⟨b1, b2⟩ := b
  have we : zWr0 g1 = zWc0 g := funext fun p => by
    unfold zWr0 zWc0
    rw [h11, zVM_c (g := g) (fun a i z => hs a i (by omega)), ← R.1]
  by_cases c : 0 ≤ l1 ∧ l1 ≤ 65535 ∧ 0 ≤ l2 ∧ l2 ≤ 1
  · obtain ⟨s, s1, s2, s3⟩ := a2 c
    obtain ⟨t, t1, t2, t3⟩ := b2 c
    rw [we, hs 214 6 (by decide), ← sp] at t1
    have e := zvKs_u (fun _ _ _ => Iff.rfl) s1 t1
    subst e
    by_cases n : t = -1
    · rw [s2 n, t2 n]
    · obtain ⟨u1, u2⟩ := s3 n
      obtain ⟨w1, w2⟩ := t3 n
      rcases (show l2 = 0 ∨ l2 = 1 by omega) with q | q
      · rw [u2 q, w2 q]
      · rw [u1 q, w1 q]
  · rw [a1 c, b1 c]
theorem zKr_c {W : Int → Int} {l S s v : Int} (e : v = zWf W s S.toNat) (c : zi_and l (zi_xor v (-1)) = 0) : zKc W l S s := by
  unfold zKc
  rw [← e]
  exact c
theorem zKr_d {W : Int → Int} {l S s v : Int} (e : v = zWf W s S.toNat) (c : ¬ zi_and l (zi_xor v (-1)) = 0) : ¬ zKc W l S s := by
  unfold zKc
  rw [← e]
  exact c
