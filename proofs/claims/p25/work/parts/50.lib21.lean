-- AGAIN: how many unlike ones come
-- numbers that nothing unfolds
theorem z16_x : ∃ n : Nat, n = 16 := ⟨16, rfl⟩
noncomputable def z16 : Nat := Classical.choose z16_x
theorem z16_e : z16 = 16 := Classical.choose_spec z16_x
theorem z17_x : ∃ n : Nat, n = 17 := ⟨17, rfl⟩
noncomputable def z17 : Nat := Classical.choose z17_x
theorem z17_e : z17 = 17 := Classical.choose_spec z17_x
noncomputable def zco (f : Int → Int) : Nat → Int → Int → Int → Int
  | 0, _, _, _ => -1
  | k + 1, s, a, n => if zi_and (zi_shr s a) 1 = 1 then n else zco f k (zi_or s (zi_shl 1 a)) (f a) (n + 1)
theorem zco_i {f : Int → Int} {s a n : Int} {k m : Nat} (h : k = m) : zco f k s a n = zco f m s a n := by rw [h]
theorem zco_st {f : Int → Int} {s a n x : Int} {k m : Nat} (h : zco f k s a n = x) (hn : ¬ zi_and (zi_shr s a) 1 = 1) (hk : k = m + 1) : zco f m (zi_or s (zi_shl 1 a)) (f a) (n + 1) = x := by
  rw [hk] at h
  unfold zco at h
  rw [if_neg hn] at h
  exact h
theorem zco_x {f : Int → Int} {s a n x : Int} {k : Nat} (h : zco f k s a n = x) (hc : zi_and (zi_shr s a) 1 = 1) (hk : 1 ≤ k) : n = x := by
  obtain ⟨m, rfl⟩ : ∃ m, k = m + 1 := ⟨k - 1, by omega⟩
  unfold zco at h
  rw [if_pos hc] at h
  exact h
theorem zco_e {f : Int → Int} {s a n x : Int} {k : Nat} (h : zco f k s a n = x) (hk : k = 0) : -1 = x := by
  rw [hk] at h
  exact h
theorem zpc_16 {s n : Int} (h : zpc s z16 = n) : 0 ≤ n ∧ n ≤ 16 := by
  rw [z16_e] at h
  have := zpc_b s 16
  omega
theorem zpc_z : ∀ n : Nat, zpc 0 n = 0
  | 0 => rfl
  | n + 1 => by
    show zpc 0 n + _ = 0
    rw [zpc_z n, show (0 : Int).toNat = 0 from rfl, Nat.zero_testBit, if_neg Bool.false_ne_true]
    rfl
theorem zpc_st {s a n : Int} (h : zpc s z16 = n) (hn : ¬ zi_and (zi_shr s a) 1 = 1) (hs : 0 ≤ s ∧ s ≤ 65535) (ha : 0 ≤ a ∧ a ≤ 15) : zpc (zi_or s (zi_shl 1 a)) z16 = n + 1 := by
  rw [z16_e] at h ⊢
  have hb : zBr s := ⟨hs.1, by omega⟩
  rw [zB_has hb ⟨ha.1, by omega⟩] at hn
  have := (zpc_new (s := s) (t := zi_or s (zi_shl 1 a)) ha.1 hn (fun k k0 => zB_add hb ⟨ha.1, by omega⟩ k0) 16).1 (by omega)
  omega
/-- the first look finds nothing -/
theorem zco_0 {f : Int → Int} {w : Int} (hw : 0 ≤ w ∧ w ≤ 15) : zco f z17 0 w 0 = zco f z16 (zi_shl 1 w) (f w) 1 := by
  rw [z16_e, z17_e]
  have hn : ¬ zi_and (zi_shr 0 w) 1 = 1 := by
    rw [zB_has ⟨by omega, by omega⟩ ⟨hw.1, by omega⟩]
    exact zB_0 w
  have h := zco_st (f := f) (s := 0) (a := w) (n := 0) (k := 17) (m := 16) rfl hn rfl
  rw [show zi_or 0 (zi_shl 1 w) = zi_shl 1 w from ?_] at h
  · exact h.symm
  · have hb : zBr 0 := ⟨by omega, by omega⟩
    have hs := zB_shlN (j := w) ⟨hw.1, by omega⟩
    have ho := zB_orN hb hs.1
    have : (zi_or 0 (zi_shl 1 w)).toNat = (zi_shl 1 w).toNat := by rw [ho.2]; exact Nat.zero_or _
    have h1 := ho.1.1
    have h2 := hs.1.1
    omega
theorem zco_c {f h : Int → Int} (e : ∀ k : Int, 0 ≤ k → k < 16 → f k = h k) (hf : ∀ k : Int, 0 ≤ f k ∧ f k ≤ 15) : ∀ (k : Nat) (s a n : Int), 0 ≤ a → a ≤ 15 → zco f k s a n = zco h k s a n
  | 0, _, _, _, _, _ => rfl
  | k + 1, s, a, n, h0, h1 => by
    unfold zco
    split
    · rfl
    · rw [e a h0 (by omega)] at *
      have := zco_c e hf k (zi_or s (zi_shl 1 a)) (h a) (n + 1) (by rw [← e a h0 (by omega)]; exact (hf a).1) (by rw [← e a h0 (by omega)]; exact (hf a).2)
      exact this
/-- how many come is no more than 16 -/
theorem zco_le {f : Int → Int} : ∀ (k : Nat) (s a n : Int), zco f k s a n ≤ max (-1) (n + k)
  | 0, _, _, _ => by unfold zco; omega
  | k + 1, s, a, n => by
    unfold zco
    split
    · omega
    · have := zco_le (f := f) k (zi_or s (zi_shl 1 a)) (f a) (n + 1)
      omega
-- the least common multiple
noncomputable def zcm (a b i : Int) : Prop := 1 ≤ a → a ≤ 720720 → 1 ≤ b → ∀ j : Int, 1 ≤ j → j < i → ¬ b ∣ a * j
theorem zcm_0 {a b : Int} : zcm a b 1 := fun _ _ _ j h0 h1 => by exfalso; omega
theorem zwr_id {a : Int} (h : zi_r a) : zi_w a = a := zi_to h
theorem zcm_w {a i : Int} (ha : 1 ≤ a) (ha2 : a ≤ 720720) (hi : 1 ≤ i ∧ i ≤ 16) : zi_w (a * i) = a * i ∧ 1 ≤ a * i := by
  have h1 : a * i ≤ 720720 * 16 := Int.mul_le_mul ha2 hi.2 (by omega) (by omega)
  have h2 : 1 * 1 ≤ a * i := Int.mul_le_mul ha hi.1 (by omega) (by omega)
  exact ⟨zwr_id ⟨by omega, by omega⟩, by omega⟩
theorem zcm_d {a b i : Int} (ha : 1 ≤ a) (ha2 : a ≤ 720720) (hi : 1 ≤ i ∧ i ≤ 16) (hb : 1 ≤ b) : Int.tmod (zi_w (a * i)) b = 0 ↔ b ∣ a * i := by
  have hw := zcm_w ha ha2 hi
  rw [hw.1, Int.tmod_eq_emod_of_nonneg (by omega)]
  exact ⟨Int.dvd_of_emod_eq_zero, Int.emod_eq_zero_of_dvd⟩
theorem zcm_st {a b i : Int} (h : zcm a b i) (hi : 1 ≤ i ∧ i ≤ 16) (hc : ¬ Int.tmod (zi_w (a * i)) b = 0) : zcm a b (i + 1) := fun ha ha2 hb j j0 j1 => by
  by_cases e : j = i
  · rw [e, ← zcm_d ha ha2 hi hb]; exact hc
  · exact h ha ha2 hb j j0 (by omega)
theorem zcm_n {a b i : Int} {X : Prop} (h : zcm a b i) (hi : b < i) : 1 ≤ a → a ≤ 720720 → 1 ≤ b → X := fun ha ha2 hb =>
  absurd (Int.dvd_mul_left a b) (h ha ha2 hb b (by omega) hi)
theorem zcm_x {a b i : Int} (h : zcm a b i) (hc : Int.tmod (zi_w (a * i)) b = 0) (hi : 1 ≤ i ∧ i ≤ 16) : 1 ≤ a → a ≤ 720720 → 1 ≤ b → zi_w (a * i) = ((Nat.lcm a.toNat b.toNat : Nat) : Int) := fun ha ha2 hb => by
  have hm := h ha ha2 hb
  rw [zcm_d ha ha2 hi hb] at hc
  rw [(zcm_w ha ha2 hi).1]
  obtain ⟨A, rfl⟩ : ∃ A : Nat, a = (A : Int) := ⟨a.toNat, by omega⟩
  obtain ⟨B, rfl⟩ : ∃ B : Nat, b = (B : Int) := ⟨b.toNat, by omega⟩
  obtain ⟨J, rfl⟩ : ∃ J : Nat, i = (J : Int) := ⟨i.toNat, by omega⟩
  rw [Int.toNat_natCast, Int.toNat_natCast]
  have hc' : B ∣ A * J := by
    have : ((B : Nat) : Int) ∣ ((A * J : Nat) : Int) := by rw [Int.natCast_mul]; exact hc
    exact Int.natCast_dvd_natCast.1 this
  obtain ⟨q, hq⟩ := Nat.dvd_lcm_left A B
  have hB : B ∣ A * q := by rw [← hq]; exact Nat.dvd_lcm_right A B
  have hl : Nat.lcm A B ∣ A * J := Nat.lcm_dvd (Nat.dvd_mul_right A J) hc'
  have h1 : A * q ≤ A * J := by rw [← hq]; exact Nat.le_of_dvd (Nat.mul_pos (by omega) (by omega)) hl
  have h2 : q ≤ J := Nat.le_of_mul_le_mul_left h1 (by omega)
  have h3 : 0 < Nat.lcm A B := Nat.lcm_pos (by omega) (by omega)
  have h4 : 1 ≤ q := by
    rcases Nat.eq_zero_or_pos q with z | z
    · rw [z, Nat.mul_zero] at hq; omega
    · exact z
  have h5 : ¬ q < J := fun z => hm (q : Int) (by omega) (by omega) (by rw [← Int.natCast_mul]; exact Int.natCast_dvd_natCast.2 hB)
  rw [hq, ← Int.natCast_mul]
  have : q = J := by omega
  rw [this]
-- the greatest common one
noncomputable def zgc (a b x y : Int) : Prop := 1 ≤ a → 1 ≤ b → 0 ≤ x ∧ 0 ≤ y ∧ Nat.gcd x.toNat y.toNat = Nat.gcd a.toNat b.toNat
theorem zgc_0 {a b : Int} : zgc a b a b := fun h0 h1 => ⟨by omega, by omega, rfl⟩
theorem zgc_st {a b x y z : Int} (h : zgc a b x y) (hy : ¬ y = 0) (e : ¬ y = 0 → z = Int.tmod x y) : zgc a b y z := fun h0 h1 => by
  obtain ⟨a1, a2, a3⟩ := h h0 h1
  have ez : z = x % y := by rw [e hy, Int.tmod_eq_emod_of_nonneg a1]
  have b1 := Int.emod_nonneg x (b := y) (by omega)
  refine ⟨a2, by omega, ?_⟩
  rw [← a3, Nat.gcd_comm x.toNat, Nat.gcd_rec y.toNat x.toNat, Nat.gcd_comm, ez]
  congr 1
  obtain ⟨X, rfl⟩ : ∃ X : Nat, x = (X : Int) := ⟨x.toNat, by omega⟩
  obtain ⟨Y, rfl⟩ : ∃ Y : Nat, y = (Y : Int) := ⟨y.toNat, by omega⟩
  rw [← Int.natCast_emod, Int.toNat_natCast, Int.toNat_natCast, Int.toNat_natCast]
theorem zgc_x {a b x y : Int} (h : zgc a b x y) (hy : y = 0) : 1 ≤ a → 1 ≤ b → x = ((Nat.gcd a.toNat b.toNat : Nat) : Int) := fun h0 h1 => by
  obtain ⟨a1, a2, a3⟩ := h h0 h1
  rw [← a3, hy, show (0 : Int).toNat = 0 from rfl, Nat.gcd_zero_right]
  omega
-- all of them
noncomputable def zal (f : Int → Int) : Nat → Int
  | 0 => 1
  | n + 1 => ((Nat.lcm (zal f n).toNat (f n).toNat : Nat) : Int)
theorem zal_b {f : Int → Int} (hf : ∀ k : Int, 0 ≤ k → k ≤ 15 → 1 ≤ f k ∧ f k ≤ 16) : ∀ n : Nat, n ≤ 16 → 1 ≤ zal f n ∧ (zal f n).toNat ∣ 720720
  | 0, _ => ⟨Int.le_refl 1, Nat.one_dvd _⟩
  | n + 1, h => by
    have ih := zal_b hf n (by omega)
    have hn := hf (n : Int) (by omega) (by omega)
    unfold zal
    have h1 : 0 < Nat.lcm (zal f n).toNat (f n).toNat := Nat.lcm_pos (by omega) (by omega)
    refine ⟨by omega, ?_⟩
    rw [Int.toNat_natCast]
    refine Nat.lcm_dvd ih.2 ?_
    have hd : ∀ k : Nat, k < 17 → 1 ≤ k → k ∣ 720720 := by decide
    exact hd _ (by omega) (by omega)
theorem zal_le {f : Int → Int} (hf : ∀ k : Int, 0 ≤ k → k ≤ 15 → 1 ≤ f k ∧ f k ≤ 16) {n : Nat} (h : n ≤ 16) : 1 ≤ zal f n ∧ zal f n ≤ 720720 := by
  have h1 := zal_b hf n h
  have h2 := Nat.le_of_dvd (by decide) h1.2
  omega
theorem zal_c {f h : Int → Int} : ∀ n : Nat, (∀ k : Int, 0 ≤ k → k < (n : Int) → f k = h k) → zal f n = zal h n
  | 0, _ => rfl
  | n + 1, e => by
    unfold zal
    rw [zal_c n (fun k h0 h1 => e k h0 (by omega)), e (n : Int) (by omega) (by omega)]
theorem zal_s {f : Int → Int} {i a v w : Int} (ha : a = zal f i.toNat) (hv : v = f i) (h0 : 0 ≤ i) (hw : w = ((Nat.lcm a.toNat v.toNat : Nat) : Int)) : w = zal f (i + 1).toNat := by
  rw [show (i + 1).toNat = i.toNat + 1 by omega]
  unfold zal
  rw [show ((i.toNat : Nat) : Int) = i by omega, hw, ha, hv]
theorem zal_d {a v w : Int} (hb : 1 ≤ a ∧ a.toNat ∣ 720720) (hv : 1 ≤ v ∧ v ≤ 16) (hw : w = ((Nat.lcm a.toNat v.toNat : Nat) : Int)) : 1 ≤ w ∧ w.toNat ∣ 720720 := by
  have h1 : 0 < Nat.lcm a.toNat v.toNat := Nat.lcm_pos (by omega) (by omega)
  have hd : ∀ k : Nat, k < 17 → 1 ≤ k → k ∣ 720720 := by decide
  refine ⟨by omega, ?_⟩
  rw [hw, Int.toNat_natCast]
  exact Nat.lcm_dvd hb.2 (hd _ (by omega) (by omega))
theorem zal_bd {a : Int} (hb : 1 ≤ a ∧ a.toNat ∣ 720720) : 1 ≤ a ∧ a ≤ 720720 := by
  have h2 := Nat.le_of_dvd (by decide) hb.2
  omega
/-- the class's step -/
theorem zal_st {f : Int → Int} {i a v w : Int} (hw : 1 ≤ a → a ≤ 720720 → 1 ≤ v → w = ((Nat.lcm a.toNat v.toNat : Nat) : Int)) (ha : a = zal f i.toNat) (hb : 1 ≤ a ∧ a.toNat ∣ 720720) (hv : v = f i) (hv1 : 1 ≤ v ∧ v ≤ 16) (h0 : 0 ≤ i) : w = zal f (i + 1).toNat :=
  zal_s ha hv h0 (hw (zal_bd hb).1 (zal_bd hb).2 hv1.1)
theorem zal_sd {a v w : Int} (hw : 1 ≤ a → a ≤ 720720 → 1 ≤ v → w = ((Nat.lcm a.toNat v.toNat : Nat) : Int)) (hb : 1 ≤ a ∧ a.toNat ∣ 720720) (hv1 : 1 ≤ v ∧ v ≤ 16) : 1 ≤ w ∧ w.toNat ∣ 720720 :=
  zal_d hb hv1 (hw (zal_bd hb).1 (zal_bd hb).2 hv1.1)
/-- the reference's step -/
theorem zal_mw {a v d u : Int} (hg : 1 ≤ a → 1 ≤ v → d = ((Nat.gcd a.toNat v.toNat : Nat) : Int)) (hb : 1 ≤ a ∧ a.toNat ∣ 720720) (hv : 1 ≤ v ∧ v ≤ 16) (e : u = v) : zi_w (Int.tdiv a d * u) = ((Nat.lcm a.toNat v.toNat : Nat) : Int) := by
  have hb2 := zal_bd hb
  have hd := hg hb2.1 hv.1
  obtain ⟨A, rfl⟩ : ∃ A : Nat, a = (A : Int) := ⟨a.toNat, by omega⟩
  obtain ⟨V, rfl⟩ : ∃ V : Nat, v = (V : Int) := ⟨v.toNat, by omega⟩
  rw [Int.toNat_natCast, Int.toNat_natCast] at *
  have hp : 0 < Nat.gcd A V := Nat.gcd_pos_of_pos_left V (by omega)
  rw [e, hd, Int.tdiv_eq_ediv_of_nonneg (by omega), ← Int.natCast_ediv, ← Int.natCast_mul]
  have h1 : A / Nat.gcd A V * V = Nat.lcm A V := by
    unfold Nat.lcm
    rw [Nat.mul_comm A V, Nat.mul_div_assoc V (Nat.gcd_dvd_left A V), Nat.mul_comm]
  rw [h1]
  have h2 : Nat.lcm A V ∣ 720720 := by
    have := (zal_d (a := (A : Int)) (v := (V : Int)) (w := ((Nat.lcm A V : Nat) : Int)) ⟨by omega, by rw [Int.toNat_natCast]; exact hb.2⟩ ⟨by omega, by omega⟩ (by rw [Int.toNat_natCast, Int.toNat_natCast])).2
    rw [Int.toNat_natCast] at this
    exact this
  have h3 := Nat.le_of_dvd (by decide) h2
  exact zwr_id ⟨by omega, by omega⟩
theorem zal_mst {f : Int → Int} {i a v d u : Int} (hg : 1 ≤ a → 1 ≤ v → d = ((Nat.gcd a.toNat v.toNat : Nat) : Int)) (ha : a = zal f i.toNat) (hb : 1 ≤ a ∧ a.toNat ∣ 720720) (hv : v = f i) (hu : u = f i) (hv1 : 1 ≤ v ∧ v ≤ 16) (h0 : 0 ≤ i) : zi_w (Int.tdiv a d * u) = zal f (i + 1).toNat :=
  zal_s ha hv h0 (zal_mw hg hb hv1 (hu.trans hv.symm))
theorem zal_msd {f : Int → Int} {i a v d u : Int} (hg : 1 ≤ a → 1 ≤ v → d = ((Nat.gcd a.toNat v.toNat : Nat) : Int)) (hb : 1 ≤ a ∧ a.toNat ∣ 720720) (hv : v = f i) (hu : u = f i) (hv1 : 1 ≤ v ∧ v ≤ 16) : 1 ≤ zi_w (Int.tdiv a d * u) ∧ (zi_w (Int.tdiv a d * u)).toNat ∣ 720720 :=
  zal_d hb hv1 (zal_mw hg hb hv1 (hu.trans hv.symm))
theorem zal_e {f : Int → Int} {a : Int} {n m : Nat} (h : a = zal f n) (e : n = m) : a = zal f m := by rw [← e]; exact h
theorem zal_1 {f : Int → Int} : (1 : Int) = zal f (0 : Int).toNat := rfl
-- all that are told to
noncomputable def zst (f : Int → Int) : Nat → Int
  | 0 => 0
  | n + 1 => zi_or (zst f n) (zi_shl 1 (f n))
theorem zst_s {f : Int → Int} {s i : Int} (h : s = zst f i.toNat) (h0 : 0 ≤ i) : zi_or s (zi_shl 1 (f i)) = zst f (i + 1).toNat := by
  rw [show (i + 1).toNat = i.toNat + 1 by omega]
  unfold zst
  rw [show ((i.toNat : Nat) : Int) = i by omega, h]
theorem zst_e {f : Int → Int} {a : Int} {n m : Nat} (h : a = zst f n) (e : n = m) : a = zst f m := by rw [← e]; exact h
theorem zst_c {f h : Int → Int} : ∀ n : Nat, (∀ k : Int, 0 ≤ k → k < (n : Int) → f k = h k) → zst f n = zst h n
  | 0, _ => rfl
  | n + 1, e => by
    unfold zst
    rw [zst_c n (fun k h0 h1 => e k h0 (by omega)), e (n : Int) (by omega) (by omega)]
theorem zpc_1 {w : Int} (hw : 0 ≤ w ∧ w ≤ 15) : zpc (zi_shl 1 w) z16 = 1 := by
  rw [z16_e]
  have h := (zpc_new (s := 0) (t := zi_shl 1 w) hw.1 (zB_0 w) (fun k k0 => by
    rw [zB_shl ⟨hw.1, by omega⟩ k0]
    exact ⟨Or.inr, fun z => z.elim (fun y => absurd y (zB_0 k)) id⟩) 16).1 (by omega)
  rw [h, zpc_z]
  rfl
theorem zpc_full {s : Int} : ∀ n : Nat, zpc s n = (n : Int) ↔ ∀ k : Int, 0 ≤ k → k < (n : Int) → zB_ s k
  | 0 => ⟨fun _ k h0 h1 => by exfalso; omega, fun _ => rfl⟩
  | n + 1 => by
    have ih := zpc_full (s := s) n
    have hb := zpc_b s n
    have hu : zpc s (n + 1) = zpc s n + (if s.toNat.testBit n = true then 1 else 0) := rfl
    constructor
    · intro h k h0 h1
      rw [hu] at h
      by_cases q : s.toNat.testBit n = true
      · rw [if_pos q] at h
        by_cases e : k = (n : Int)
        · unfold zB_
          rw [e, Int.toNat_natCast]
          exact q
        · exact ih.1 (by omega) k h0 (by omega)
      · rw [if_neg q] at h
        exfalso
        omega
    · intro h
      have hn := h (n : Int) (by omega) (by omega)
      unfold zB_ at hn
      rw [Int.toNat_natCast] at hn
      rw [hu, if_pos hn, ih.2 (fun k h0 h1 => h k h0 (by omega))]
      omega
theorem zpc_65535 {s : Int} (hs : 0 ≤ s ∧ s ≤ 65535) : zpc s 16 = 16 ↔ s = 65535 := by
  have h1 := zpc_full (s := s) 16
  have h2 := zB_all (s := s) (n := 16) hs.1 (by omega)
  rw [show ((2 ^ 16 - 1 : Nat) : Int) = 65535 by decide] at h2
  rw [h2]
  exact h1
theorem zbc_p {s k v : Int} (e : k = s) (b : 0 ≤ k ∧ k ≤ 65535) (hv : 0 ≤ k → k ≤ 65535 → v = zpc k z16) (h : v < 16) : ¬ s = 65535 := fun q => by
  rw [z16_e] at hv
  have h1 := hv b.1 b.2
  have h2 := (zpc_65535 b).2 (e.trans q)
  omega
theorem zbc_q {s k v : Int} (e : k = s) (b : 0 ≤ k ∧ k ≤ 65535) (hv : 0 ≤ k → k ≤ 65535 → v = zpc k z16) (h : 16 ≤ v) : s = 65535 := by
  rw [z16_e] at hv
  have h1 := hv b.1 b.2
  have h3 := zpc_b k 16
  rw [← e]
  exact (zpc_65535 b).1 (by omega)
theorem zM_row {fr : Nat → Int → Prop} {g g' : zi_M} {a : Nat} (F : zk_fr fr g g') (h : ∀ i : Int, ¬ fr a i) : g' a = g a := funext (fun i => F a i (h i))
-- the JDK's way to count
theorem zbA (a b m n : Nat) (ha : a < 256) (hm : m < 256) : (256 * b + a) &&& (256 * n + m) = 256 * (b &&& n) + (a &&& m) := by
  have h256 : (256 : Nat) = 2 ^ 8 := rfl
  have hx : a &&& m < 2 ^ 8 := Nat.lt_of_le_of_lt Nat.and_le_left (by omega)
  refine Nat.eq_of_testBit_eq (fun i => ?_)
  rw [h256, Nat.testBit_and, Nat.testBit_two_pow_mul_add _ (by omega), Nat.testBit_two_pow_mul_add _ (by omega), Nat.testBit_two_pow_mul_add _ hx]
  split
  · rw [Nat.testBit_and]
  · rw [Nat.testBit_and]
noncomputable def zbN1 (x : Nat) : Nat := x - (x / 2 &&& 1431655765)
noncomputable def zbN2 (d : Nat) : Nat := (d &&& 858993459) + (d / 4 &&& 858993459)
noncomputable def zbN3 (y : Nat) : Nat := y + y / 16 &&& 252645135
noncomputable def zbN4 (z : Nat) : Nat := z + z / 256
noncomputable def zbN5 (y : Nat) : Nat := y + y / 65536 &&& 63
noncomputable def zbN (x : Nat) : Nat := zbN5 (zbN4 (zbN3 (zbN2 (zbN1 x))))
noncomputable def zbM (x : Nat) : Nat := zbN3 (zbN2 (zbN1 x))
noncomputable def zpN (x : Nat) : Nat → Nat
  | 0 => 0
  | n + 1 => zpN x n + x / 2 ^ n % 2
theorem zbM_8 : ∀ b : Nat, b < 256 → zbM b = zpN b 8 := by decide +kernel
theorem zbM_b : ∀ b : Nat, b < 256 → zbN1 b < 256 ∧ zbN2 (zbN1 b) % 16 ≤ 4 ∧ zbN2 (zbN1 b) / 16 ≤ 4 ∧ zbM b ≤ 8 := by decide +kernel
theorem zbm1 : ∀ h : Nat, h < 2 → ∀ l : Nat, l < 128 → 128 * h + l &&& 85 = l &&& 85 := by decide +kernel
theorem zbm2 : ∀ h : Nat, h < 4 → ∀ l : Nat, l < 64 → 64 * h + l &&& 51 = l &&& 51 := by decide +kernel
theorem zbm0 : ∀ l : Nat, l < 256 → (l &&& 85 = l &&& 1431655765) ∧ (l &&& 51 = l &&& 858993459) ∧ (l &&& 15 = l &&& 252645135) ∧ (l &&& 85 ≤ l) ∧ (l &&& 51 ≤ 51) := by decide +kernel
theorem zb1 (h l : Nat) (hh : h < 256) (hl : l < 256) : zbN1 (256 * h + l) = 256 * zbN1 h + zbN1 l := by
  unfold zbN1
  rw [show (256 * h + l) / 2 = 256 * (h / 2) + (128 * (h % 2) + l / 2) by omega, show (1431655765 : Nat) = 256 * 5592405 + 85 from rfl, zbA _ _ _ _ (by omega) (by omega), zbm1 _ (by omega) _ (by omega)]
  have a1 := zbm0 (h / 2) (by omega)
  have a2 := zbm0 (l / 2) (by omega)
  have e1 : h / 2 &&& 5592405 = h / 2 &&& 85 := by
    have := zbA (h / 2) 0 85 21845 (by omega) (by omega)
    rw [Nat.zero_and, Nat.mul_zero, Nat.zero_add, Nat.zero_add] at this
    exact this
  rw [e1, show (256 * 5592405 + 85 : Nat) = 1431655765 from rfl, ← a1.1, ← a2.1]
  omega
theorem zb2 (h l : Nat) (hh : h < 256) (hl : l < 256) : zbN2 (256 * h + l) = 256 * zbN2 h + zbN2 l := by
  unfold zbN2
  rw [show (256 * h + l) / 4 = 256 * (h / 4) + (64 * (h % 4) + l / 4) by omega, show (858993459 : Nat) = 256 * 3355443 + 51 from rfl, zbA _ _ _ _ (by omega) (by omega), zbA _ _ _ _ (by omega) (by omega), zbm2 _ (by omega) _ (by omega)]
  have k : ∀ x : Nat, x < 256 → x &&& 3355443 = x &&& 51 := fun x hx => by
    have := zbA x 0 51 13107 hx (by omega)
    rw [Nat.zero_and, Nat.mul_zero, Nat.zero_add, Nat.zero_add] at this
    exact this
  have a1 := zbm0 h hh
  have a2 := zbm0 (h / 4) (by omega)
  have a3 := zbm0 l hl
  have a4 := zbm0 (l / 4) (by omega)
  rw [k h hh, k (h / 4) (by omega), show (256 * 3355443 + 51 : Nat) = 858993459 from rfl, ← a1.2.1, ← a2.2.1, ← a3.2.1, ← a4.2.1]
  omega
theorem zb3 (h l : Nat) (hh : h % 16 ≤ 4 ∧ h / 16 ≤ 4) (hl : l % 16 ≤ 4 ∧ l / 16 ≤ 4) : zbN3 (256 * h + l) = 256 * zbN3 h + zbN3 l := by
  unfold zbN3
  rw [show 256 * h + l + (256 * h + l) / 16 = 256 * (h + h / 16) + (l + l / 16 + 16 * (h % 16)) by omega, show (252645135 : Nat) = 256 * 986895 + 15 from rfl, zbA _ _ _ _ (by omega) (by omega)]
  have k : ∀ x : Nat, x < 256 → x &&& 986895 = x &&& 15 := fun x hx => by
    have := zbA x 0 15 3855 hx (by omega)
    rw [Nat.zero_and, Nat.mul_zero, Nat.zero_add, Nat.zero_add] at this
    exact this
  have k15 : ∀ x : Nat, x &&& 15 = x % 16 := fun x => Nat.and_two_pow_sub_one_eq_mod x 4
  have a1 := zbm0 (h + h / 16) (by omega)
  have a2 := zbm0 (l + l / 16) (by omega)
  rw [k _ (by omega), show (256 * 986895 + 15 : Nat) = 252645135 from rfl, ← a1.2.2.1, ← a2.2.2.1, k15, k15, k15]
  omega
theorem zbN_all (h l : Nat) (hh : h < 256) (hl : l < 256) : zbN (256 * h + l) = zpN h 8 + zpN l 8 := by
  have b1 := zbM_b h hh
  have b2 := zbM_b l hl
  unfold zbN
  rw [zb1 h l hh hl, zb2 _ _ b1.1 b2.1, zb3 _ _ ⟨b1.2.1, b1.2.2.1⟩ ⟨b2.2.1, b2.2.2.1⟩]
  rw [← zbM_8 h hh, ← zbM_8 l hl]
  show zbN5 (zbN4 (256 * zbM h + zbM l)) = _
  unfold zbN5 zbN4
  rw [show (63 : Nat) = 2 ^ 6 - 1 from rfl, Nat.and_two_pow_sub_one_eq_mod]
  have m1 := b1.2.2.2
  have m2 := b2.2.2.2
  clear b1 b2
  generalize zbM h = a at *
  generalize zbM l = b at *
  have q1 : (256 * a + b) / 256 = a := by omega
  rw [q1]
  have q2 : (256 * a + b + a) / 65536 = 0 := by omega
  rw [q2]
  omega
theorem zpN_add (x a : Nat) : ∀ n : Nat, zpN x (a + n) = zpN x a + zpN (x / 2 ^ a) n
  | 0 => rfl
  | n + 1 => by
    show zpN x (a + n) + x / 2 ^ (a + n) % 2 = zpN x a + (zpN (x / 2 ^ a) n + x / 2 ^ a / 2 ^ n % 2)
    rw [zpN_add x a n, Nat.div_div_eq_div_mul, Nat.pow_add]
    omega
theorem zpN_lo (h l : Nat) : ∀ n : Nat, n ≤ 8 → zpN (256 * h + l) n = zpN l n
  | 0, _ => rfl
  | n + 1, hn => by
    show zpN (256 * h + l) n + (256 * h + l) / 2 ^ n % 2 = zpN l n + l / 2 ^ n % 2
    rw [zpN_lo h l n (by omega)]
    have e : 256 * h = 2 ^ n * (2 * (2 ^ (7 - n) * h)) := by
      have : (256 : Nat) = 2 ^ n * (2 * 2 ^ (7 - n)) := by
        rw [show (2 : Nat) * 2 ^ (7 - n) = 2 ^ (8 - n) by rw [show 8 - n = (7 - n) + 1 by omega, Nat.pow_succ, Nat.mul_comm], ← Nat.pow_add, show n + (8 - n) = 8 by omega]
      rw [this, Nat.mul_assoc, Nat.mul_assoc]
    rw [e, Nat.mul_add_div (Nat.two_pow_pos n)]
    omega
theorem zpN_16 (x : Nat) : zpN x 16 = zpN (x / 256) 8 + zpN (x % 256) 8 := by
  have h1 := zpN_add x 8 8
  have h2 := zpN_lo (x / 256) (x % 256) 8 (by decide)
  rw [Nat.div_add_mod] at h2
  rw [show (16 : Nat) = 8 + 8 from rfl, h1, h2, Nat.add_comm]
theorem zpN_eq (x : Int) : ∀ n : Nat, zpc x n = (zpN x.toNat n : Int)
  | 0 => rfl
  | n + 1 => by
    show zpc x n + _ = ((zpN x.toNat n + x.toNat / 2 ^ n % 2 : Nat) : Int)
    rw [zpN_eq x n, Nat.testBit_eq_decide_div_mod_eq, Int.natCast_add]
    congr 1
    rcases Nat.mod_two_eq_zero_or_one (x.toNat / 2 ^ n) with q | q
    · rw [q]; rfl
    · rw [q]; rfl
theorem zB_ushN {a : Int} (ha : zBr a) {k : Int} (hk : 1 ≤ k ∧ k ≤ 31) : zBr (zi_ush a k) ∧ (zi_ush a k).toNat = a.toNat / 2 ^ k.toNat ∧ zi_ush a k ≤ a := by
  unfold zBr at *
  obtain ⟨j, hj, h1, h2⟩ := zi_ush_d a k ⟨by omega, by omega⟩
  have hjk := h2 ⟨by omega, hk.2⟩
  subst hjk
  have h3 := h1 (by omega)
  rw [Int.emod_eq_of_lt ha.1 (by omega)] at h3
  have h4 : a / ((2 ^ k.toNat : Nat) : Int) = ((a.toNat / 2 ^ k.toNat : Nat) : Int) := by
    rw [Int.natCast_ediv]
    congr 1
    omega
  rw [h4] at h3
  have h5 : a.toNat / 2 ^ k.toNat ≤ a.toNat := Nat.div_le_self _ _
  rw [h3]
  clear h1 h2 h3 h4
  generalize a.toNat / 2 ^ k.toNat = q at *
  exact ⟨⟨by omega, by omega⟩, Int.toNat_natCast _, by omega⟩
theorem zbc {x y1 y2 : Int} (h0 : 0 ≤ x) (h1 : x ≤ 65535) (e1 : y1 = zi_and (x - zi_and (zi_ush x 1) 1431655765) 858993459 + zi_and (zi_ush (x - zi_and (zi_ush x 1) 1431655765) 2) 858993459) (e2 : y2 = zi_and (y1 + zi_ush y1 4) 252645135 + zi_ush (zi_and (y1 + zi_ush y1 4) 252645135) 8) : zi_and (y2 + zi_ush y2 16) 63 = zpc x z16 := by
  rw [z16_e]
  have c1 : zBr 1431655765 := ⟨by decide, by decide⟩
  have c2 : zBr 858993459 := ⟨by decide, by decide⟩
  have c3 : zBr 252645135 := ⟨by decide, by decide⟩
  have c4 : zBr 63 := ⟨by decide, by decide⟩
  have bx : zBr x := ⟨h0, by omega⟩
  have u1 := zB_ushN bx (k := 1) (by decide)
  have n1 := zB_andN u1.1 c1
  have l1 := (zi_and_f (zi_ush x 1) 1431655765).2.1 u1.1
  have k0 := u1.2.2
  have d1 : (x - zi_and (zi_ush x 1) 1431655765).toNat = zbN1 x.toNat := by
    have q : (zi_and (zi_ush x 1) 1431655765).toNat = (x.toNat / 2 &&& 1431655765) := by rw [n1.2, u1.2.1]; rfl
    unfold zbN1
    rw [← q]
    omega
  have bd : zBr (x - zi_and (zi_ush x 1) 1431655765) := ⟨by omega, by omega⟩
  have dx : x - zi_and (zi_ush x 1) 1431655765 ≤ 65535 := by omega
  generalize x - zi_and (zi_ush x 1) 1431655765 = d at *
  have u2 := zB_ushN bd (k := 2) (by decide)
  have a1 := zB_andN bd c2
  have a2 := zB_andN u2.1 c2
  have l2 := (zi_and_f d 858993459).2.1 bd
  have l3 := (zi_and_f (zi_ush d 2) 858993459).2.1 u2.1
  have k1 := u2.2.2
  have y1N : y1.toNat = zbN2 d.toNat := by
    have q1 : (zi_and d 858993459).toNat = (d.toNat &&& 858993459) := by rw [a1.2]; rfl
    have q2 : (zi_and (zi_ush d 2) 858993459).toNat = (d.toNat / 4 &&& 858993459) := by rw [a2.2, u2.2.1]; rfl
    unfold zbN2
    rw [← q1, ← q2]
    omega
  have by1 : zBr y1 := ⟨by omega, by omega⟩
  have y1b : y1 ≤ 131070 := by omega
  have u3 := zB_ushN by1 (k := 4) (by decide)
  have k2 := u3.2.2
  have k3 := u3.1.1
  have y10 := by1.1
  have bc : zBr (y1 + zi_ush y1 4) := ⟨by omega, by omega⟩
  have a3 := zB_andN bc c3
  have l4 := (zi_and_f (y1 + zi_ush y1 4) 252645135).2.1 bc
  have zN : (zi_and (y1 + zi_ush y1 4) 252645135).toNat = zbN3 y1.toNat := by
    have q : (y1 + zi_ush y1 4).toNat = y1.toNat + y1.toNat / 16 := by
      have q2 : (zi_ush y1 4).toNat = y1.toNat / 16 := u3.2.1
      omega
    unfold zbN3
    rw [a3.2, q]
    rfl
  have zb : zi_and (y1 + zi_ush y1 4) 252645135 ≤ 262140 := by omega
  have bz : zBr (zi_and (y1 + zi_ush y1 4) 252645135) := a3.1
  clear l4 a3 bc e1
  generalize zi_and (y1 + zi_ush y1 4) 252645135 = z at *
  have u4 := zB_ushN bz (k := 8) (by decide)
  have k4 := u4.2.2
  have k5 := u4.1.1
  have z0 := bz.1
  have y2N : y2.toNat = zbN4 z.toNat := by
    have q2 : (zi_ush z 8).toNat = z.toNat / 256 := u4.2.1
    unfold zbN4
    omega
  have by2 : zBr y2 := ⟨by omega, by omega⟩
  have u5 := zB_ushN by2 (k := 16) (by decide)
  have k6 := u5.2.2
  have k7 := u5.1.1
  have y20 := by2.1
  have b5 : zBr (y2 + zi_ush y2 16) := ⟨by omega, by omega⟩
  have a5 := zB_andN b5 c4
  have rN : (zi_and (y2 + zi_ush y2 16) 63).toNat = zbN5 y2.toNat := by
    have q : (y2 + zi_ush y2 16).toNat = y2.toNat + y2.toNat / 65536 := by
      have q2 : (zi_ush y2 16).toNat = y2.toNat / 65536 := u5.2.1
      omega
    unfold zbN5
    rw [a5.2, q]
    rfl
  have fin : zbN x.toNat = zpN x.toNat 16 := by
    have := zbN_all (x.toNat / 256) (x.toNat % 256) (by omega) (by omega)
    rw [Nat.div_add_mod] at this
    rw [this, zpN_16]
  have r0 := a5.1.1
  have r1 : (zi_and (y2 + zi_ush y2 16) 63).toNat = zbN x.toNat := by
    unfold zbN
    rw [rN, y2N, zN, y1N, d1]
  rw [zpN_eq, ← fin, ← r1]
  omega
theorem zAg_eq {g : zi_M} {l v w : Int} (I : zk_I g) (D : zRA 41 243 0 16 (fun k => k) g)
    (s1 : l = -1 → zst (g 41) z16 = 65535 → v = zal (fun w => zco (g 41) z16 (zi_shl 1 w) (g 41 w) 1) z16) (s2 : l = -1 → ¬ zst (g 41) z16 = 65535 → v = -1) (s3 : 0 ≤ l → l ≤ 15 → v = zco (g 41) z16 (zi_shl 1 l) (g 41 l) 1) (s4 : l < -1 ∨ 15 < l → v = -1)
    (m1 : l = -1 → zst (fun i => i + g 243 i) z16 = 65535 → w = zal (fun w => zco (fun i => i + g 243 i) z17 0 w 0) z16) (m2 : l = -1 → ¬ zst (fun i => i + g 243 i) z16 = 65535 → w = -1) (m3 : 0 ≤ l → l ≤ 15 → w = zco (fun i => i + g 243 i) z17 0 l 0) (m4 : l < -1 ∨ 15 < l → w = -1) : w = v := by
  have e : ∀ k : Int, 0 ≤ k → k < 16 → g 41 k = (fun i => i + g 243 i) k := fun k k0 k1 => by
    have := D k k0 k1
    show g 41 k = k + g 243 k
    have h2 : g 41 k = g 243 (0 + k) + k := this
    rw [Int.zero_add] at h2
    omega
  have hr : ∀ k : Int, 0 ≤ g 41 k ∧ g 41 k ≤ 15 := fun k => I.1 41 k
  have hc : ∀ k : Int, 0 ≤ k → k < 16 → zco (g 41) z16 (zi_shl 1 k) (g 41 k) 1 = zco (fun i => i + g 243 i) z17 0 k 0 := fun k k0 k1 => by
    have ek : g 41 k = k + g 243 k := e k k0 k1
    rw [zco_0 ⟨k0, by omega⟩, ← ek]
    exact zco_c e hr z16 _ _ _ (hr k).1 (hr k).2
  have hs := zst_c (f := g 41) (h := fun i => i + g 243 i) z16 (fun k k0 k1 => e k k0 (by rw [z16_e] at k1; omega))
  by_cases q : l = -1
  · by_cases q2 : zst (g 41) z16 = 65535
    · rw [s1 q q2, m1 q (hs ▸ q2)]
      exact (zal_c z16 (fun k k0 k1 => hc k k0 (by rw [z16_e] at k1; omega))).symm
    · rw [s2 q q2, m2 q (hs ▸ q2)]
  · by_cases q3 : 0 ≤ l ∧ l ≤ 15
    · rw [s3 q3.1 q3.2, m3 q3.1 q3.2]
      exact (hc l q3.1 (by omega)).symm
    · rw [s4 (by omega), m4 (by omega)]
