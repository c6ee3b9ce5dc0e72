-- AGAIN: how many unlike ones come
noncomputable def zco (f : Int → Int) : Nat → Int → Int → Int → Int
  | 0, _, _, _ => -1
  | k + 1, s, a, n => if zi_and (zi_shr s a) 1 = 1 then n else zco f k (zi_or s (zi_shl 1 a)) (f a) (n + 1)
theorem zco_i {f : Int → Int} {s a n : Int} {k m : Nat} (h : k = m) : zco f k s a n = zco f m s a n := by rw [h]
theorem zco_st {f : Int → Int} {s a n x : Int} {k m : Nat} (h : zco f k s a n = x) (hn : ¬ zi_and (zi_shr s a) 1 = 1) (hk : k = m + 1) : zco f m (zi_or s (zi_shl 1 a)) (f a) (n + 1) = x := by
  rw [hk] at h
  unfold zco at h
  rw [if_neg hn] at h
  exact h
theorem zco_x {f : Int → Int} {s a n x : Int} {k : Nat} (h : zco f k s a n = x) (hc : zi_and (zi_shr s a) 1 = 1) (hk : 1 ≤ k) : n = x := by
  obtain ⟨m, rfl⟩ : ∃ m, k = m + 1 := ⟨k - 1, by omega⟩
  unfold zco at h
  rw [if_pos hc] at h
  exact h
theorem zco_e {f : Int → Int} {s a n x : Int} {k : Nat} (h : zco f k s a n = x) (hk : k = 0) : -1 = x := by
  rw [hk] at h
  exact h
theorem zpc_16 {s n : Int} (h : zpc s 16 = n) : 0 ≤ n ∧ n ≤ 16 := by
  have := zpc_b s 16
  omega
theorem zpc_z : ∀ n : Nat, zpc 0 n = 0
  | 0 => rfl
  | n + 1 => by
    show zpc 0 n + _ = 0
    rw [zpc_z n, show (0 : Int).toNat = 0 from rfl, Nat.zero_testBit, if_neg Bool.false_ne_true]
    rfl
theorem zpc_st {s a n : Int} (h : zpc s 16 = n) (hn : ¬ zi_and (zi_shr s a) 1 = 1) (hs : 0 ≤ s ∧ s ≤ 65535) (ha : 0 ≤ a ∧ a ≤ 15) : zpc (zi_or s (zi_shl 1 a)) 16 = n + 1 := by
  have hb : zBr s := ⟨hs.1, by omega⟩
  rw [zB_has hb ⟨ha.1, by omega⟩] at hn
  have := (zpc_new (s := s) (t := zi_or s (zi_shl 1 a)) ha.1 hn (fun k k0 => zB_add hb ⟨ha.1, by omega⟩ k0) 16).1 (by omega)
  omega
/-- the first look finds nothing -/
theorem zco_0 {f : Int → Int} {w : Int} (hw : 0 ≤ w ∧ w ≤ 15) : zco f 17 0 w 0 = zco f 16 (zi_shl 1 w) (f w) 1 := by
  have hn : ¬ zi_and (zi_shr 0 w) 1 = 1 := by
    rw [zB_has ⟨by omega, by omega⟩ ⟨hw.1, by omega⟩]
    exact zB_0 w
  have h := zco_st (f := f) (s := 0) (a := w) (n := 0) (k := 17) (m := 16) rfl hn rfl
  rw [show zi_or 0 (zi_shl 1 w) = zi_shl 1 w from ?_] at h
  · exact h.symm
  · have hb : zBr 0 := ⟨by omega, by omega⟩
    have hs := zB_shlN (j := w) ⟨hw.1, by omega⟩
    have ho := zB_orN hb hs.1
    have : (zi_or 0 (zi_shl 1 w)).toNat = (zi_shl 1 w).toNat := by rw [ho.2]; exact Nat.zero_or _
    have h1 := ho.1.1
    have h2 := hs.1.1
    omega
theorem zco_c {f h : Int → Int} (e : ∀ k : Int, 0 ≤ k → k < 16 → f k = h k) (hf : ∀ k : Int, 0 ≤ f k ∧ f k ≤ 15) : ∀ (k : Nat) (s a n : Int), 0 ≤ a → a ≤ 15 → zco f k s a n = zco h k s a n
  | 0, _, _, _, _, _ => rfl
  | k + 1, s, a, n, h0, h1 => by
    unfold zco
    split
    · rfl
    · rw [e a h0 (by omega)] at *
      have := zco_c e hf k (zi_or s (zi_shl 1 a)) (h a) (n + 1) (by rw [← e a h0 (by omega)]; exact (hf a).1) (by rw [← e a h0 (by omega)]; exact (hf a).2)
      exact this
/-- how many come is no more than 16 -/
theorem zco_le {f : Int → Int} : ∀ (k : Nat) (s a n : Int), zco f k s a n ≤ max (-1) (n + k)
  | 0, _, _, _ => by unfold zco; omega
  | k + 1, s, a, n => by
    unfold zco
    split
    · omega
    · have := zco_le (f := f) k (zi_or s (zi_shl 1 a)) (f a) (n + 1)
      omega
-- the least common multiple
noncomputable def zcm (a b i : Int) : Prop := 1 ≤ a → a ≤ 720720 → 1 ≤ b → ∀ j : Int, 1 ≤ j → j < i → ¬ b ∣ a * j
theorem zcm_0 {a b : Int} : zcm a b 1 := fun _ _ _ j h0 h1 => by exfalso; omega
theorem zwr_id {a : Int} (h : zi_r a) : zi_w a = a := zi_to h
theorem zcm_w {a i : Int} (ha : 1 ≤ a) (ha2 : a ≤ 720720) (hi : 1 ≤ i ∧ i ≤ 16) : zi_w (a * i) = a * i ∧ 1 ≤ a * i := by
  have h1 : a * i ≤ 720720 * 16 := Int.mul_le_mul ha2 hi.2 (by omega) (by omega)
  have h2 : 1 * 1 ≤ a * i := Int.mul_le_mul ha hi.1 (by omega) (by omega)
  exact ⟨zwr_id ⟨by omega, by omega⟩, by omega⟩
theorem zcm_d {a b i : Int} (ha : 1 ≤ a) (ha2 : a ≤ 720720) (hi : 1 ≤ i ∧ i ≤ 16) (hb : 1 ≤ b) : Int.tmod (zi_w (a * i)) b = 0 ↔ b ∣ a * i := by
  have hw := zcm_w ha ha2 hi
  rw [hw.1, Int.tmod_eq_emod_of_nonneg (by omega)]
  exact ⟨Int.dvd_of_emod_eq_zero, Int.emod_eq_zero_of_dvd⟩
theorem zcm_st {a b i : Int} (h : zcm a b i) (hi : 1 ≤ i ∧ i ≤ 16) (hc : ¬ Int.tmod (zi_w (a * i)) b = 0) : zcm a b (i + 1) := fun ha ha2 hb j j0 j1 => by
  by_cases e : j = i
  · rw [e, ← zcm_d ha ha2 hi hb]; exact hc
  · exact h ha ha2 hb j j0 (by omega)
theorem zcm_n {a b i : Int} {X : Prop} (h : zcm a b i) (hi : b < i) : 1 ≤ a → a ≤ 720720 → 1 ≤ b → X := fun ha ha2 hb =>
  absurd (Int.dvd_mul_left a b) (h ha ha2 hb b (by omega) hi)
theorem zcm_x {a b i : Int} (h : zcm a b i) (hc : Int.tmod (zi_w (a * i)) b = 0) (hi : 1 ≤ i ∧ i ≤ 16) : 1 ≤ a → a ≤ 720720 → 1 ≤ b → zi_w (a * i) = ((Nat.lcm a.toNat b.toNat : Nat) : Int) := fun ha ha2 hb => by
  have hm := h ha ha2 hb
  rw [zcm_d ha ha2 hi hb] at hc
  rw [(zcm_w ha ha2 hi).1]
  obtain ⟨A, rfl⟩ : ∃ A : Nat, a = (A : Int) := ⟨a.toNat, by omega⟩
  obtain ⟨B, rfl⟩ : ∃ B : Nat, b = (B : Int) := ⟨b.toNat, by omega⟩
  obtain ⟨J, rfl⟩ : ∃ J : Nat, i = (J : Int) := ⟨i.toNat, by omega⟩
  rw [Int.toNat_natCast, Int.toNat_natCast]
  have hc' : B ∣ A * J := by
    have : ((B : Nat) : Int) ∣ ((A * J : Nat) : Int) := by rw [Int.natCast_mul]; exact hc
    exact Int.natCast_dvd_natCast.1 this
  obtain ⟨q, hq⟩ := Nat.dvd_lcm_left A B
  have hB : B ∣ A * q := by rw [← hq]; exact Nat.dvd_lcm_right A B
  have hl : Nat.lcm A B ∣ A * J := Nat.lcm_dvd (Nat.dvd_mul_right A J) hc'
  have h1 : A * q ≤ A * J := by rw [← hq]; exact Nat.le_of_dvd (Nat.mul_pos (by omega) (by omega)) hl
  have h2 : q ≤ J := Nat.le_of_mul_le_mul_left h1 (by omega)
  have h3 : 0 < Nat.lcm A B := Nat.lcm_pos (by omega) (by omega)
  have h4 : 1 ≤ q := by
    rcases Nat.eq_zero_or_pos q with z | z
    · rw [z, Nat.mul_zero] at hq; omega
    · exact z
  have h5 : ¬ q < J := fun z => hm (q : Int) (by omega) (by omega) (by rw [← Int.natCast_mul]; exact Int.natCast_dvd_natCast.2 hB)
  rw [hq, ← Int.natCast_mul]
  have : q = J := by omega
  rw [this]
-- the greatest common one
noncomputable def zgc (a b x y : Int) : Prop := 1 ≤ a → 1 ≤ b → 0 ≤ x ∧ 0 ≤ y ∧ Nat.gcd x.toNat y.toNat = Nat.gcd a.toNat b.toNat
theorem zgc_0 {a b : Int} : zgc a b a b := fun h0 h1 => ⟨by omega, by omega, rfl⟩
theorem zgc_st {a b x y z : Int} (h : zgc a b x y) (hy : ¬ y = 0) (e : ¬ y = 0 → z = Int.tmod x y) : zgc a b y z := fun h0 h1 => by
  obtain ⟨a1, a2, a3⟩ := h h0 h1
  have ez : z = x % y := by rw [e hy, Int.tmod_eq_emod_of_nonneg a1]
  have b1 := Int.emod_nonneg x (b := y) (by omega)
  refine ⟨a2, by omega, ?_⟩
  rw [← a3, Nat.gcd_comm x.toNat, Nat.gcd_rec y.toNat x.toNat, Nat.gcd_comm, ez]
  congr 1
  obtain ⟨X, rfl⟩ : ∃ X : Nat, x = (X : Int) := ⟨x.toNat, by omega⟩
  obtain ⟨Y, rfl⟩ : ∃ Y : Nat, y = (Y : Int) := ⟨y.toNat, by omega⟩
  rw [← Int.natCast_emod, Int.toNat_natCast, Int.toNat_natCast, Int.toNat_natCast]
theorem zgc_x {a b x y : Int} (h : zgc a b x y) (hy : y = 0) : 1 ≤ a → 1 ≤ b → x = ((Nat.gcd a.toNat b.toNat : Nat) : Int) := fun h0 h1 => by
  obtain ⟨a1, a2, a3⟩ := h h0 h1
  rw [← a3, hy, show (0 : Int).toNat = 0 from rfl, Nat.gcd_zero_right]
  omega
-- all of them
noncomputable def zal (f : Int → Int) : Nat → Int
  | 0 => 1
  | n + 1 => ((Nat.lcm (zal f n).toNat (f n).toNat : Nat) : Int)
theorem zal_b {f : Int → Int} (hf : ∀ k : Int, 0 ≤ k → k ≤ 15 → 1 ≤ f k ∧ f k ≤ 16) : ∀ n : Nat, n ≤ 16 → 1 ≤ zal f n ∧ (zal f n).toNat ∣ 720720
  | 0, _ => ⟨by decide, by unfold zal; exact Nat.one_dvd _⟩
  | n + 1, h => by
    have ih := zal_b hf n (by omega)
    have hn := hf (n : Int) (by omega) (by omega)
    unfold zal
    have h1 : 0 < Nat.lcm (zal f n).toNat (f n).toNat := Nat.lcm_pos (by omega) (by omega)
    refine ⟨by omega, ?_⟩
    rw [Int.toNat_natCast]
    refine Nat.lcm_dvd ih.2 ?_
    have hd : ∀ k : Nat, k < 17 → 1 ≤ k → k ∣ 720720 := by decide
    exact hd _ (by omega) (by omega)
theorem zal_le {f : Int → Int} (hf : ∀ k : Int, 0 ≤ k → k ≤ 15 → 1 ≤ f k ∧ f k ≤ 16) {n : Nat} (h : n ≤ 16) : 1 ≤ zal f n ∧ zal f n ≤ 720720 := by
  have h1 := zal_b hf n h
  have h2 := Nat.le_of_dvd (by decide) h1.2
  omega
theorem zal_c {f h : Int → Int} : ∀ n : Nat, (∀ k : Int, 0 ≤ k → k < (n : Int) → f k = h k) → zal f n = zal h n
  | 0, _ => rfl
  | n + 1, e => by
    unfold zal
    rw [zal_c n (fun k h0 h1 => e k h0 (by omega)), e (n : Int) (by omega) (by omega)]
theorem zal_s {f : Int → Int} {i a v w : Int} (ha : a = zal f i.toNat) (hv : v = f i) (h0 : 0 ≤ i) (hw : w = ((Nat.lcm a.toNat v.toNat : Nat) : Int)) : w = zal f (i + 1).toNat := by
  rw [show (i + 1).toNat = i.toNat + 1 by omega]
  unfold zal
  rw [show ((i.toNat : Nat) : Int) = i by omega, hw, ha, hv]
theorem zal_d {a v w : Int} (hb : 1 ≤ a ∧ a.toNat ∣ 720720) (hv : 1 ≤ v ∧ v ≤ 16) (hw : w = ((Nat.lcm a.toNat v.toNat : Nat) : Int)) : 1 ≤ w ∧ w.toNat ∣ 720720 := by
  have h1 : 0 < Nat.lcm a.toNat v.toNat := Nat.lcm_pos (by omega) (by omega)
  have hd : ∀ k : Nat, k < 17 → 1 ≤ k → k ∣ 720720 := by decide
  refine ⟨by omega, ?_⟩
  rw [hw, Int.toNat_natCast]
  exact Nat.lcm_dvd hb.2 (hd _ (by omega) (by omega))
theorem zal_bd {a : Int} (hb : 1 ≤ a ∧ a.toNat ∣ 720720) : 1 ≤ a ∧ a ≤ 720720 := by
  have h2 := Nat.le_of_dvd (by decide) hb.2
  omega
/-- the class's step -/
theorem zal_st {f : Int → Int} {i a v w : Int} (hw : 1 ≤ a → a ≤ 720720 → 1 ≤ v → w = ((Nat.lcm a.toNat v.toNat : Nat) : Int)) (ha : a = zal f i.toNat) (hb : 1 ≤ a ∧ a.toNat ∣ 720720) (hv : v = f i) (hv1 : 1 ≤ v ∧ v ≤ 16) (h0 : 0 ≤ i) : w = zal f (i + 1).toNat :=
  zal_s ha hv h0 (hw (zal_bd hb).1 (zal_bd hb).2 hv1.1)
theorem zal_sd {a v w : Int} (hw : 1 ≤ a → a ≤ 720720 → 1 ≤ v → w = ((Nat.lcm a.toNat v.toNat : Nat) : Int)) (hb : 1 ≤ a ∧ a.toNat ∣ 720720) (hv1 : 1 ≤ v ∧ v ≤ 16) : 1 ≤ w ∧ w.toNat ∣ 720720 :=
  zal_d hb hv1 (hw (zal_bd hb).1 (zal_bd hb).2 hv1.1)
/-- the reference's step -/
theorem zal_mw {a v d u : Int} (hg : 1 ≤ a → 1 ≤ v → d = ((Nat.gcd a.toNat v.toNat : Nat) : Int)) (hb : 1 ≤ a ∧ a.toNat ∣ 720720) (hv : 1 ≤ v ∧ v ≤ 16) (e : u = v) : zi_w (Int.tdiv a d * u) = ((Nat.lcm a.toNat v.toNat : Nat) : Int) := by
  have hb2 := zal_bd hb
  have hd := hg hb2.1 hv.1
  obtain ⟨A, rfl⟩ : ∃ A : Nat, a = (A : Int) := ⟨a.toNat, by omega⟩
  obtain ⟨V, rfl⟩ : ∃ V : Nat, v = (V : Int) := ⟨v.toNat, by omega⟩
  rw [Int.toNat_natCast, Int.toNat_natCast] at *
  have hp : 0 < Nat.gcd A V := Nat.gcd_pos_of_pos_left V (by omega)
  rw [e, hd, Int.tdiv_eq_ediv_of_nonneg (by omega), ← Int.natCast_ediv, ← Int.natCast_mul]
  have h1 : A / Nat.gcd A V * V = Nat.lcm A V := by
    unfold Nat.lcm
    rw [Nat.mul_comm A V, Nat.mul_div_assoc V (Nat.gcd_dvd_left A V), Nat.mul_comm]
  rw [h1]
  have h2 : Nat.lcm A V ∣ 720720 := by
    have := (zal_d (a := (A : Int)) (v := (V : Int)) (w := ((Nat.lcm A V : Nat) : Int)) ⟨by omega, by rw [Int.toNat_natCast]; exact hb.2⟩ ⟨by omega, by omega⟩ (by rw [Int.toNat_natCast, Int.toNat_natCast])).2
    rw [Int.toNat_natCast] at this
    exact this
  have h3 := Nat.le_of_dvd (by decide) h2
  exact zwr_id ⟨by omega, by omega⟩
theorem zal_mst {f : Int → Int} {i a v d u : Int} (hg : 1 ≤ a → 1 ≤ v → d = ((Nat.gcd a.toNat v.toNat : Nat) : Int)) (ha : a = zal f i.toNat) (hb : 1 ≤ a ∧ a.toNat ∣ 720720) (hv : v = f i) (hu : u = f i) (hv1 : 1 ≤ v ∧ v ≤ 16) (h0 : 0 ≤ i) : zi_w (Int.tdiv a d * u) = zal f (i + 1).toNat :=
  zal_s ha hv h0 (zal_mw hg hb hv1 (hu.trans hv.symm))
theorem zal_msd {f : Int → Int} {i a v d u : Int} (hg : 1 ≤ a → 1 ≤ v → d = ((Nat.gcd a.toNat v.toNat : Nat) : Int)) (hb : 1 ≤ a ∧ a.toNat ∣ 720720) (hv : v = f i) (hu : u = f i) (hv1 : 1 ≤ v ∧ v ≤ 16) : 1 ≤ zi_w (Int.tdiv a d * u) ∧ (zi_w (Int.tdiv a d * u)).toNat ∣ 720720 :=
  zal_d hb hv1 (zal_mw hg hb hv1 (hu.trans hv.symm))
theorem zal_e {f : Int → Int} {a : Int} {n m : Nat} (h : a = zal f n) (e : n = m) : a = zal f m := by rw [← e]; exact h
theorem zal_1 {f : Int → Int} : (1 : Int) = zal f (0 : Int).toNat := rfl
-- all that are told to
noncomputable def zst (f : Int → Int) : Nat → Int
  | 0 => 0
  | n + 1 => zi_or (zst f n) (zi_shl 1 (f n))
theorem zst_s {f : Int → Int} {s i : Int} (h : s = zst f i.toNat) (h0 : 0 ≤ i) : zi_or s (zi_shl 1 (f i)) = zst f (i + 1).toNat := by
  rw [show (i + 1).toNat = i.toNat + 1 by omega]
  unfold zst
  rw [show ((i.toNat : Nat) : Int) = i by omega, h]
theorem zst_e {f : Int → Int} {a : Int} {n m : Nat} (h : a = zst f n) (e : n = m) : a = zst f m := by rw [← e]; exact h
theorem zst_c {f h : Int → Int} : ∀ n : Nat, (∀ k : Int, 0 ≤ k → k < (n : Int) → f k = h k) → zst f n = zst h n
  | 0, _ => rfl
  | n + 1, e => by
    unfold zst
    rw [zst_c n (fun k h0 h1 => e k h0 (by omega)), e (n : Int) (by omega) (by omega)]
theorem zpc_1 {w : Int} (hw : 0 ≤ w ∧ w ≤ 15) : zpc (zi_shl 1 w) 16 = 1 := by
  have h := (zpc_new (s := 0) (t := zi_shl 1 w) hw.1 (zB_0 w) (fun k k0 => by
    rw [zB_shl ⟨hw.1, by omega⟩ k0]
    exact ⟨Or.inr, fun z => z.elim (fun y => absurd y (zB_0 k)) id⟩) 16).1 (by omega)
  rw [h, zpc_z]
  rfl
theorem zpc_full {s : Int} : ∀ n : Nat, zpc s n = (n : Int) ↔ ∀ k : Int, 0 ≤ k → k < (n : Int) → zB_ s k
  | 0 => ⟨fun _ k h0 h1 => by exfalso; omega, fun _ => rfl⟩
  | n + 1 => by
    have ih := zpc_full (s := s) n
    have hb := zpc_b s n
    have hu : zpc s (n + 1) = zpc s n + (if s.toNat.testBit n = true then 1 else 0) := rfl
    constructor
    · intro h k h0 h1
      rw [hu] at h
      by_cases q : s.toNat.testBit n = true
      · rw [if_pos q] at h
        by_cases e : k = (n : Int)
        · unfold zB_
          rw [e, Int.toNat_natCast]
          exact q
        · exact ih.1 (by omega) k h0 (by omega)
      · rw [if_neg q] at h
        exfalso
        omega
    · intro h
      have hn := h (n : Int) (by omega) (by omega)
      unfold zB_ at hn
      rw [Int.toNat_natCast] at hn
      rw [hu, if_pos hn, ih.2 (fun k h0 h1 => h k h0 (by omega))]
      omega
theorem zpc_65535 {s : Int} (hs : 0 ≤ s ∧ s ≤ 65535) : zpc s 16 = 16 ↔ s = 65535 := by
  have h1 := zpc_full (s := s) 16
  have h2 := zB_all (s := s) (n := 16) hs.1 (by omega)
  rw [show ((2 ^ 16 - 1 : Nat) : Int) = 65535 by decide] at h2
  rw [h2]
  exact h1
theorem zbc_p {s k v : Int} (e : k = s) (b : 0 ≤ k ∧ k ≤ 65535) (hv : 0 ≤ k → k ≤ 65535 → v = zpc k 16) (h : v < 16) : ¬ s = 65535 := fun q => by
  have h1 := hv b.1 b.2
  have h2 := (zpc_65535 b).2 (e.trans q)
  omega
theorem zbc_q {s k v : Int} (e : k = s) (b : 0 ≤ k ∧ k ≤ 65535) (hv : 0 ≤ k → k ≤ 65535 → v = zpc k 16) (h : 16 ≤ v) : s = 65535 := by
  have h1 := hv b.1 b.2
  have h3 := zpc_b k 16
  rw [← e]
  exact (zpc_65535 b).1 (by omega)
theorem zM_row {fr : Nat → Int → Prop} {g g' : zi_M} {a : Nat} (F : zk_fr fr g g') (h : ∀ i : Int, ¬ fr a i) : g' a = g a := funext (fun i => F a i (h i))
-- the JDK's way to count
noncomputable def zbN1 (x : Nat) : Nat := Nat.sub x (Nat.land (Nat.shiftRight x 1) 1431655765)
noncomputable def zbN2 (d : Nat) : Nat := Nat.add (Nat.land d 858993459) (Nat.land (Nat.shiftRight d 2) 858993459)
noncomputable def zbN3 (y : Nat) : Nat := Nat.land (Nat.add y (Nat.shiftRight y 4)) 252645135
noncomputable def zbN4 (z : Nat) : Nat := Nat.add z (Nat.shiftRight z 8)
noncomputable def zbN5 (y : Nat) : Nat := Nat.land (Nat.add y (Nat.shiftRight y 16)) 63
noncomputable def zbN (x : Nat) : Nat := zbN5 (zbN4 (zbN3 (zbN2 (zbN1 x))))
noncomputable def zpN (x : Nat) : Nat → Nat
  | 0 => 0
  | n + 1 => Nat.add (zpN x n) (Nat.land (Nat.shiftRight x n) 1)
theorem zbN_all : ∀ h : Nat, h < 256 → (∀ l : Nat, l < 256 → Nat.beq (zbN (Nat.add (Nat.mul 256 h) l)) (zpN (Nat.add (Nat.mul 256 h) l) 16) = true) := by decide +kernel
theorem zpN_eq (x : Int) : ∀ n : Nat, zpc x n = (zpN x.toNat n : Int)
  | 0 => rfl
  | n + 1 => by
    show zpc x n + _ = ((zpN x.toNat n + (x.toNat >>> n &&& 1) : Nat) : Int)
    rw [zpN_eq x n, Nat.testBit, Int.natCast_add]
    congr 1
    have h1 : 1 &&& x.toNat >>> n = x.toNat >>> n &&& 1 := Nat.and_comm _ _
    rw [h1]
    have h2 : x.toNat >>> n &&& 1 = x.toNat >>> n % 2 := Nat.and_one_is_mod _
    rw [h2]
    rcases Nat.mod_two_eq_zero_or_one (x.toNat >>> n) with q | q
    · rw [q]; rfl
    · rw [q]; rfl
theorem zB_ushN {a : Int} (ha : zBr a) {k : Int} (hk : 1 ≤ k ∧ k ≤ 31) : zBr (zi_ush a k) ∧ (zi_ush a k).toNat = Nat.shiftRight a.toNat k.toNat ∧ zi_ush a k ≤ a := by
  unfold zBr at *
  obtain ⟨j, hj, h1, h2⟩ := zi_ush_d a k ⟨by omega, by omega⟩
  have hjk := h2 ⟨by omega, hk.2⟩
  subst hjk
  have h3 := h1 (by omega)
  rw [Int.emod_eq_of_lt ha.1 (by omega)] at h3
  have h4 : a / ((2 ^ k.toNat : Nat) : Int) = ((a.toNat / 2 ^ k.toNat : Nat) : Int) := by
    rw [Int.natCast_ediv]
    congr 1
    omega
  rw [h4] at h3
  have h5 : a.toNat / 2 ^ k.toNat ≤ a.toNat := Nat.div_le_self _ _
  have h6 : Nat.shiftRight a.toNat k.toNat = a.toNat / 2 ^ k.toNat := Nat.shiftRight_eq_div_pow _ _
  rw [h3, h6]
  exact ⟨⟨by omega, by omega⟩, Int.toNat_natCast _, by omega⟩
theorem zbc {x y1 y2 : Int} (h0 : 0 ≤ x) (h1 : x ≤ 65535) (e1 : y1 = zi_and (x - zi_and (zi_ush x 1) 1431655765) 858993459 + zi_and (zi_ush (x - zi_and (zi_ush x 1) 1431655765) 2) 858993459) (e2 : y2 = zi_and (y1 + zi_ush y1 4) 252645135 + zi_ush (zi_and (y1 + zi_ush y1 4) 252645135) 8) : zi_and (y2 + zi_ush y2 16) 63 = zpc x 16 := by
  have c1 : zBr 1431655765 := ⟨by decide, by decide⟩
  have c2 : zBr 858993459 := ⟨by decide, by decide⟩
  have c3 : zBr 252645135 := ⟨by decide, by decide⟩
  have c4 : zBr 63 := ⟨by decide, by decide⟩
  have bx : zBr x := ⟨h0, by omega⟩
  have u1 := zB_ushN bx (k := 1) (by decide)
  have n1 := zB_andN u1.1 c1
  have l1 := (zi_and_f (zi_ush x 1) 1431655765).2.1 u1.1
  have d1 : (x - zi_and (zi_ush x 1) 1431655765).toNat = zbN1 x.toNat := by
    have : (zi_and (zi_ush x 1) 1431655765).toNat = Nat.land (Nat.shiftRight x.toNat 1) 1431655765 := by rw [n1.2, u1.2.1]; rfl
    show _ = Nat.sub x.toNat _
    rw [← this]
    show _ = x.toNat - _
    have := u1.2.2
    omega
  have bd : zBr (x - zi_and (zi_ush x 1) 1431655765) := by
    have := u1.2.2
    exact ⟨by omega, by omega⟩
  generalize x - zi_and (zi_ush x 1) 1431655765 = d at *
  have dx : d ≤ 65535 := by
    have h : d.toNat ≤ x.toNat := by rw [d1]; exact Nat.sub_le _ _
    omega
  have u2 := zB_ushN bd (k := 2) (by decide)
  have a1 := zB_andN bd c2
  have a2 := zB_andN u2.1 c2
  have l2 := (zi_and_f d 858993459).2.1 bd
  have l3 := (zi_and_f (zi_ush d 2) 858993459).2.1 u2.1
  have k1 := u2.2.2
  have y1N : y1.toNat = zbN2 d.toNat := by
    show _ = Nat.add (Nat.land d.toNat 858993459) (Nat.land (Nat.shiftRight d.toNat 2) 858993459)
    have q1 : (zi_and d 858993459).toNat = Nat.land d.toNat 858993459 := by rw [a1.2]; rfl
    have q2 : (zi_and (zi_ush d 2) 858993459).toNat = Nat.land (Nat.shiftRight d.toNat 2) 858993459 := by rw [a2.2, u2.2.1]; rfl
    rw [← q1, ← q2]
    show _ = _ + _
    omega
  have by1 : zBr y1 := ⟨by omega, by omega⟩
  have u3 := zB_ushN by1 (k := 4) (by decide)
  have k2 := u3.2.2
  have k3 := u3.1.1
  have bc : zBr (y1 + zi_ush y1 4) := ⟨by omega, by omega⟩
  have a3 := zB_andN bc c3
  have l4 := (zi_and_f (y1 + zi_ush y1 4) 252645135).2.1 bc
  have zN : (zi_and (y1 + zi_ush y1 4) 252645135).toNat = zbN3 y1.toNat := by
    show _ = Nat.land (Nat.add y1.toNat (Nat.shiftRight y1.toNat 4)) 252645135
    rw [a3.2]
    have q : (y1 + zi_ush y1 4).toNat = Nat.add y1.toNat (Nat.shiftRight y1.toNat 4) := by
      have : (zi_ush y1 4).toNat = Nat.shiftRight y1.toNat 4 := u3.2.1
      rw [← this]
      show _ = _ + _
      omega
    rw [q]
    rfl
  generalize zi_and (y1 + zi_ush y1 4) 252645135 = z at *
  have bz : zBr z := a3.1
  have u4 := zB_ushN bz (k := 8) (by decide)
  have k4 := u4.2.2
  have k5 := u4.1.1
  have y2N : y2.toNat = zbN4 z.toNat := by
    show _ = Nat.add z.toNat (Nat.shiftRight z.toNat 8)
    have : (zi_ush z 8).toNat = Nat.shiftRight z.toNat 8 := u4.2.1
    rw [← this]
    show _ = _ + _
    have := bz.1
    omega
  have by2 : zBr y2 := ⟨by have := bz.1; omega, by omega⟩
  have u5 := zB_ushN by2 (k := 16) (by decide)
  have k6 := u5.2.2
  have k7 := u5.1.1
  have b5 : zBr (y2 + zi_ush y2 16) := ⟨by have := by2.1; omega, by omega⟩
  have a5 := zB_andN b5 c4
  have rN : (zi_and (y2 + zi_ush y2 16) 63).toNat = zbN5 y2.toNat := by
    show _ = Nat.land (Nat.add y2.toNat (Nat.shiftRight y2.toNat 16)) 63
    rw [a5.2]
    have q : (y2 + zi_ush y2 16).toNat = Nat.add y2.toNat (Nat.shiftRight y2.toNat 16) := by
      have : (zi_ush y2 16).toNat = Nat.shiftRight y2.toNat 16 := u5.2.1
      rw [← this]
      show _ = _ + _
      have := by2.1
      omega
    rw [q]
    rfl
  have fin : zbN x.toNat = zpN x.toNat 16 := by
    have := zbN_all (x.toNat / 256) (by omega) (x.toNat % 256) (by omega)
    rw [show Nat.add (Nat.mul 256 (x.toNat / 256)) (x.toNat % 256) = x.toNat from Nat.div_add_mod _ _] at this
    exact Nat.eq_of_beq_eq_true this
  rw [zpN_eq, ← fin]
  have : (zi_and (y2 + zi_ush y2 16) 63).toNat = zbN x.toNat := by
    show _ = zbN5 (zbN4 (zbN3 (zbN2 (zbN1 x.toNat))))
    rw [rN, y2N, zN, y1N, d1]
  have := a5.1.1
  omega
theorem zAg_eq {g : zi_M} {l v w : Int} (I : zk_I g) (D : zRA 41 243 0 16 (fun k => k) g)
    (s1 : l = -1 → zst (g 41) 16 = 65535 → v = zal (fun w => zco (g 41) 16 (zi_shl 1 w) (g 41 w) 1) 16) (s2 : l = -1 → ¬ zst (g 41) 16 = 65535 → v = -1) (s3 : 0 ≤ l → l ≤ 15 → v = zco (g 41) 16 (zi_shl 1 l) (g 41 l) 1) (s4 : l < -1 ∨ 15 < l → v = -1)
    (m1 : l = -1 → zst (fun i => i + g 243 i) 16 = 65535 → w = zal (fun w => zco (fun i => i + g 243 i) 17 0 w 0) 16) (m2 : l = -1 → ¬ zst (fun i => i + g 243 i) 16 = 65535 → w = -1) (m3 : 0 ≤ l → l ≤ 15 → w = zco (fun i => i + g 243 i) 17 0 l 0) (m4 : l < -1 ∨ 15 < l → w = -1) : w = v := by
  have e : ∀ k : Int, 0 ≤ k → k < 16 → g 41 k = (fun i => i + g 243 i) k := fun k k0 k1 => by
    have := D k k0 k1
    beta_reduce at this ⊢
    rw [Int.zero_add] at this
    omega
  have hr : ∀ k : Int, 0 ≤ g 41 k ∧ g 41 k ≤ 15 := fun k => I.1 41 k
  have hc : ∀ k : Int, 0 ≤ k → k < 16 → zco (g 41) 16 (zi_shl 1 k) (g 41 k) 1 = zco (fun i => i + g 243 i) 17 0 k 0 := fun k k0 k1 => by
    rw [zco_0 ⟨k0, by omega⟩, ← e k k0 k1]
    exact zco_c e hr 16 _ _ _ (hr k).1 (hr k).2
  have hs := zst_c (f := g 41) (h := fun i => i + g 243 i) 16 e
  by_cases q : l = -1
  · by_cases q2 : zst (g 41) 16 = 65535
    · rw [s1 q q2, m1 q (hs ▸ q2)]
      exact (zal_c 16 (fun k k0 k1 => hc k k0 k1)).symm
    · rw [s2 q q2, m2 q (hs ▸ q2)]
  · by_cases q3 : 0 ≤ l ∧ l ≤ 15
    · rw [s3 q3.1 q3.2, m3 q3.1 q3.2]
      exact (hc l q3.1 (by omega)).symm
    · rw [s4 (by omega), m4 (by omega)]
