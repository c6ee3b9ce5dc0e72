-- ROWS BY HAND on which the k-texts stand
theorem zi_or_new {s k : Int} (hs : 0 ≤ s ∧ s ≤ 65535) (hk : 0 ≤ k ∧ k ≤ 15) (h : ¬ zi_and (zi_shr s k) 1 = 1) : s < zi_or s (zi_shl 1 k) := by
  rw [zi_has ⟨hs.1, by omega⟩ ⟨hk.1, by omega⟩] at h
  have h1 := zi_shl1 (k := k) ⟨hk.1, by omega⟩
  have hb := (zi_shl_f k).2.1 ⟨hk.1, by omega⟩
  have hN := zi_or_N s (zi_shl 1 k)
  rw [zi_ofN hs.1 (by omega), zi_ofN (a := zi_shl 1 k) (by omega) (by omega)] at hN
  have h2 : (zi_shl 1 k).toNat = 2 ^ k.toNat := by rw [h1]; rfl
  rw [h2] at hN
  have h3 : (2 : Nat) ^ k.toNat < 2 ^ 16 := Nat.pow_lt_pow_right (by decide) (by omega)
  have h4 : s.toNat ||| 2 ^ k.toNat < 2 ^ 16 := Nat.or_lt_two_pow (by omega) h3
  have h5 := zi_toN (Int32.ofInt s ||| Int32.ofInt (zi_shl 1 k)) (by rw [hN]; omega)
  have h6 : zi_or s (zi_shl 1 k) = ((s.toNat ||| 2 ^ k.toNat : Nat) : Int) := by
    show (Int32.ofInt s ||| Int32.ofInt (zi_shl 1 k)).toInt = _
    rw [h5, hN]
  rw [h6]
  have h7 : s.toNat ≤ s.toNat ||| 2 ^ k.toNat := Nat.left_le_or
  have h8 : s.toNat ≠ s.toNat ||| 2 ^ k.toNat := by
    intro e
    have t : (s.toNat ||| 2 ^ k.toNat).testBit k.toNat = true := by
      rw [Nat.testBit_or, Nat.testBit_two_pow_self, Bool.or_true]
    rw [← e, Nat.testBit_eq_decide_div_mod_eq] at t
    have t2 := of_decide_eq_true t
    have : s / ((2 ^ k.toNat : Nat) : Int) = ((s.toNat / 2 ^ k.toNat : Nat) : Int) := by
      rw [Int.natCast_ediv]
      congr 1
      omega
    rw [this] at h
    omega
  omega
theorem zk_nl216 {u k : Int} (hu : 0 ≤ u) (hk : 0 ≤ k ∧ k < 264) : zk_lo 216 (264 * u + k) = zk_lo 215 k ∧ zk_hi 216 (264 * u + k) = zk_hi 215 k := by
  have e : (264 * u + k).toNat % 264 = k.toNat := by omega
  constructor
  · show zk_nlo ((264 * u + k).toNat % 264) = zk_nlo k.toNat
    rw [e]
  · show zk_nhi ((264 * u + k).toNat % 264) = zk_nhi k.toNat
    rw [e]
theorem zk_row1 {g : zi_M} {k : Int} (I : zk_I g) (hk : 0 ≤ k) : zk_I (zi_u g 216 k (g 216 (k + 264))) := by
  have e : (k + 264).toNat % 264 = k.toNat % 264 := by omega
  have h := I.1 216 (k + 264)
  refine zk_upd (L := zk_lo 216 (k + 264)) (H := zk_hi 216 (k + 264)) ?_ ?_ I h
  · show zk_nlo (k.toNat % 264) = zk_nlo ((k + 264).toNat % 264)
    rw [e]
  · show zk_nhi (k.toNat % 264) = zk_nhi ((k + 264).toNat % 264)
    rw [e]
theorem zk_row2 {g : zi_M} {u k : Int} (I : zk_I g) (hu : 0 ≤ u) (hk : 0 ≤ k ∧ k < 264) : zk_I (zi_u g 216 (264 * u + k) (g 215 k)) :=
  zk_upd (zk_nl216 hu hk).1 (zk_nl216 hu hk).2 I (I.1 215 k)
theorem zk_row3 {g : zi_M} {u k : Int} (I : zk_I g) (hu : 0 ≤ u) (hk : 0 ≤ k ∧ k < 264) : zk_I (zi_u g 215 k (g 216 (264 * u + k))) :=
  zk_upd (zk_nl216 hu hk).1.symm (zk_nl216 hu hk).2.symm I (I.1 216 (264 * u + k))
theorem zk_row4 {g : zi_M} {k : Int} (I : zk_I g) : zk_I (zi_u g 217 k (g 215 k)) := zk_upd (L := zk_lo 215 k) (H := zk_hi 215 k) rfl rfl I (I.1 215 k)
theorem zk_row5 {g : zi_M} {k : Int} (I : zk_I g) : zk_I (zi_u g 215 k (g 217 k)) := zk_upd (L := zk_lo 217 k) (H := zk_hi 217 k) rfl rfl I (I.1 217 k)
/-- of m + 1 values below m two are the same -/
theorem zk_ph : ∀ (m : Nat) (f : Nat → Int), (∀ i, i ≤ m → 0 ≤ f i ∧ f i < m) → ∃ i j, i < j ∧ j ≤ m ∧ f i = f j
  | 0, f, h => by have := h 0 (Nat.le_refl _); omega
  | m + 1, f, h => by
    by_cases hx : ∃ i, i ≤ m + 1 ∧ f i = m
    · obtain ⟨i0, h0, e0⟩ := hx
      by_cases hy : ∃ j, j ≤ m + 1 ∧ f j = m ∧ j ≠ i0
      · obtain ⟨j, hj, ej, hne⟩ := hy
        by_cases hl : i0 < j
        · exact ⟨i0, j, hl, hj, by rw [e0, ej]⟩
        · exact ⟨j, i0, by omega, h0, by rw [e0, ej]⟩
      · have hz : ∀ j, j ≤ m + 1 → j ≠ i0 → f j < m := by
          intro j hj hne
          have := (h j hj).2
          by_cases e : f j = m
          · exact absurd ⟨j, hj, e, hne⟩ hy
          · omega
        obtain ⟨i, j, hij, hj, e⟩ := zk_ph m (fun i => if i < i0 then f i else f (i + 1)) (by
          intro i hi
          by_cases hc : i < i0
          · simp only [hc, if_true]
            exact ⟨(h i (by omega)).1, hz i (by omega) (by omega)⟩
          · simp only [hc, if_false]
            exact ⟨(h (i + 1) (by omega)).1, hz (i + 1) (by omega) (by omega)⟩)
        by_cases c1 : i < i0
        · by_cases c2 : j < i0
          · simp only [c1, c2, if_true] at e
            exact ⟨i, j, hij, by omega, e⟩
          · simp only [c1, c2, if_true, if_false] at e
            exact ⟨i, j + 1, by omega, by omega, e⟩
        · have c2 : ¬ j < i0 := by omega
          simp only [c1, c2, if_false] at e
          exact ⟨i + 1, j + 1, by omega, by omega, e⟩
    · obtain ⟨i, j, hij, hj, e⟩ := zk_ph m f (by
        intro i hi
        have h1 := h i (by omega)
        refine ⟨h1.1, ?_⟩
        by_cases e : f i = m
        · exact absurd ⟨i, by omega, e⟩ hx
        · omega)
      exact ⟨i, j, hij, by omega, e⟩
theorem zi_tmod_abs (a b : Int) (hb : b ≠ 0) : -(max b (-b)) < Int.tmod a b ∧ Int.tmod a b < max b (-b) := by
  have h1 : (Int.tmod a b).natAbs < b.natAbs := by
    rw [Int.natAbs_tmod]
    exact Nat.mod_lt _ (by omega)
  omega
/-- no space between two places of the tape -/
noncomputable def zw_let (g : zi_M) (a b : Int) : Prop := ∀ j, a ≤ j → j < b → ¬ g 222 j = 32
theorem zw_st {g g' : zi_M} (e : g' = zi_u g 214 14 ((g 214 14) + 1)) (h : zw_let g (g 214 15) (g 214 14)) (hn : ¬ g 222 (g 214 14) = 32) : zw_let g' (g' 214 15) (g' 214 14) := by
  intro j h1 h2
  rw [e] at h1 h2 ⊢
  rw [zi_u_ni (by decide)] at h1
  rw [zi_u_eq] at h2
  rw [zi_u_ne (by decide)]
  by_cases hj : j = g 214 14
  · rw [hj]; exact hn
  · exact h j h1 (by omega)
theorem zw_in {g1 g2 g3 g4 g5 : zi_M} {v : Int} (e1 : g2 = zi_u g1 214 15 (g1 214 14)) (e2 : g3 = zi_u g2 214 16 1) (e3 : g4 = zi_u g3 214 14 ((g3 214 14) + 1)) (e4 : g5 = zi_u g4 214 17 v) (hn : ¬ g3 222 (g3 214 14) = 32) : zw_let g5 (g5 214 15) (g5 214 14) := by
  have a1 : g3 214 14 = g1 214 14 := by rw [e2, zi_u_ni (by decide), e1, zi_u_ni (by decide)]
  have a2 : g5 214 15 = g1 214 14 := by rw [e4, zi_u_ni (by decide), e3, zi_u_ni (by decide), e2, zi_u_ni (by decide), e1, zi_u_eq]
  have a3 : g5 214 14 = g1 214 14 + 1 := by rw [e4, zi_u_ni (by decide), e3, zi_u_eq, a1]
  intro j h1 h2
  have hj : j = g3 214 14 := by omega
  rw [hj, e4, zi_u_ne (by decide), e3, zi_u_ne (by decide)]
  exact hn
theorem zk_wend {g : zi_M} (I : zk_I g) {i : Int} : i = 128 → g 223 i = 32 := by
  intro e
  have h := I.1 223 i
  rw [e] at h ⊢
  have h1 : zk_lo 223 128 = 32 := rfl
  have h2 : zk_hi 223 128 = 32 := rfl
  omega
/-- how many spaces stand before a place of the words -/
noncomputable def zw_nn : Nat → Int
  | 0 => 0
  | n + 1 => zw_nn n + (if zk_wd n = 32 then 1 else 0)
noncomputable def zw_nx (i : Int) : Int := zw_nn i.toNat
theorem zw_nnm (n : Nat) : ∀ k : Nat, zw_nn n ≤ zw_nn (n + k)
  | 0 => Int.le_refl _
  | k + 1 => by
    have h := zw_nnm n k
    have e : zw_nn (n + (k + 1)) = zw_nn (n + k) + (if zk_wd (n + k) = 32 then 1 else 0) := rfl
    rw [e]
    split <;> omega
theorem zw_nxb (i : Int) (h : 0 ≤ i ∧ i < 128) (hw : zk_wd i.toNat = 32) : zw_nx i ≤ 26 := by
  have e : i.toNat + 1 + (127 - i.toNat) = 128 := by omega
  have h1 := zw_nnm (i.toNat + 1) (127 - i.toNat)
  rw [e] at h1
  have h2 : zw_nn (i.toNat + 1) = zw_nn i.toNat + (if zk_wd i.toNat = 32 then 1 else 0) := rfl
  rw [hw] at h2
  simp only [if_true] at h2
  have h3 : zw_nn 128 = 27 := by decide +kernel
  show zw_nn i.toNat ≤ 26
  omega
theorem zw_nxs (i k : Int) (hi : 0 ≤ i ∧ i < k) (hw : zk_wd i.toNat = 32) : zw_nx i + 1 ≤ zw_nx k := by
  have e : i.toNat + 1 + (k.toNat - i.toNat - 1) = k.toNat := by omega
  have h1 := zw_nnm (i.toNat + 1) (k.toNat - i.toNat - 1)
  rw [e] at h1
  have h2 : zw_nn (i.toNat + 1) = zw_nn i.toNat + (if zk_wd i.toNat = 32 then 1 else 0) := rfl
  rw [hw] at h2
  simp only [if_true] at h2
  show zw_nn i.toNat + 1 ≤ zw_nn k.toNat
  omega
/-- the lines of a plan that is read -/
noncomputable def zd (g : zi_M) (n : Int) : Prop := ∀ k : Int, 0 ≤ k → k < n → zj_deed (g 234 (64 + 4 * k + 1)) (g 234 (64 + 4 * k + 2)) (g 234 (64 + 4 * k + 3))
theorem zd_0 (g : zi_M) : zd g 0 := fun k h1 h2 => by omega
theorem zd_step {g g' : zi_M} {n : Int} (h : zd g n) (hf : ∀ i : Int, i < 64 + 4 * n → g' 234 i = g 234 i) (hn : zj_deed (g' 234 (64 + 4 * n + 1)) (g' 234 (64 + 4 * n + 2)) (g' 234 (64 + 4 * n + 3))) : zd g' (n + 1) := by
  intro k h1 h2
  by_cases e : k = n
  · rw [e]; exact hn
  · have := h k h1 (by omega)
    rw [hf _ (by omega), hf _ (by omega), hf _ (by omega)]
    exact this
/-- rows of the draft may be written -/
theorem zj_lawc {m : Int} {lf lh lt op arg lf' lh' lt' op' arg' : Int → Int} (h : zj_law m lf lh lt op arg) (hm : m ≤ 16) (e1 : ∀ l, l < 16 → lf' l = lf l) (e2 : ∀ l, l < 16 → lh' l = lh l) (e3 : ∀ l, l < 16 → lt' l = lt l) (e4 : ∀ i, i < 400 → op' i = op i) (e5 : ∀ i, i < 400 → arg' i = arg i) : zj_law m lf' lh' lt' op' arg' := by
  intro l h0 h1
  obtain ⟨hb, hs1, hs2⟩ := h l h0 h1
  rw [e1 l (by omega), e2 l (by omega), e3 l (by omega)]
  have dp : ∀ (s : Int) (n : Nat), s + n ≤ 400 → zj_dep op' s n = zj_dep op s n := by
    intro s n
    induction n with
    | zero => intro _; rfl
    | succ n ih =>
      intro hn
      show zj_dep op' s n + _ = zj_dep op s n + _
      rw [ih (by omega), e4 (s + n) (by omega)]
  have sg : ∀ (s : Int) (n : Nat), s + n ≤ 400 → zj_seg op arg s n → zj_seg op' arg' s n := by
    intro s n hn hh i hi
    have := hh i hi
    unfold zj_one at this ⊢
    rw [e4 (s + i) (by omega), e5 (s + i) (by omega), e4 (s + i - 1) (by omega), e5 (s + i - 1) (by omega), dp s i (by omega)]
    exact this
  exact ⟨hb, sg _ _ (by omega) hs1, sg _ _ (by omega) hs2⟩
theorem zk_lm16 {g : zi_M} (I : zk_I g) : g 224 0 ≤ 16 := (I.1 224 0).2
theorem zk_u234 {g : zi_M} {i v : Int} (I : zk_I g) (hi : 64 ≤ i) (hv : zi_r v) : zk_I (zi_u g 234 i v) := by
  refine ⟨zk_updb (L := -2147483648) (H := 2147483647) rfl rfl I.1 hv, ?_⟩
  obtain ⟨h1, h2, h3, h4, h5, h6⟩ := I.2
  refine ⟨?_, ?_, ?_, ?_, ?_, ?_⟩
  · exact h1
  · intro k k1 k2
    rw [zi_u_ni (by omega), zi_u_ni (by omega), zi_u_ni (by omega)]
    exact h2 k k1 k2
  · exact h3
  · exact h4
  · exact h5
  · exact h6
theorem zi_u_row {g : zi_M} {a b : Nat} {i v : Int} (h : b ≠ a) : zi_u g a i v b = g b := by funext k; exact zi_u_ne h
theorem zk_udr {g : zi_M} {a : Nat} {i v : Int} (I : zk_I g) (ha : (a = 226 ∨ a = 227 ∨ a = 228) ∧ 16 ≤ i ∨ (a = 229 ∨ a = 230) ∧ 400 ≤ i) (hb : zk_b (zi_u g a i v)) : zk_I (zi_u g a i v) := by
  refine ⟨hb, ?_⟩
  have hm := zk_lm16 I
  obtain ⟨h1, h2, h3, h4, h5, h6⟩ := I.2
  have ne : a ≠ 224 ∧ a ≠ 234 ∧ a ≠ 244 ∧ a ≠ 250 := by omega
  refine ⟨?_, ?_, ?_, ?_, ?_, ?_⟩
  · rw [zi_u_row (Ne.symm ne.1)]
    have hz : ∀ (b : Nat) (l : Int), (b = a → l < i) → zi_u g a i v b l = g b l := by
      intro b l hl
      unfold zi_u
      rw [if_neg]
      intro e
      have := hl e.1
      omega
    exact zj_lawc h1 hm (fun l hl => hz _ _ (by omega)) (fun l hl => hz _ _ (by omega)) (fun l hl => hz _ _ (by omega)) (fun l hl => hz _ _ (by omega)) (fun l hl => hz _ _ (by omega))
  · rw [zi_u_row (Ne.symm ne.2.1)]; exact h2
  · rw [zi_u_row (Ne.symm ne.2.2.1)]; exact h3
  · rw [zi_u_row (Ne.symm ne.2.2.2)]; exact h4
  · rw [zi_u_row (Ne.symm ne.2.2.2)]; exact h5
  · rw [zi_u_row (Ne.symm ne.2.2.2)]; exact h6
theorem zk_u229 {g : zi_M} {i v : Int} (I : zk_I g) (hi : 400 ≤ i) (hv : zi_r v) : zk_I (zi_u g 229 i v) := zk_udr I (Or.inr ⟨Or.inl rfl, hi⟩) (zk_updb (L := -2147483648) (H := 2147483647) rfl rfl I.1 hv)
theorem zk_u230 {g : zi_M} {i v : Int} (I : zk_I g) (hi : 400 ≤ i) (hv : zi_r v) : zk_I (zi_u g 230 i v) := zk_udr I (Or.inr ⟨Or.inr rfl, hi⟩) (zk_updb (L := -2147483648) (H := 2147483647) rfl rfl I.1 hv)
theorem zk_u226 {g : zi_M} {i v : Int} (I : zk_I g) (hi : 16 ≤ i) (hv : 0 ≤ v ∧ v ≤ 400) : zk_I (zi_u g 226 i v) := zk_udr I (Or.inl ⟨Or.inl rfl, hi⟩) (zk_updb (L := 0) (H := 400) rfl rfl I.1 hv)
theorem zk_u227 {g : zi_M} {i v : Int} (I : zk_I g) (hi : 16 ≤ i) (hv : 0 ≤ v ∧ v ≤ 400) : zk_I (zi_u g 227 i v) := zk_udr I (Or.inl ⟨Or.inr (Or.inl rfl), hi⟩) (zk_updb (L := 0) (H := 400) rfl rfl I.1 hv)
theorem zk_u228 {g : zi_M} {i v : Int} (I : zk_I g) (hi : 16 ≤ i) (hv : 0 ≤ v ∧ v ≤ 400) : zk_I (zi_u g 228 i v) := zk_udr I (Or.inl ⟨Or.inr (Or.inr rfl), hi⟩) (zk_updb (L := 0) (H := 400) rfl rfl I.1 hv)
/-- what holds of the token that is read -/
noncomputable def zt3 (g : zi_M) : Prop := (¬ g 214 16 = 0 → g 214 15 < g 214 14) ∧ (g 214 16 = 3 → 0 ≤ g 214 17 ∧ g 214 17 ≤ 9999) ∧ (g 214 16 = 2 → 0 ≤ g 214 17 ∧ g 214 17 ≤ 26)
theorem zt3_u {g g' : zi_M} {a : Nat} {i v : Int} (e : g' = zi_u g a i v) (ha : 214 ≠ a) (h : zt3 g) : zt3 g' := by
  unfold zt3 at h ⊢
  rw [e, zi_u_ne ha, zi_u_ne ha, zi_u_ne ha, zi_u_ne ha]
  exact h
theorem zt3_e {g g' : zi_M} (h : zt3 g) (e1 : g' 214 14 = g 214 14) (e2 : g' 214 15 = g 214 15) (e3 : g' 214 16 = g 214 16) (e4 : g' 214 17 = g 214 17) : zt3 g' := by
  unfold zt3 at h ⊢
  rw [e1, e2, e3, e4]
  exact h

-- THE REFERENCE'S READER OF LAWS: what has been read so far can be run
noncomputable def zp_o (g : zi_M) : Int → Int := fun i => g 229 (800 + i)
noncomputable def zp_a (g : zi_M) : Int → Int := fun i => g 230 (800 + i)
noncomputable def zp (g : zi_M) (s d : Int) : Prop := 0 ≤ d ∧ 0 ≤ s ∧ s ≤ g 214 27 ∧ zj_seg (zp_o g) (zp_a g) s (g 214 27 - s).toNat ∧ zj_dep (zp_o g) s (g 214 27 - s).toNat = d
theorem zj_depc {op op' : Int → Int} {s : Int} : ∀ {n : Nat}, (∀ i : Int, s ≤ i → i < s + n → op' i = op i) → zj_dep op' s n = zj_dep op s n
  | 0, _ => rfl
  | n + 1, h => by
    show zj_dep op' s n + _ = zj_dep op s n + _
    rw [zj_depc (n := n) (fun i h1 h2 => h i h1 (by omega)), h (s + n) (by omega) (by omega)]
theorem zj_onec {op arg op' arg' : Int → Int} {s : Int} {i : Nat} (h : zj_one op arg s i) (ho : ∀ k : Int, s ≤ k → k < s + (i + 1 : Nat) → op' k = op k) (ha : ∀ k : Int, s ≤ k → k < s + (i + 1 : Nat) → arg' k = arg k) : zj_one op' arg' s i := by
  unfold zj_one at h ⊢
  rw [ho (s + i) (by omega) (by omega), ha (s + i) (by omega) (by omega), zj_depc (op := op) (fun k h1 h2 => ho k h1 (by omega))]
  refine ⟨h.1, h.2.1, h.2.2.1, h.2.2.2.1, fun e => ?_⟩
  have h5 := h.2.2.2.2 e
  rw [ho (s + i - 1) (by omega) (by omega), ha (s + i - 1) (by omega) (by omega)]
  exact h5
theorem zj_segc {op arg op' arg' : Int → Int} {s : Int} {n : Nat} (h : zj_seg op arg s n) (ho : ∀ k : Int, s ≤ k → k < s + n → op' k = op k) (ha : ∀ k : Int, s ≤ k → k < s + n → arg' k = arg k) : zj_seg op' arg' s n :=
  fun i hi => zj_onec (h i hi) (fun k h1 h2 => ho k h1 (by omega)) (fun k h1 h2 => ha k h1 (by omega))
/-- the same codes -/
theorem zp_same {g g' : zi_M} {s d : Int} (h : zp g s d) (hc : g' 214 27 = g 214 27) (ho : ∀ i : Int, i < 800 + g 214 27 → g' 229 i = g 229 i ∧ g' 230 i = g 230 i) : zp g' s d := by
  obtain ⟨h1, h2, h3, h4, h5⟩ := h
  unfold zp
  rw [hc]
  refine ⟨h1, h2, h3, zj_segc h4 (fun k k1 k2 => (ho (800 + k) (by omega)).1) (fun k k1 k2 => (ho (800 + k) (by omega)).2), ?_⟩
  rw [← h5]
  exact zj_depc (fun k k1 k2 => (ho (800 + k) (by omega)).1)
/-- one code more -/
theorem zp_emit {g g' : zi_M} {s d e w v : Int} (h : zp g s d) (hc : g' 214 27 = g 214 27 + 1) (hw : g' 229 (800 + g 214 27) = w) (hv : g' 230 (800 + g 214 27) = v)
    (ho : ∀ i : Int, ¬ i = 800 + g 214 27 → g' 229 i = g 229 i ∧ g' 230 i = g 230 i) (w0 : 0 ≤ w ∧ w ≤ 11) (w1 : w = 1 → 0 ≤ v ∧ v ≤ 8) (w2 : w = 9 → 1 ≤ d) (w3 : 2 ≤ w → w ≠ 9 → 2 ≤ d)
    (w5 : w = 5 → s < g 214 27 ∧ g 229 (800 + g 214 27 - 1) = 0 ∧ 1 ≤ g 230 (800 + g 214 27 - 1)) (he : e = d + (if w ≤ 1 then 1 else if w = 9 then 0 else -1)) : zp g' s e := by
  obtain ⟨h1, h2, h3, h4, h5⟩ := h
  have hn : (g' 214 27 - s).toNat = (g 214 27 - s).toNat + 1 := by omega
  have hs : s + ((g 214 27 - s).toNat : Int) = g 214 27 := by omega
  have e1 : ∀ k : Int, s ≤ k → k < s + (g 214 27 - s).toNat → zp_o g' k = zp_o g k := fun k k1 k2 => (ho (800 + k) (by omega)).1
  have e2 : ∀ k : Int, s ≤ k → k < s + (g 214 27 - s).toNat → zp_a g' k = zp_a g k := fun k k1 k2 => (ho (800 + k) (by omega)).2
  have hd : zj_dep (zp_o g') s (g 214 27 - s).toNat = d := by rw [← h5]; exact zj_depc e1
  have hwo : zp_o g' (s + ((g 214 27 - s).toNat : Int)) = w := by rw [hs]; exact hw
  have hva : zp_a g' (s + ((g 214 27 - s).toNat : Int)) = v := by rw [hs]; exact hv
  unfold zp
  rw [hn, hc]
  refine ⟨?_, h2, by omega, ?_, ?_⟩
  · rw [he]
    split
    · omega
    · split
      · omega
      · have := w3 (by omega) (by omega); omega
  · intro i hi
    by_cases hl : i < (g 214 27 - s).toNat
    · exact zj_segc h4 e1 e2 i hl
    · have hi2 : i = (g 214 27 - s).toNat := by omega
      rw [hi2]
      unfold zj_one
      rw [hwo, hva, hd]
      refine ⟨w0, w1, w2, w3, fun q => ?_⟩
      obtain ⟨q1, q2, q3⟩ := w5 q
      refine ⟨by omega, ?_, ?_⟩
      · rw [hs]
        show g' 229 (800 + (g 214 27 - 1)) = 0
        rw [(ho _ (by omega)).1, show (800 : Int) + (g 214 27 - 1) = 800 + g 214 27 - 1 by omega]
        exact q2
      · rw [hs]
        show 1 ≤ g' 230 (800 + (g 214 27 - 1))
        rw [(ho _ (by omega)).2, show (800 : Int) + (g 214 27 - 1) = 800 + g 214 27 - 1 by omega]
        exact q3
  · show zj_dep (zp_o g') s (g 214 27 - s).toNat + _ = e
    rw [hd, hwo, he]
theorem zp_nil {g : zi_M} (h : 0 ≤ g 214 27) : zp g (g 214 27) 0 := by
  refine ⟨Int.le_refl _, h, Int.le_refl _, ?_, ?_⟩
  · rw [Int.sub_self]; exact fun i hi => absurd hi (Nat.not_lt_zero i)
  · rw [Int.sub_self]; rfl
noncomputable def fr_P (a : Nat) (i : Int) : Prop := a = 229 ∨ a = 230 ∨ (a = 214 ∧ i = 14) ∨ (a = 214 ∧ i = 15) ∨ (a = 214 ∧ i = 16) ∨ (a = 214 ∧ i = 17) ∨ (a = 214 ∧ i = 27) ∨ (a = 214 ∧ i = 31) ∨ (a = 214 ∧ i = 32)
/-- ready to read -/
noncomputable def zy (g : zi_M) : Prop := (zk_I g) ∧ (g 214 14 ≤ g 214 13) ∧ (g 214 15 ≤ g 214 14) ∧ (zt3 g) ∧ (g 214 27 ≤ g 214 15)
theorem zy.I {g : zi_M} (h : zy g) : zk_I g := h.1
theorem zy.sp {g : zi_M} (h : zy g) : g 214 14 ≤ g 214 13 := h.2.1
theorem zy.fs {g : zi_M} (h : zy g) : g 214 15 ≤ g 214 14 := h.2.2.1
theorem zy.t3 {g : zi_M} (h : zy g) : zt3 g := h.2.2.2.1
theorem zy.cf {g : zi_M} (h : zy g) : g 214 27 ≤ g 214 15 := h.2.2.2.2
/-- from g0 to g: k more on the stack, b tokens more than codes -/
noncomputable def zx (k b : Int) (g0 g : zi_M) : Prop := (zk_I g) ∧ (g 214 14 ≤ g 214 13) ∧ (g 214 15 ≤ g 214 14) ∧ (zt3 g) ∧ (g0 214 15 ≤ g 214 15) ∧ (g0 214 27 ≤ g 214 27) ∧ (g 214 27 - g 214 15 + b ≤ g0 214 27 - g0 214 15) ∧ (zk_fr fr_P g0 g) ∧ (∀ i : Int, i < 800 + g0 214 27 → g 229 i = g0 229 i ∧ g 230 i = g0 230 i) ∧ (∀ s d, zp g0 s d → zp g s (d + k))
theorem zx.I {k b : Int} {g0 g : zi_M} (h : zx k b g0 g) : zk_I g := h.1
theorem zx.sp {k b : Int} {g0 g : zi_M} (h : zx k b g0 g) : g 214 14 ≤ g 214 13 := h.2.1
theorem zx.fs {k b : Int} {g0 g : zi_M} (h : zx k b g0 g) : g 214 15 ≤ g 214 14 := h.2.2.1
theorem zx.t3 {k b : Int} {g0 g : zi_M} (h : zx k b g0 g) : zt3 g := h.2.2.2.1
theorem zx.ff {k b : Int} {g0 g : zi_M} (h : zx k b g0 g) : g0 214 15 ≤ g 214 15 := h.2.2.2.2.1
theorem zx.cc {k b : Int} {g0 g : zi_M} (h : zx k b g0 g) : g0 214 27 ≤ g 214 27 := h.2.2.2.2.2.1
theorem zx.cf {k b : Int} {g0 g : zi_M} (h : zx k b g0 g) : g 214 27 - g 214 15 + b ≤ g0 214 27 - g0 214 15 := h.2.2.2.2.2.2.1
theorem zx.fr {k b : Int} {g0 g : zi_M} (h : zx k b g0 g) : zk_fr fr_P g0 g := h.2.2.2.2.2.2.2.1
theorem zx.lo {k b : Int} {g0 g : zi_M} (h : zx k b g0 g) : ∀ i : Int, i < 800 + g0 214 27 → g 229 i = g0 229 i ∧ g 230 i = g0 230 i := h.2.2.2.2.2.2.2.2.1
theorem zx.dp {k b : Int} {g0 g : zi_M} (h : zx k b g0 g) : ∀ s d, zp g0 s d → zp g s (d + k) := h.2.2.2.2.2.2.2.2.2
theorem zx.y {k b : Int} {g0 g : zi_M} (h : zx k b g0 g) (hb : 0 ≤ b) (h0 : g0 214 27 ≤ g0 214 15) : zy g := ⟨h.I, h.sp, h.fs, h.t3, by have := h.cf; omega⟩
theorem zy.r {g : zi_M} (h : zy g) : zx 0 0 g g := ⟨h.I, h.sp, h.fs, h.t3, Int.le_refl _, Int.le_refl _, by omega, zk_f0 _, fun _ _ => ⟨rfl, rfl⟩, fun s d hd => by rw [Int.add_zero]; exact hd⟩
theorem zx.t {k b k' b' : Int} {g0 g1 g2 : zi_M} (h : zx k b g0 g1) (h' : zx k' b' g1 g2) : zx (k + k') (b + b') g0 g2 := by
  refine ⟨h'.I, h'.sp, h'.fs, h'.t3, Int.le_trans h.ff h'.ff, Int.le_trans h.cc h'.cc, ?_, zk_ft h.fr h'.fr (fun _ _ e => e), ?_, ?_⟩
  · have := h.cf; have := h'.cf; omega
  · intro i hi
    have := h.cc
    have h1 := h.lo i hi
    have h2 := h'.lo i (by omega)
    exact ⟨h2.1.trans h1.1, h2.2.trans h1.2⟩
  · intro s d hd
    have := h'.dp s _ (h.dp s d hd)
    rw [← Int.add_assoc]
    exact this
theorem zx.w {k b b' : Int} {g0 g : zi_M} (h : zx k b g0 g) (hb : b' ≤ b) : zx k b' g0 g := ⟨h.I, h.sp, h.fs, h.t3, h.ff, h.cc, by have := h.cf; omega, h.fr, h.lo, h.dp⟩

-- GUTTERS followed
noncomputable def zf (g : zi_M) (p : Int) : Int := g 232 p - 1
noncomputable def zit (f : Int → Int) : Nat → Int → Int
  | 0, p => p
  | n + 1, p => f (zit f n p)
theorem zit_add (f : Int → Int) : ∀ (a b : Nat) (p : Int), zit f (a + b) p = zit f a (zit f b p)
  | 0, b, p => by rw [Nat.zero_add]; rfl
  | a + 1, b, p => by
    rw [Nat.add_right_comm]
    show f (zit f (a + b) p) = f (zit f a (zit f b p))
    rw [zit_add f a b p]
/-- a round goes through p -/
noncomputable def zrd (f : Int → Int) (p : Int) : Prop := ∃ k : Nat, 1 ≤ k ∧ k ≤ 10 ∧ zit f k p = p ∧ ∀ j : Nat, j < k → zit f j p ≠ -1
noncomputable def znr (f : Int → Int) (p : Int) : Prop := ∀ k : Nat, 1 ≤ k → k ≤ 10 → (∀ j : Nat, j ≤ k → zit f j p ≠ -1) → zit f k p ≠ p
theorem zf_b {g : zi_M} (I : zk_I g) (p : Int) : -1 ≤ zf g p ∧ zf g p ≤ 9 := by
  have h : 0 ≤ g 232 p ∧ g 232 p ≤ 10 := I.1 232 p
  unfold zf
  omega
theorem zit_b {g : zi_M} (I : zk_I g) {p : Int} (hp : 0 ≤ p ∧ p ≤ 9) : ∀ n : Nat, -1 ≤ zit (zf g) n p ∧ zit (zf g) n p ≤ 9
  | 0 => ⟨by show -1 ≤ p; omega, hp.2⟩
  | n + 1 => zf_b I _
/-- ten steps without an end go through a round -/
theorem zit_ph {g : zi_M} (I : zk_I g) {p : Int} (hp : 0 ≤ p ∧ p ≤ 9) (h : ∀ i : Nat, i ≤ 10 → zit (zf g) i p ≠ -1) (hn : ∀ i : Nat, i < 10 → znr (zf g) (zit (zf g) i p)) : False := by
  obtain ⟨i, j, hij, hj, e⟩ := zk_ph 10 (fun i => zit (zf g) i p) (fun i hi => by
    have h1 := zit_b I hp i
    have h2 := h i hi
    exact ⟨by show 0 ≤ zit (zf g) i p; omega, by show zit (zf g) i p < 10; omega⟩)
  have ej : j = (j - i) + i := by omega
  have e2 : zit (zf g) (j - i) (zit (zf g) i p) = zit (zf g) i p := by rw [← zit_add, ← ej]; exact e.symm
  refine hn i (by omega) (j - i) (by omega) (by omega) (fun k hk => ?_) e2
  rw [← zit_add]
  exact h (k + i) (by omega)
-- READING
noncomputable def zmn (g : zi_M) (a : Int) : Nat → Int
  | 0 => 0
  | n + 1 => zmn g a n + g 248 (a + n)
/-- minutes of the chapters from a till before b -/
noncomputable def zmin (g : zi_M) (a b : Int) : Int := zmn g a (b - a).toNat
theorem zmin_s {g : zi_M} {a b : Int} (h : a ≤ b) : zmin g a (b + 1) = zmin g a b + g 248 b := by
  unfold zmin
  rw [show (b + 1 - a).toNat = (b - a).toNat + 1 by omega]
  show zmn g a (b - a).toNat + g 248 (a + ((b - a).toNat : Int)) = _
  rw [show a + ((b - a).toNat : Int) = b by omega]
theorem zmin_0 {g : zi_M} {a b : Int} (h : b ≤ a) : zmin g a b = 0 := by
  unfold zmin
  rw [show (b - a).toNat = 0 by omega]
  rfl
theorem zmn_c {g g' : zi_M} {a : Int} (h : ∀ i, g' 248 i = g 248 i) : ∀ n : Nat, zmn g' a n = zmn g a n
  | 0 => rfl
  | n + 1 => by
    show zmn g' a n + g' 248 _ = zmn g a n + g 248 _
    rw [zmn_c h n, h]
theorem zmin_c {g g' : zi_M} {a b : Int} (h : ∀ i, g' 248 i = g 248 i) : zmin g' a b = zmin g a b := zmn_c h _

-- THE IMAGE: which cell lies at which place
noncomputable def zim_f (p : Int) : Int := if p = 264 then 6 else if p = 265 then 7 else if p = 266 then 35 else if p = 267 then 37 else if p = 268 then 39 else if p = 269 then 46 else if p = 270 then 50 else if p = 271 then 56 else 58
noncomputable def za (p : Int) : Nat :=
  if p < 264 then 215 else if p < 273 then 214
  else if p < 323 then (if (p - 273) % 5 = 0 then 218 else if (p - 273) % 5 = 1 then 219 else if (p - 273) % 5 = 2 then 220 else if (p - 273) % 5 = 3 then 232 else 242)
  else if p < 331 then 239 else if p < 355 then (if (p - 331) % 2 = 0 then 240 else 248) else if p < 371 then 243 else if p < 403 then 244 else if p < 443 then 247 else if p < 475 then 233 else if p < 539 then 234 else if p < 1139 then 221
  else if p = 1139 then 224 else if p < 1204 then (if (p - 1140) % 4 = 0 then 225 else if (p - 1140) % 4 = 1 then 226 else if (p - 1140) % 4 = 2 then 227 else 228)
  else (if (p - 1204) % 2 = 0 then 229 else 230)
noncomputable def zb (p : Int) : Int :=
  if p < 264 then p else if p < 273 then zim_f p
  else if p < 323 then (p - 273) / 5 else if p < 331 then p - 323 else if p < 355 then (p - 331) / 2 else if p < 371 then p - 355 else if p < 403 then p - 371 else if p < 443 then p - 403 else if p < 475 then p - 443 else if p < 539 then p - 475 else if p < 1139 then p - 539
  else if p = 1139 then 0 else if p < 1204 then (p - 1140) / 4 else (p - 1204) / 2
/-- the place of a cell; none: -1 -/
noncomputable def zv (a : Nat) (i : Int) : Int :=
  if a = 215 then (if 0 ≤ i ∧ i < 264 then i else -1)
  else if a = 214 then (if i = 6 then 264 else if i = 7 then 265 else if i = 35 then 266 else if i = 37 then 267 else if i = 39 then 268 else if i = 46 then 269 else if i = 50 then 270 else if i = 56 then 271 else if i = 58 then 272 else -1)
  else if a = 218 then (if 0 ≤ i ∧ i < 10 then 273 + 5 * i else -1) else if a = 219 then (if 0 ≤ i ∧ i < 10 then 274 + 5 * i else -1) else if a = 220 then (if 0 ≤ i ∧ i < 10 then 275 + 5 * i else -1)
  else if a = 232 then (if 0 ≤ i ∧ i < 10 then 276 + 5 * i else -1) else if a = 242 then (if 0 ≤ i ∧ i < 10 then 277 + 5 * i else -1)
  else if a = 239 then (if 0 ≤ i ∧ i < 8 then 323 + i else -1) else if a = 240 then (if 0 ≤ i ∧ i < 12 then 331 + 2 * i else -1) else if a = 248 then (if 0 ≤ i ∧ i < 12 then 332 + 2 * i else -1)
  else if a = 243 then (if 0 ≤ i ∧ i < 16 then 355 + i else -1) else if a = 244 then (if 0 ≤ i ∧ i < 32 then 371 + i else -1) else if a = 247 then (if 0 ≤ i ∧ i < 40 then 403 + i else -1)
  else if a = 233 then (if 0 ≤ i ∧ i < 32 then 443 + i else -1) else if a = 234 then (if 0 ≤ i ∧ i < 64 then 475 + i else -1) else if a = 221 then (if 0 ≤ i ∧ i < 600 then 539 + i else -1)
  else if a = 224 then (if i = 0 then 1139 else -1) else if a = 225 then (if 0 ≤ i ∧ i < 16 then 1140 + 4 * i else -1) else if a = 226 then (if 0 ≤ i ∧ i < 16 then 1141 + 4 * i else -1)
  else if a = 227 then (if 0 ≤ i ∧ i < 16 then 1142 + 4 * i else -1) else if a = 228 then (if 0 ≤ i ∧ i < 16 then 1143 + 4 * i else -1)
  else if a = 229 then (if 0 ≤ i ∧ i < 400 then 1204 + 2 * i else -1) else if a = 230 then (if 0 ≤ i ∧ i < 400 then 1205 + 2 * i else -1) else -1
theorem zim_n : ∀ n, n < 2004 → (zv (za (n : Nat)) (zb (n : Nat)) = (n : Nat) ∧ za (n : Nat) ≠ 250) ∧ zk_lo 250 (n : Nat) = zk_lo (za (n : Nat)) (zb (n : Nat)) ∧ zk_hi 250 (n : Nat) = zk_hi (za (n : Nat)) (zb (n : Nat)) := by decide +kernel
theorem zim_p {p : Int} (h : 0 ≤ p ∧ p < 2004) : (zv (za p) (zb p) = p ∧ za p ≠ 250) ∧ zk_lo 250 p = zk_lo (za p) (zb p) ∧ zk_hi 250 p = zk_hi (za p) (zb p) := by
  have := zim_n p.toNat (by omega)
  rw [show ((p.toNat : Nat) : Int) = p by omega] at this
  exact this
theorem zab_215 {i : Int} (h : 0 ≤ i ∧ i < 264) : za (i) = 215 ∧ zb (i) = i := by
  have hd : ∀ n, n < 264 → za (((n : Nat) : Int)) = 215 ∧ zb (((n : Nat) : Int)) = (n : Nat) := by decide +kernel
  have := hd i.toNat (by omega)
  rw [show ((i.toNat : Nat) : Int) = i by omega] at this
  exact this
theorem zab_218 {i : Int} (h : 0 ≤ i ∧ i < 10) : za (273 + 5 * i) = 218 ∧ zb (273 + 5 * i) = i := by
  have hd : ∀ n, n < 10 → za (273 + 5 * ((n : Nat) : Int)) = 218 ∧ zb (273 + 5 * ((n : Nat) : Int)) = (n : Nat) := by decide +kernel
  have := hd i.toNat (by omega)
  rw [show ((i.toNat : Nat) : Int) = i by omega] at this
  exact this
theorem zab_219 {i : Int} (h : 0 ≤ i ∧ i < 10) : za (274 + 5 * i) = 219 ∧ zb (274 + 5 * i) = i := by
  have hd : ∀ n, n < 10 → za (274 + 5 * ((n : Nat) : Int)) = 219 ∧ zb (274 + 5 * ((n : Nat) : Int)) = (n : Nat) := by decide +kernel
  have := hd i.toNat (by omega)
  rw [show ((i.toNat : Nat) : Int) = i by omega] at this
  exact this
theorem zab_220 {i : Int} (h : 0 ≤ i ∧ i < 10) : za (275 + 5 * i) = 220 ∧ zb (275 + 5 * i) = i := by
  have hd : ∀ n, n < 10 → za (275 + 5 * ((n : Nat) : Int)) = 220 ∧ zb (275 + 5 * ((n : Nat) : Int)) = (n : Nat) := by decide +kernel
  have := hd i.toNat (by omega)
  rw [show ((i.toNat : Nat) : Int) = i by omega] at this
  exact this
theorem zab_232 {i : Int} (h : 0 ≤ i ∧ i < 10) : za (276 + 5 * i) = 232 ∧ zb (276 + 5 * i) = i := by
  have hd : ∀ n, n < 10 → za (276 + 5 * ((n : Nat) : Int)) = 232 ∧ zb (276 + 5 * ((n : Nat) : Int)) = (n : Nat) := by decide +kernel
  have := hd i.toNat (by omega)
  rw [show ((i.toNat : Nat) : Int) = i by omega] at this
  exact this
theorem zab_242 {i : Int} (h : 0 ≤ i ∧ i < 10) : za (277 + 5 * i) = 242 ∧ zb (277 + 5 * i) = i := by
  have hd : ∀ n, n < 10 → za (277 + 5 * ((n : Nat) : Int)) = 242 ∧ zb (277 + 5 * ((n : Nat) : Int)) = (n : Nat) := by decide +kernel
  have := hd i.toNat (by omega)
  rw [show ((i.toNat : Nat) : Int) = i by omega] at this
  exact this
theorem zab_239 {i : Int} (h : 0 ≤ i ∧ i < 8) : za (323 + i) = 239 ∧ zb (323 + i) = i := by
  have hd : ∀ n, n < 8 → za (323 + ((n : Nat) : Int)) = 239 ∧ zb (323 + ((n : Nat) : Int)) = (n : Nat) := by decide +kernel
  have := hd i.toNat (by omega)
  rw [show ((i.toNat : Nat) : Int) = i by omega] at this
  exact this
theorem zab_240 {i : Int} (h : 0 ≤ i ∧ i < 12) : za (331 + 2 * i) = 240 ∧ zb (331 + 2 * i) = i := by
  have hd : ∀ n, n < 12 → za (331 + 2 * ((n : Nat) : Int)) = 240 ∧ zb (331 + 2 * ((n : Nat) : Int)) = (n : Nat) := by decide +kernel
  have := hd i.toNat (by omega)
  rw [show ((i.toNat : Nat) : Int) = i by omega] at this
  exact this
theorem zab_248 {i : Int} (h : 0 ≤ i ∧ i < 12) : za (332 + 2 * i) = 248 ∧ zb (332 + 2 * i) = i := by
  have hd : ∀ n, n < 12 → za (332 + 2 * ((n : Nat) : Int)) = 248 ∧ zb (332 + 2 * ((n : Nat) : Int)) = (n : Nat) := by decide +kernel
  have := hd i.toNat (by omega)
  rw [show ((i.toNat : Nat) : Int) = i by omega] at this
  exact this
theorem zab_243 {i : Int} (h : 0 ≤ i ∧ i < 16) : za (355 + i) = 243 ∧ zb (355 + i) = i := by
  have hd : ∀ n, n < 16 → za (355 + ((n : Nat) : Int)) = 243 ∧ zb (355 + ((n : Nat) : Int)) = (n : Nat) := by decide +kernel
  have := hd i.toNat (by omega)
  rw [show ((i.toNat : Nat) : Int) = i by omega] at this
  exact this
theorem zab_244 {i : Int} (h : 0 ≤ i ∧ i < 32) : za (371 + i) = 244 ∧ zb (371 + i) = i := by
  have hd : ∀ n, n < 32 → za (371 + ((n : Nat) : Int)) = 244 ∧ zb (371 + ((n : Nat) : Int)) = (n : Nat) := by decide +kernel
  have := hd i.toNat (by omega)
  rw [show ((i.toNat : Nat) : Int) = i by omega] at this
  exact this
theorem zab_247 {i : Int} (h : 0 ≤ i ∧ i < 40) : za (403 + i) = 247 ∧ zb (403 + i) = i := by
  have hd : ∀ n, n < 40 → za (403 + ((n : Nat) : Int)) = 247 ∧ zb (403 + ((n : Nat) : Int)) = (n : Nat) := by decide +kernel
  have := hd i.toNat (by omega)
  rw [show ((i.toNat : Nat) : Int) = i by omega] at this
  exact this
theorem zab_233 {i : Int} (h : 0 ≤ i ∧ i < 32) : za (443 + i) = 233 ∧ zb (443 + i) = i := by
  have hd : ∀ n, n < 32 → za (443 + ((n : Nat) : Int)) = 233 ∧ zb (443 + ((n : Nat) : Int)) = (n : Nat) := by decide +kernel
  have := hd i.toNat (by omega)
  rw [show ((i.toNat : Nat) : Int) = i by omega] at this
  exact this
theorem zab_234 {i : Int} (h : 0 ≤ i ∧ i < 64) : za (475 + i) = 234 ∧ zb (475 + i) = i := by
  have hd : ∀ n, n < 64 → za (475 + ((n : Nat) : Int)) = 234 ∧ zb (475 + ((n : Nat) : Int)) = (n : Nat) := by decide +kernel
  have := hd i.toNat (by omega)
  rw [show ((i.toNat : Nat) : Int) = i by omega] at this
  exact this
theorem zab_221 {i : Int} (h : 0 ≤ i ∧ i < 600) : za (539 + i) = 221 ∧ zb (539 + i) = i := by
  have hd : ∀ n, n < 600 → za (539 + ((n : Nat) : Int)) = 221 ∧ zb (539 + ((n : Nat) : Int)) = (n : Nat) := by decide +kernel
  have := hd i.toNat (by omega)
  rw [show ((i.toNat : Nat) : Int) = i by omega] at this
  exact this
theorem zab_225 {i : Int} (h : 0 ≤ i ∧ i < 16) : za (1140 + 4 * i) = 225 ∧ zb (1140 + 4 * i) = i := by
  have hd : ∀ n, n < 16 → za (1140 + 4 * ((n : Nat) : Int)) = 225 ∧ zb (1140 + 4 * ((n : Nat) : Int)) = (n : Nat) := by decide +kernel
  have := hd i.toNat (by omega)
  rw [show ((i.toNat : Nat) : Int) = i by omega] at this
  exact this
theorem zab_226 {i : Int} (h : 0 ≤ i ∧ i < 16) : za (1141 + 4 * i) = 226 ∧ zb (1141 + 4 * i) = i := by
  have hd : ∀ n, n < 16 → za (1141 + 4 * ((n : Nat) : Int)) = 226 ∧ zb (1141 + 4 * ((n : Nat) : Int)) = (n : Nat) := by decide +kernel
  have := hd i.toNat (by omega)
  rw [show ((i.toNat : Nat) : Int) = i by omega] at this
  exact this
theorem zab_227 {i : Int} (h : 0 ≤ i ∧ i < 16) : za (1142 + 4 * i) = 227 ∧ zb (1142 + 4 * i) = i := by
  have hd : ∀ n, n < 16 → za (1142 + 4 * ((n : Nat) : Int)) = 227 ∧ zb (1142 + 4 * ((n : Nat) : Int)) = (n : Nat) := by decide +kernel
  have := hd i.toNat (by omega)
  rw [show ((i.toNat : Nat) : Int) = i by omega] at this
  exact this
theorem zab_228 {i : Int} (h : 0 ≤ i ∧ i < 16) : za (1143 + 4 * i) = 228 ∧ zb (1143 + 4 * i) = i := by
  have hd : ∀ n, n < 16 → za (1143 + 4 * ((n : Nat) : Int)) = 228 ∧ zb (1143 + 4 * ((n : Nat) : Int)) = (n : Nat) := by decide +kernel
  have := hd i.toNat (by omega)
  rw [show ((i.toNat : Nat) : Int) = i by omega] at this
  exact this
theorem zab_229 {i : Int} (h : 0 ≤ i ∧ i < 400) : za (1204 + 2 * i) = 229 ∧ zb (1204 + 2 * i) = i := by
  have hd : ∀ n, n < 400 → za (1204 + 2 * ((n : Nat) : Int)) = 229 ∧ zb (1204 + 2 * ((n : Nat) : Int)) = (n : Nat) := by decide +kernel
  have := hd i.toNat (by omega)
  rw [show ((i.toNat : Nat) : Int) = i by omega] at this
  exact this
theorem zab_230 {i : Int} (h : 0 ≤ i ∧ i < 400) : za (1205 + 2 * i) = 230 ∧ zb (1205 + 2 * i) = i := by
  have hd : ∀ n, n < 400 → za (1205 + 2 * ((n : Nat) : Int)) = 230 ∧ zb (1205 + 2 * ((n : Nat) : Int)) = (n : Nat) := by decide +kernel
  have := hd i.toNat (by omega)
  rw [show ((i.toNat : Nat) : Int) = i by omega] at this
  exact this
theorem zabf_6 : za 264 = 214 ∧ zb 264 = 6 := by decide +kernel
theorem zabf_7 : za 265 = 214 ∧ zb 265 = 7 := by decide +kernel
theorem zabf_35 : za 266 = 214 ∧ zb 266 = 35 := by decide +kernel
theorem zabf_37 : za 267 = 214 ∧ zb 267 = 37 := by decide +kernel
theorem zabf_39 : za 268 = 214 ∧ zb 268 = 39 := by decide +kernel
theorem zabf_46 : za 269 = 214 ∧ zb 269 = 46 := by decide +kernel
theorem zabf_50 : za 270 = 214 ∧ zb 270 = 50 := by decide +kernel
theorem zabf_56 : za 271 = 214 ∧ zb 271 = 56 := by decide +kernel
theorem zabf_58 : za 272 = 214 ∧ zb 272 = 58 := by decide +kernel
theorem zab_224 : za 1139 = 224 ∧ zb 1139 = 0 := by decide +kernel
theorem zv_inj {a : Nat} {i p : Int} (hp : 0 ≤ p) (h : zv a i = p) : a = za p ∧ i = zb p := by
  unfold zv at h
  by_cases c215 : a = 215
  · rw [if_pos c215] at h
    by_cases d : 0 ≤ i ∧ i < 264
    · rw [if_pos d] at h; rw [← h, (zab_215 d).1, (zab_215 d).2]; exact ⟨c215, rfl⟩
    · rw [if_neg d] at h; exfalso; omega
  rw [if_neg c215] at h
  by_cases c214 : a = 214
  · rw [if_pos c214] at h
    by_cases d6 : i = 6
    · rw [if_pos d6] at h; rw [← h, zabf_6.1, zabf_6.2]; exact ⟨c214, d6⟩
    rw [if_neg d6] at h
    by_cases d7 : i = 7
    · rw [if_pos d7] at h; rw [← h, zabf_7.1, zabf_7.2]; exact ⟨c214, d7⟩
    rw [if_neg d7] at h
    by_cases d35 : i = 35
    · rw [if_pos d35] at h; rw [← h, zabf_35.1, zabf_35.2]; exact ⟨c214, d35⟩
    rw [if_neg d35] at h
    by_cases d37 : i = 37
    · rw [if_pos d37] at h; rw [← h, zabf_37.1, zabf_37.2]; exact ⟨c214, d37⟩
    rw [if_neg d37] at h
    by_cases d39 : i = 39
    · rw [if_pos d39] at h; rw [← h, zabf_39.1, zabf_39.2]; exact ⟨c214, d39⟩
    rw [if_neg d39] at h
    by_cases d46 : i = 46
    · rw [if_pos d46] at h; rw [← h, zabf_46.1, zabf_46.2]; exact ⟨c214, d46⟩
    rw [if_neg d46] at h
    by_cases d50 : i = 50
    · rw [if_pos d50] at h; rw [← h, zabf_50.1, zabf_50.2]; exact ⟨c214, d50⟩
    rw [if_neg d50] at h
    by_cases d56 : i = 56
    · rw [if_pos d56] at h; rw [← h, zabf_56.1, zabf_56.2]; exact ⟨c214, d56⟩
    rw [if_neg d56] at h
    by_cases d58 : i = 58
    · rw [if_pos d58] at h; rw [← h, zabf_58.1, zabf_58.2]; exact ⟨c214, d58⟩
    rw [if_neg d58] at h
    exfalso; omega
  rw [if_neg c214] at h
  by_cases c218 : a = 218
  · rw [if_pos c218] at h
    by_cases d : 0 ≤ i ∧ i < 10
    · rw [if_pos d] at h; rw [← h, (zab_218 d).1, (zab_218 d).2]; exact ⟨c218, rfl⟩
    · rw [if_neg d] at h; exfalso; omega
  rw [if_neg c218] at h
  by_cases c219 : a = 219
  · rw [if_pos c219] at h
    by_cases d : 0 ≤ i ∧ i < 10
    · rw [if_pos d] at h; rw [← h, (zab_219 d).1, (zab_219 d).2]; exact ⟨c219, rfl⟩
    · rw [if_neg d] at h; exfalso; omega
  rw [if_neg c219] at h
  by_cases c220 : a = 220
  · rw [if_pos c220] at h
    by_cases d : 0 ≤ i ∧ i < 10
    · rw [if_pos d] at h; rw [← h, (zab_220 d).1, (zab_220 d).2]; exact ⟨c220, rfl⟩
    · rw [if_neg d] at h; exfalso; omega
  rw [if_neg c220] at h
  by_cases c232 : a = 232
  · rw [if_pos c232] at h
    by_cases d : 0 ≤ i ∧ i < 10
    · rw [if_pos d] at h; rw [← h, (zab_232 d).1, (zab_232 d).2]; exact ⟨c232, rfl⟩
    · rw [if_neg d] at h; exfalso; omega
  rw [if_neg c232] at h
  by_cases c242 : a = 242
  · rw [if_pos c242] at h
    by_cases d : 0 ≤ i ∧ i < 10
    · rw [if_pos d] at h; rw [← h, (zab_242 d).1, (zab_242 d).2]; exact ⟨c242, rfl⟩
    · rw [if_neg d] at h; exfalso; omega
  rw [if_neg c242] at h
  by_cases c239 : a = 239
  · rw [if_pos c239] at h
    by_cases d : 0 ≤ i ∧ i < 8
    · rw [if_pos d] at h; rw [← h, (zab_239 d).1, (zab_239 d).2]; exact ⟨c239, rfl⟩
    · rw [if_neg d] at h; exfalso; omega
  rw [if_neg c239] at h
  by_cases c240 : a = 240
  · rw [if_pos c240] at h
    by_cases d : 0 ≤ i ∧ i < 12
    · rw [if_pos d] at h; rw [← h, (zab_240 d).1, (zab_240 d).2]; exact ⟨c240, rfl⟩
    · rw [if_neg d] at h; exfalso; omega
  rw [if_neg c240] at h
  by_cases c248 : a = 248
  · rw [if_pos c248] at h
    by_cases d : 0 ≤ i ∧ i < 12
    · rw [if_pos d] at h; rw [← h, (zab_248 d).1, (zab_248 d).2]; exact ⟨c248, rfl⟩
    · rw [if_neg d] at h; exfalso; omega
  rw [if_neg c248] at h
  by_cases c243 : a = 243
  · rw [if_pos c243] at h
    by_cases d : 0 ≤ i ∧ i < 16
    · rw [if_pos d] at h; rw [← h, (zab_243 d).1, (zab_243 d).2]; exact ⟨c243, rfl⟩
    · rw [if_neg d] at h; exfalso; omega
  rw [if_neg c243] at h
  by_cases c244 : a = 244
  · rw [if_pos c244] at h
    by_cases d : 0 ≤ i ∧ i < 32
    · rw [if_pos d] at h; rw [← h, (zab_244 d).1, (zab_244 d).2]; exact ⟨c244, rfl⟩
    · rw [if_neg d] at h; exfalso; omega
  rw [if_neg c244] at h
  by_cases c247 : a = 247
  · rw [if_pos c247] at h
    by_cases d : 0 ≤ i ∧ i < 40
    · rw [if_pos d] at h; rw [← h, (zab_247 d).1, (zab_247 d).2]; exact ⟨c247, rfl⟩
    · rw [if_neg d] at h; exfalso; omega
  rw [if_neg c247] at h
  by_cases c233 : a = 233
  · rw [if_pos c233] at h
    by_cases d : 0 ≤ i ∧ i < 32
    · rw [if_pos d] at h; rw [← h, (zab_233 d).1, (zab_233 d).2]; exact ⟨c233, rfl⟩
    · rw [if_neg d] at h; exfalso; omega
  rw [if_neg c233] at h
  by_cases c234 : a = 234
  · rw [if_pos c234] at h
    by_cases d : 0 ≤ i ∧ i < 64
    · rw [if_pos d] at h; rw [← h, (zab_234 d).1, (zab_234 d).2]; exact ⟨c234, rfl⟩
    · rw [if_neg d] at h; exfalso; omega
  rw [if_neg c234] at h
  by_cases c221 : a = 221
  · rw [if_pos c221] at h
    by_cases d : 0 ≤ i ∧ i < 600
    · rw [if_pos d] at h; rw [← h, (zab_221 d).1, (zab_221 d).2]; exact ⟨c221, rfl⟩
    · rw [if_neg d] at h; exfalso; omega
  rw [if_neg c221] at h
  by_cases c224 : a = 224
  · rw [if_pos c224] at h
    by_cases d : i = 0
    · rw [if_pos d] at h; rw [← h, zab_224.1, zab_224.2]; exact ⟨c224, d⟩
    · rw [if_neg d] at h; exfalso; omega
  rw [if_neg c224] at h
  by_cases c225 : a = 225
  · rw [if_pos c225] at h
    by_cases d : 0 ≤ i ∧ i < 16
    · rw [if_pos d] at h; rw [← h, (zab_225 d).1, (zab_225 d).2]; exact ⟨c225, rfl⟩
    · rw [if_neg d] at h; exfalso; omega
  rw [if_neg c225] at h
  by_cases c226 : a = 226
  · rw [if_pos c226] at h
    by_cases d : 0 ≤ i ∧ i < 16
    · rw [if_pos d] at h; rw [← h, (zab_226 d).1, (zab_226 d).2]; exact ⟨c226, rfl⟩
    · rw [if_neg d] at h; exfalso; omega
  rw [if_neg c226] at h
  by_cases c227 : a = 227
  · rw [if_pos c227] at h
    by_cases d : 0 ≤ i ∧ i < 16
    · rw [if_pos d] at h; rw [← h, (zab_227 d).1, (zab_227 d).2]; exact ⟨c227, rfl⟩
    · rw [if_neg d] at h; exfalso; omega
  rw [if_neg c227] at h
  by_cases c228 : a = 228
  · rw [if_pos c228] at h
    by_cases d : 0 ≤ i ∧ i < 16
    · rw [if_pos d] at h; rw [← h, (zab_228 d).1, (zab_228 d).2]; exact ⟨c228, rfl⟩
    · rw [if_neg d] at h; exfalso; omega
  rw [if_neg c228] at h
  by_cases c229 : a = 229
  · rw [if_pos c229] at h
    by_cases d : 0 ≤ i ∧ i < 400
    · rw [if_pos d] at h; rw [← h, (zab_229 d).1, (zab_229 d).2]; exact ⟨c229, rfl⟩
    · rw [if_neg d] at h; exfalso; omega
  rw [if_neg c229] at h
  by_cases c230 : a = 230
  · rw [if_pos c230] at h
    by_cases d : 0 ≤ i ∧ i < 400
    · rw [if_pos d] at h; rw [← h, (zab_230 d).1, (zab_230 d).2]; exact ⟨c230, rfl⟩
    · rw [if_neg d] at h; exfalso; omega
  rw [if_neg c230] at h
  exfalso; omega
theorem zv_none {a : Nat} {i : Int} : zv a i = -1 ∨ 0 ≤ zv a i ∧ zv a i < 2004 := by
  unfold zv
  by_cases c215 : a = 215
  · rw [if_pos c215]
    split <;> omega
  rw [if_neg c215]
  by_cases c214 : a = 214
  · rw [if_pos c214]
    by_cases d6 : i = 6
    · rw [if_pos d6]; omega
    rw [if_neg d6]
    by_cases d7 : i = 7
    · rw [if_pos d7]; omega
    rw [if_neg d7]
    by_cases d35 : i = 35
    · rw [if_pos d35]; omega
    rw [if_neg d35]
    by_cases d37 : i = 37
    · rw [if_pos d37]; omega
    rw [if_neg d37]
    by_cases d39 : i = 39
    · rw [if_pos d39]; omega
    rw [if_neg d39]
    by_cases d46 : i = 46
    · rw [if_pos d46]; omega
    rw [if_neg d46]
    by_cases d50 : i = 50
    · rw [if_pos d50]; omega
    rw [if_neg d50]
    by_cases d56 : i = 56
    · rw [if_pos d56]; omega
    rw [if_neg d56]
    by_cases d58 : i = 58
    · rw [if_pos d58]; omega
    rw [if_neg d58]
    exact Or.inl rfl
  rw [if_neg c214]
  by_cases c218 : a = 218
  · rw [if_pos c218]
    split <;> omega
  rw [if_neg c218]
  by_cases c219 : a = 219
  · rw [if_pos c219]
    split <;> omega
  rw [if_neg c219]
  by_cases c220 : a = 220
  · rw [if_pos c220]
    split <;> omega
  rw [if_neg c220]
  by_cases c232 : a = 232
  · rw [if_pos c232]
    split <;> omega
  rw [if_neg c232]
  by_cases c242 : a = 242
  · rw [if_pos c242]
    split <;> omega
  rw [if_neg c242]
  by_cases c239 : a = 239
  · rw [if_pos c239]
    split <;> omega
  rw [if_neg c239]
  by_cases c240 : a = 240
  · rw [if_pos c240]
    split <;> omega
  rw [if_neg c240]
  by_cases c248 : a = 248
  · rw [if_pos c248]
    split <;> omega
  rw [if_neg c248]
  by_cases c243 : a = 243
  · rw [if_pos c243]
    split <;> omega
  rw [if_neg c243]
  by_cases c244 : a = 244
  · rw [if_pos c244]
    split <;> omega
  rw [if_neg c244]
  by_cases c247 : a = 247
  · rw [if_pos c247]
    split <;> omega
  rw [if_neg c247]
  by_cases c233 : a = 233
  · rw [if_pos c233]
    split <;> omega
  rw [if_neg c233]
  by_cases c234 : a = 234
  · rw [if_pos c234]
    split <;> omega
  rw [if_neg c234]
  by_cases c221 : a = 221
  · rw [if_pos c221]
    split <;> omega
  rw [if_neg c221]
  by_cases c224 : a = 224
  · rw [if_pos c224]
    split <;> omega
  rw [if_neg c224]
  by_cases c225 : a = 225
  · rw [if_pos c225]
    split <;> omega
  rw [if_neg c225]
  by_cases c226 : a = 226
  · rw [if_pos c226]
    split <;> omega
  rw [if_neg c226]
  by_cases c227 : a = 227
  · rw [if_pos c227]
    split <;> omega
  rw [if_neg c227]
  by_cases c228 : a = 228
  · rw [if_pos c228]
    split <;> omega
  rw [if_neg c228]
  by_cases c229 : a = 229
  · rw [if_pos c229]
    split <;> omega
  rw [if_neg c229]
  by_cases c230 : a = 230
  · rw [if_pos c230]
    split <;> omega
  rw [if_neg c230]
  exact Or.inl rfl
/-- while the image is taken (k ≠ 0) or put back (k = 0): places before P are done -/
noncomputable def zI (k P : Int) (g0 g : zi_M) : Prop := (zk_b g) ∧ (¬ k = 0 → ∀ (a : Nat) (i : Int), g a i = if a = 250 ∧ 0 ≤ i ∧ i < P then g0 (za i) (zb i) else if a = 214 ∧ i = 63 then P else g0 a i) ∧ (k = 0 → ∀ (a : Nat) (i : Int), g a i = if 0 ≤ zv a i ∧ zv a i < P then g0 250 (zv a i) else if a = 214 ∧ i = 63 then P else g0 a i)
theorem zI.b {k P : Int} {g0 g : zi_M} (h : zI k P g0 g) : zk_b g := h.1
theorem zI.t {k P : Int} {g0 g : zi_M} (h : zI k P g0 g) : ¬ k = 0 → ∀ (a : Nat) (i : Int), g a i = if a = 250 ∧ 0 ≤ i ∧ i < P then g0 (za i) (zb i) else if a = 214 ∧ i = 63 then P else g0 a i := h.2.1
theorem zI.r {k P : Int} {g0 g : zi_M} (h : zI k P g0 g) : k = 0 → ∀ (a : Nat) (i : Int), g a i = if 0 ≤ zv a i ∧ zv a i < P then g0 250 (zv a i) else if a = 214 ∧ i = 63 then P else g0 a i := h.2.2
theorem zv_63 : zv 214 63 = -1 := by decide +kernel
theorem zv_61 : zv 214 61 = -1 := by decide +kernel
theorem zv_250 (i : Int) : zv 250 i = -1 := by rfl
theorem zI.k63 {k P : Int} {g0 g : zi_M} (h : zI k P g0 g) : g 214 63 = P := by
  by_cases e : k = 0
  · rw [h.r e, zv_63, if_neg (by omega), if_pos ⟨rfl, rfl⟩]
  · rw [h.t e, if_neg (by omega), if_pos ⟨rfl, rfl⟩]
theorem zI.k61 {k P : Int} {g0 g : zi_M} (h : zI k P g0 g) : g 214 61 = g0 214 61 := by
  by_cases e : k = 0
  · rw [h.r e, zv_61, if_neg (by omega), if_neg (by omega)]
  · rw [h.t e, if_neg (by omega), if_neg (by omega)]
theorem zI.s {k P : Int} {g0 g : zi_M} (h : zI k P g0 g) (hP : 0 ≤ P ∧ P < 2004) (hk : g0 214 61 = k) {a : Nat} {i : Int} (ha : za P = a ∧ zb P = i) (hz : zi_r (g a i)) {R : zi_M → Prop} (hR : ∀ g', zI k (P + 1) g0 g' → R g') :
    w_M_keepsOne (g a i) g (fun v g1 => ∀ g2, g2 = zi_u g1 a i v → R g2) := by
  have zp := zim_p hP
  rw [ha.1, ha.2] at zp
  have k63 := h.k63
  have k61 := h.k61
  unfold w_M_keepsOne
  intro g1 e1
  have B1 : zk_b g1 := by rw [e1]; exact zk_updb (L := 0) (H := 2300) rfl rfl h.b ⟨by omega, by omega⟩
  have c63 : g1 214 63 = P + 1 := by rw [e1, zi_u_eq, k63]
  have c61 : g1 214 61 = k := by rw [e1, zi_u_ni (by decide), k61, hk]
  have r61 : 0 ≤ g1 214 61 ∧ g1 214 61 ≤ 1 := B1 214 61
  have eP : P + 1 - 1 = P := by omega
  refine ⟨⟨by omega, by omega⟩, fun n => ⟨⟨by omega, by omega⟩, ?_⟩, fun e => ⟨⟨by omega, by omega⟩, ?_⟩⟩
  · intro g4 e4 g2 e2
    rw [c63, eP] at e4
    have nk : ¬ k = 0 := by omega
    have bb := h.b a i
    have B4 : zk_b g4 := by rw [e4]; exact zk_updb rfl rfl B1 (by rw [zp.2.1, zp.2.2]; exact bb)
    have B2 : zk_b g2 := by rw [e2]; exact zk_updb rfl rfl B4 bb
    refine hR g2 ⟨B2, fun _ => ?_, fun q => absurd q nk⟩
    have v0 : g a i = g0 a i := by
      rw [h.t nk, if_neg (fun q => zp.1.2 q.1)]
      rw [if_neg]
      intro q
      have := zp.1.1
      rw [q.1, q.2, zv_63] at this
      omega
    intro b j
    by_cases c1 : b = a ∧ j = i
    · rw [c1.1, c1.2, e2, zi_u_eq, if_neg (fun q => zp.1.2 q.1), if_neg, v0]
      intro q
      have := zp.1.1
      rw [q.1, q.2, zv_63] at this
      omega
    · have n2 : g2 b j = g4 b j := by rw [e2]; unfold zi_u; rw [if_neg c1]
      rw [n2]
      by_cases c2 : b = 250 ∧ j = P
      · rw [c2.1, c2.2, e4, zi_u_eq, if_pos ⟨rfl, hP.1, by omega⟩, ha.1, ha.2, v0]
      · have n4 : g4 b j = g1 b j := by rw [e4]; unfold zi_u; rw [if_neg c2]
        rw [n4]
        by_cases c3 : b = 214 ∧ j = 63
        · rw [c3.1, c3.2, c63, if_neg (by omega), if_pos ⟨rfl, rfl⟩]
        · have n1 : g1 b j = g b j := by rw [e1]; unfold zi_u; rw [if_neg c3]
          rw [n1, h.t nk, if_neg c3, if_neg c3]
          by_cases c4 : b = 250 ∧ 0 ≤ j ∧ j < P
          · rw [if_pos c4, if_pos ⟨c4.1, c4.2.1, by omega⟩]
          · rw [if_neg c4, if_neg (fun q => c4 ⟨q.1, q.2.1, by have := q.2.2; by_cases w : j = P; exact absurd ⟨q.1, w⟩ c2; omega⟩)]
  · rw [c63, eP]
    intro g2 e2
    have ek : k = 0 := by omega
    have w0 : g1 250 P = g0 250 P := by
      rw [e1, zi_u_ne (by decide), h.r ek, zv_250, if_neg (by omega), if_neg (by omega)]
    have B2 : zk_b g2 := by rw [e2]; exact zk_updb rfl rfl B1 (by rw [← zp.2.1, ← zp.2.2]; exact B1 250 P)
    refine hR g2 ⟨B2, fun q => absurd ek q, fun _ => ?_⟩
    intro b j
    by_cases c1 : b = a ∧ j = i
    · rw [c1.1, c1.2, e2, zi_u_eq, zp.1.1, if_pos ⟨hP.1, by omega⟩, w0]
    · have n2 : g2 b j = g1 b j := by rw [e2]; unfold zi_u; rw [if_neg c1]
      rw [n2]
      by_cases c3 : b = 214 ∧ j = 63
      · rw [c3.1, c3.2, c63, zv_63, if_neg (by omega), if_pos ⟨rfl, rfl⟩]
      · have n1 : g1 b j = g b j := by rw [e1]; unfold zi_u; rw [if_neg c3]
        rw [n1, h.r ek, if_neg c3, if_neg c3]
        by_cases c4 : 0 ≤ zv b j ∧ zv b j < P
        · rw [if_pos c4, if_pos ⟨c4.1, by omega⟩]
        · rw [if_neg c4, if_neg]
          intro q
          have e : zv b j = P := by omega
          have := zv_inj hP.1 e
          rw [ha.1, ha.2] at this
          exact c1 this
noncomputable def zimT (g g' : zi_M) : Prop := (∀ p : Int, 0 ≤ p → p < 2004 → g' 250 p = g (za p) (zb p)) ∧ (∀ (a : Nat) (i : Int), a ≠ 250 → a ≠ 214 → g' a i = g a i) ∧ (∀ i : Int, i ≠ 0 → i ≠ 61 → i ≠ 62 → i ≠ 63 → g' 214 i = g 214 i)
noncomputable def zimR (g g' : zi_M) : Prop := (∀ (a : Nat) (i : Int), 0 ≤ zv a i → g' a i = g 250 (zv a i)) ∧ (∀ (a : Nat) (i : Int), zv a i = -1 → a ≠ 214 → g' a i = g a i) ∧ (∀ i : Int, zv 214 i = -1 → i ≠ 0 → i ≠ 3 → i ≠ 61 → i ≠ 62 → i ≠ 63 → g' 214 i = g 214 i)
theorem zj_lawd {m m' : Int} {lf lh lt op arg lf' lh' lt' op' arg' : Int → Int} (h : zj_law m lf lh lt op arg) (em : m' = m) (hm : m ≤ 16) (e1 : ∀ l, 0 ≤ l → l < 16 → lf' l = lf l) (e2 : ∀ l, 0 ≤ l → l < 16 → lh' l = lh l) (e3 : ∀ l, 0 ≤ l → l < 16 → lt' l = lt l) (e4 : ∀ i, 0 ≤ i → i < 400 → op' i = op i) (e5 : ∀ i, 0 ≤ i → i < 400 → arg' i = arg i) : zj_law m' lf' lh' lt' op' arg' := by
  rw [em]
  intro l h0 h1
  obtain ⟨hb, hs1, hs2⟩ := h l h0 h1
  rw [e1 l h0 (by omega), e2 l h0 (by omega), e3 l h0 (by omega)]
  exact ⟨hb, zj_segc hs1 (fun k k1 k2 => e4 k (by omega) (by omega)) (fun k k1 k2 => e5 k (by omega) (by omega)), zj_segc hs2 (fun k k1 k2 => e4 k (by omega) (by omega)) (fun k k1 k2 => e5 k (by omega) (by omega))⟩
theorem zI_j {k : Int} {g0 g : zi_M} (h : zI k 2004 g0 g) (I : zk_I g0) : zj g := by
  have c250 : g0 250 1139 ≤ 16 := (I.1 250 1139).2
  have c224 : g0 224 0 ≤ 16 := (I.1 224 0).2
  obtain ⟨h1, h2, h3, h4, h5, h6⟩ := I.2
  by_cases ek : k = 0
  · -- put back
    have r := h.r ek
    have pl : ∀ (a : Nat) (i p : Int), za p = a ∧ zb p = i → 0 ≤ p → p < 2004 → g a i = g0 250 p := by
      intro a i p hp p0 p1
      have z := (zim_p ⟨p0, p1⟩).1.1
      rw [hp.1, hp.2] at z
      rw [r, z, if_pos ⟨p0, p1⟩]
    have nl : ∀ i, g 250 i = g0 250 i := fun i => by rw [r, zv_250, if_neg (by omega), if_neg (by omega)]
    refine ⟨?_, ?_, ?_, ?_, ?_, ?_⟩
    · exact zj_lawd h4 (pl _ _ _ zab_224 (by decide) (by decide)) c250 (fun l l0 l1 => pl _ _ _ (zab_226 ⟨l0, l1⟩) (by omega) (by omega)) (fun l l0 l1 => pl _ _ _ (zab_227 ⟨l0, l1⟩) (by omega) (by omega)) (fun l l0 l1 => pl _ _ _ (zab_228 ⟨l0, l1⟩) (by omega) (by omega)) (fun l l0 l1 => pl _ _ _ (zab_229 ⟨l0, l1⟩) (by omega) (by omega)) (fun l l0 l1 => pl _ _ _ (zab_230 ⟨l0, l1⟩) (by omega) (by omega))
    · intro q q0 q1
      rw [pl 234 (4 * q + 1) _ (zab_234 (by omega)) (by omega) (by omega), pl 234 (4 * q + 2) _ (zab_234 (by omega)) (by omega) (by omega), pl 234 (4 * q + 3) _ (zab_234 (by omega)) (by omega) (by omega)]
      exact h5 q q0 q1
    · intro q q0 q1
      rw [pl 244 (4 * q) _ (zab_244 (by omega)) (by omega) (by omega), pl 244 (4 * q + 1) _ (zab_244 (by omega)) (by omega) (by omega), pl 244 (4 * q + 2) _ (zab_244 (by omega)) (by omega) (by omega), pl 244 (4 * q + 3) _ (zab_244 (by omega)) (by omega) (by omega)]
      exact h6 q q0 q1
    · exact zj_lawd h4 (nl _) c250 (fun _ _ _ => nl _) (fun _ _ _ => nl _) (fun _ _ _ => nl _) (fun _ _ _ => nl _) (fun _ _ _ => nl _)
    · intro q q0 q1
      simp only [nl]
      exact h5 q q0 q1
    · intro q q0 q1
      simp only [nl]
      exact h6 q q0 q1
  · -- taken
    have t := h.t ek
    have sm : ∀ (a : Nat) (i : Int), a ≠ 250 → a ≠ 214 → g a i = g0 a i := fun a i n1 n2 => by rw [t, if_neg (fun q => n1 q.1), if_neg (fun q => n2 q.1)]
    have pl : ∀ (a : Nat) (i p : Int), za p = a ∧ zb p = i → 0 ≤ p → p < 2004 → g 250 p = g0 a i := by
      intro a i p hp p0 p1
      rw [t, if_pos ⟨rfl, p0, p1⟩, hp.1, hp.2]
    refine ⟨?_, ?_, ?_, ?_, ?_, ?_⟩
    · exact zj_lawd h1 (sm _ _ (by decide) (by decide)) c224 (fun _ _ _ => sm _ _ (by decide) (by decide)) (fun _ _ _ => sm _ _ (by decide) (by decide)) (fun _ _ _ => sm _ _ (by decide) (by decide)) (fun _ _ _ => sm _ _ (by decide) (by decide)) (fun _ _ _ => sm _ _ (by decide) (by decide))
    · intro q q0 q1
      rw [sm 234 _ (by decide) (by decide), sm 234 _ (by decide) (by decide), sm 234 _ (by decide) (by decide)]
      exact h2 q q0 q1
    · intro q q0 q1
      rw [sm 244 _ (by decide) (by decide), sm 244 _ (by decide) (by decide), sm 244 _ (by decide) (by decide), sm 244 _ (by decide) (by decide)]
      exact h3 q q0 q1
    · exact zj_lawd h1 (pl _ _ _ zab_224 (by decide) (by decide)) c224 (fun l l0 l1 => pl _ _ _ (zab_226 ⟨l0, l1⟩) (by omega) (by omega)) (fun l l0 l1 => pl _ _ _ (zab_227 ⟨l0, l1⟩) (by omega) (by omega)) (fun l l0 l1 => pl _ _ _ (zab_228 ⟨l0, l1⟩) (by omega) (by omega)) (fun l l0 l1 => pl _ _ _ (zab_229 ⟨l0, l1⟩) (by omega) (by omega)) (fun l l0 l1 => pl _ _ _ (zab_230 ⟨l0, l1⟩) (by omega) (by omega))
    · intro q q0 q1
      show zj_deed (g 250 (475 + (4 * q + 1))) (g 250 (475 + (4 * q + 2))) (g 250 (475 + (4 * q + 3)))
      rw [pl 234 (4 * q + 1) _ (zab_234 (by omega)) (by omega) (by omega), pl 234 (4 * q + 2) _ (zab_234 (by omega)) (by omega) (by omega), pl 234 (4 * q + 3) _ (zab_234 (by omega)) (by omega) (by omega)]
      exact h2 q q0 q1
    · intro q q0 q1
      show zj_row (g 250 (371 + 4 * q)) (g 250 (371 + (4 * q + 1)) + 1) (g 250 (371 + (4 * q + 2)) + 2) (g 250 (371 + (4 * q + 3)) + 3)
      rw [pl 244 (4 * q) _ (zab_244 (by omega)) (by omega) (by omega), pl 244 (4 * q + 1) _ (zab_244 (by omega)) (by omega) (by omega), pl 244 (4 * q + 2) _ (zab_244 (by omega)) (by omega) (by omega), pl 244 (4 * q + 3) _ (zab_244 (by omega)) (by omega) (by omega)]
      exact h3 q q0 q1
theorem zk_rb {g : zi_M} (B : zk_b g) (a : Nat) (i : Int) : zi_r (g a i) := ⟨Int.le_trans (zk_lo_r a i).1 (B a i).1, Int.le_trans (B a i).2 (zk_hi_r a i).2⟩
noncomputable def fr_Im (a : Nat) (i : Int) : Prop := a = 215 ∨ a = 218 ∨ a = 219 ∨ a = 220 ∨ a = 221 ∨ a = 224 ∨ a = 225 ∨ a = 226 ∨ a = 227 ∨ a = 228 ∨ a = 229 ∨ a = 230 ∨ a = 232 ∨ a = 233 ∨ a = 234 ∨ a = 239 ∨ a = 240 ∨ a = 242 ∨ a = 243 ∨ a = 244 ∨ a = 247 ∨ a = 248 ∨ a = 250 ∨ (a = 214 ∧ i = 0) ∨ (a = 214 ∧ i = 3) ∨ (a = 214 ∧ i = 35) ∨ (a = 214 ∧ i = 37) ∨ (a = 214 ∧ i = 39) ∨ (a = 214 ∧ i = 46) ∨ (a = 214 ∧ i = 50) ∨ (a = 214 ∧ i = 56) ∨ (a = 214 ∧ i = 58) ∨ (a = 214 ∧ i = 6) ∨ (a = 214 ∧ i = 61) ∨ (a = 214 ∧ i = 62) ∨ (a = 214 ∧ i = 63) ∨ (a = 214 ∧ i = 7)
theorem zv_fr {a : Nat} {i : Int} (h : 0 ≤ zv a i) : fr_Im a i := by
  unfold zv at h
  by_cases c215 : a = 215
  · exact (Or.inl c215)
  rw [if_neg c215] at h
  by_cases c214 : a = 214
  · rw [if_pos c214] at h
    by_cases d6 : i = 6
    · exact (Or.inr (Or.inr (Or.inr (Or.inr (Or.inr (Or.inr (Or.inr (Or.inr (Or.inr (Or.inr (Or.inr (Or.inr (Or.inr (Or.inr (Or.inr (Or.inr (Or.inr (Or.inr (Or.inr (Or.inr (Or.inr (Or.inr (Or.inr (Or.inr (Or.inr (Or.inr (Or.inr (Or.inr (Or.inr (Or.inr (Or.inr (Or.inr (Or.inl ⟨c214, d6⟩)))))))))))))))))))))))))))))))))
    rw [if_neg d6] at h
    by_cases d7 : i = 7
    · exact (Or.inr (Or.inr (Or.inr (Or.inr (Or.inr (Or.inr (Or.inr (Or.inr (Or.inr (Or.inr (Or.inr (Or.inr (Or.inr (Or.inr (Or.inr (Or.inr (Or.inr (Or.inr (Or.inr (Or.inr (Or.inr (Or.inr (Or.inr (Or.inr (Or.inr (Or.inr (Or.inr (Or.inr (Or.inr (Or.inr (Or.inr (Or.inr (Or.inr (Or.inr (Or.inr (Or.inr ⟨c214, d7⟩))))))))))))))))))))))))))))))))))))
    rw [if_neg d7] at h
    by_cases d35 : i = 35
    · exact (Or.inr (Or.inr (Or.inr (Or.inr (Or.inr (Or.inr (Or.inr (Or.inr (Or.inr (Or.inr (Or.inr (Or.inr (Or.inr (Or.inr (Or.inr (Or.inr (Or.inr (Or.inr (Or.inr (Or.inr (Or.inr (Or.inr (Or.inr (Or.inr (Or.inr (Or.inl ⟨c214, d35⟩))))))))))))))))))))))))))
    rw [if_neg d35] at h
    by_cases d37 : i = 37
    · exact (Or.inr (Or.inr (Or.inr (Or.inr (Or.inr (Or.inr (Or.inr (Or.inr (Or.inr (Or.inr (Or.inr (Or.inr (Or.inr (Or.inr (Or.inr (Or.inr (Or.inr (Or.inr (Or.inr (Or.inr (Or.inr (Or.inr (Or.inr (Or.inr (Or.inr (Or.inr (Or.inl ⟨c214, d37⟩)))))))))))))))))))))))))))
    rw [if_neg d37] at h
    by_cases d39 : i = 39
    · exact (Or.inr (Or.inr (Or.inr (Or.inr (Or.inr (Or.inr (Or.inr (Or.inr (Or.inr (Or.inr (Or.inr (Or.inr (Or.inr (Or.inr (Or.inr (Or.inr (Or.inr (Or.inr (Or.inr (Or.inr (Or.inr (Or.inr (Or.inr (Or.inr (Or.inr (Or.inr (Or.inr (Or.inl ⟨c214, d39⟩))))))))))))))))))))))))))))
    rw [if_neg d39] at h
    by_cases d46 : i = 46
    · exact (Or.inr (Or.inr (Or.inr (Or.inr (Or.inr (Or.inr (Or.inr (Or.inr (Or.inr (Or.inr (Or.inr (Or.inr (Or.inr (Or.inr (Or.inr (Or.inr (Or.inr (Or.inr (Or.inr (Or.inr (Or.inr (Or.inr (Or.inr (Or.inr (Or.inr (Or.inr (Or.inr (Or.inr (Or.inl ⟨c214, d46⟩)))))))))))))))))))))))))))))
    rw [if_neg d46] at h
    by_cases d50 : i = 50
    · exact (Or.inr (Or.inr (Or.inr (Or.inr (Or.inr (Or.inr (Or.inr (Or.inr (Or.inr (Or.inr (Or.inr (Or.inr (Or.inr (Or.inr (Or.inr (Or.inr (Or.inr (Or.inr (Or.inr (Or.inr (Or.inr (Or.inr (Or.inr (Or.inr (Or.inr (Or.inr (Or.inr (Or.inr (Or.inr (Or.inl ⟨c214, d50⟩))))))))))))))))))))))))))))))
    rw [if_neg d50] at h
    by_cases d56 : i = 56
    · exact (Or.inr (Or.inr (Or.inr (Or.inr (Or.inr (Or.inr (Or.inr (Or.inr (Or.inr (Or.inr (Or.inr (Or.inr (Or.inr (Or.inr (Or.inr (Or.inr (Or.inr (Or.inr (Or.inr (Or.inr (Or.inr (Or.inr (Or.inr (Or.inr (Or.inr (Or.inr (Or.inr (Or.inr (Or.inr (Or.inr (Or.inl ⟨c214, d56⟩)))))))))))))))))))))))))))))))
    rw [if_neg d56] at h
    by_cases d58 : i = 58
    · exact (Or.inr (Or.inr (Or.inr (Or.inr (Or.inr (Or.inr (Or.inr (Or.inr (Or.inr (Or.inr (Or.inr (Or.inr (Or.inr (Or.inr (Or.inr (Or.inr (Or.inr (Or.inr (Or.inr (Or.inr (Or.inr (Or.inr (Or.inr (Or.inr (Or.inr (Or.inr (Or.inr (Or.inr (Or.inr (Or.inr (Or.inr (Or.inl ⟨c214, d58⟩))))))))))))))))))))))))))))))))
    rw [if_neg d58] at h
    exfalso; omega
  rw [if_neg c214] at h
  by_cases c218 : a = 218
  · exact (Or.inr (Or.inl c218))
  rw [if_neg c218] at h
  by_cases c219 : a = 219
  · exact (Or.inr (Or.inr (Or.inl c219)))
  rw [if_neg c219] at h
  by_cases c220 : a = 220
  · exact (Or.inr (Or.inr (Or.inr (Or.inl c220))))
  rw [if_neg c220] at h
  by_cases c232 : a = 232
  · exact (Or.inr (Or.inr (Or.inr (Or.inr (Or.inr (Or.inr (Or.inr (Or.inr (Or.inr (Or.inr (Or.inr (Or.inr (Or.inl c232)))))))))))))
  rw [if_neg c232] at h
  by_cases c242 : a = 242
  · exact (Or.inr (Or.inr (Or.inr (Or.inr (Or.inr (Or.inr (Or.inr (Or.inr (Or.inr (Or.inr (Or.inr (Or.inr (Or.inr (Or.inr (Or.inr (Or.inr (Or.inr (Or.inl c242))))))))))))))))))
  rw [if_neg c242] at h
  by_cases c239 : a = 239
  · exact (Or.inr (Or.inr (Or.inr (Or.inr (Or.inr (Or.inr (Or.inr (Or.inr (Or.inr (Or.inr (Or.inr (Or.inr (Or.inr (Or.inr (Or.inr (Or.inl c239))))))))))))))))
  rw [if_neg c239] at h
  by_cases c240 : a = 240
  · exact (Or.inr (Or.inr (Or.inr (Or.inr (Or.inr (Or.inr (Or.inr (Or.inr (Or.inr (Or.inr (Or.inr (Or.inr (Or.inr (Or.inr (Or.inr (Or.inr (Or.inl c240)))))))))))))))))
  rw [if_neg c240] at h
  by_cases c248 : a = 248
  · exact (Or.inr (Or.inr (Or.inr (Or.inr (Or.inr (Or.inr (Or.inr (Or.inr (Or.inr (Or.inr (Or.inr (Or.inr (Or.inr (Or.inr (Or.inr (Or.inr (Or.inr (Or.inr (Or.inr (Or.inr (Or.inr (Or.inl c248))))))))))))))))))))))
  rw [if_neg c248] at h
  by_cases c243 : a = 243
  · exact (Or.inr (Or.inr (Or.inr (Or.inr (Or.inr (Or.inr (Or.inr (Or.inr (Or.inr (Or.inr (Or.inr (Or.inr (Or.inr (Or.inr (Or.inr (Or.inr (Or.inr (Or.inr (Or.inl c243)))))))))))))))))))
  rw [if_neg c243] at h
  by_cases c244 : a = 244
  · exact (Or.inr (Or.inr (Or.inr (Or.inr (Or.inr (Or.inr (Or.inr (Or.inr (Or.inr (Or.inr (Or.inr (Or.inr (Or.inr (Or.inr (Or.inr (Or.inr (Or.inr (Or.inr (Or.inr (Or.inl c244))))))))))))))))))))
  rw [if_neg c244] at h
  by_cases c247 : a = 247
  · exact (Or.inr (Or.inr (Or.inr (Or.inr (Or.inr (Or.inr (Or.inr (Or.inr (Or.inr (Or.inr (Or.inr (Or.inr (Or.inr (Or.inr (Or.inr (Or.inr (Or.inr (Or.inr (Or.inr (Or.inr (Or.inl c247)))))))))))))))))))))
  rw [if_neg c247] at h
  by_cases c233 : a = 233
  · exact (Or.inr (Or.inr (Or.inr (Or.inr (Or.inr (Or.inr (Or.inr (Or.inr (Or.inr (Or.inr (Or.inr (Or.inr (Or.inr (Or.inl c233))))))))))))))
  rw [if_neg c233] at h
  by_cases c234 : a = 234
  · exact (Or.inr (Or.inr (Or.inr (Or.inr (Or.inr (Or.inr (Or.inr (Or.inr (Or.inr (Or.inr (Or.inr (Or.inr (Or.inr (Or.inr (Or.inl c234)))))))))))))))
  rw [if_neg c234] at h
  by_cases c221 : a = 221
  · exact (Or.inr (Or.inr (Or.inr (Or.inr (Or.inl c221)))))
  rw [if_neg c221] at h
  by_cases c224 : a = 224
  · exact (Or.inr (Or.inr (Or.inr (Or.inr (Or.inr (Or.inl c224))))))
  rw [if_neg c224] at h
  by_cases c225 : a = 225
  · exact (Or.inr (Or.inr (Or.inr (Or.inr (Or.inr (Or.inr (Or.inl c225)))))))
  rw [if_neg c225] at h
  by_cases c226 : a = 226
  · exact (Or.inr (Or.inr (Or.inr (Or.inr (Or.inr (Or.inr (Or.inr (Or.inl c226))))))))
  rw [if_neg c226] at h
  by_cases c227 : a = 227
  · exact (Or.inr (Or.inr (Or.inr (Or.inr (Or.inr (Or.inr (Or.inr (Or.inr (Or.inl c227)))))))))
  rw [if_neg c227] at h
  by_cases c228 : a = 228
  · exact (Or.inr (Or.inr (Or.inr (Or.inr (Or.inr (Or.inr (Or.inr (Or.inr (Or.inr (Or.inl c228))))))))))
  rw [if_neg c228] at h
  by_cases c229 : a = 229
  · exact (Or.inr (Or.inr (Or.inr (Or.inr (Or.inr (Or.inr (Or.inr (Or.inr (Or.inr (Or.inr (Or.inl c229)))))))))))
  rw [if_neg c229] at h
  by_cases c230 : a = 230
  · exact (Or.inr (Or.inr (Or.inr (Or.inr (Or.inr (Or.inr (Or.inr (Or.inr (Or.inr (Or.inr (Or.inr (Or.inl c230))))))))))))
  rw [if_neg c230] at h
  exfalso; omega

-- WHAT IS TOLD, copied from one place to another
noncomputable def zTc (r0 r1 : Nat) (g g' : zi_M) : Prop := (g' r0 2 = g r1 2 ∧ g' r0 5 = g r1 5 ∧ g' r0 10 = g r1 10 ∧ g' r0 12 = g r1 12) ∧ (∀ i : Int, 0 ≤ i → i < 12 → g' (r0 + 1) i = g (r1 + 1) i) ∧ (∀ i : Int, 0 ≤ i → i < 12 → g' (r0 + 2) i = g (r1 + 2) i) ∧ (∀ i : Int, 0 ≤ i → i < 14 → g' (r0 + 3) i = g (r1 + 3) i) ∧ (∀ i : Int, 0 ≤ i → i < 14 → g' (r0 + 4) i = g (r1 + 4) i) ∧ (∀ i : Int, 0 ≤ i → i < 16 → g' (r0 + 5) i = g (r1 + 5) i) ∧ (∀ i : Int, 0 ≤ i → i < 16 → g' (r0 + 6) i = g (r1 + 6) i) ∧ (∀ i : Int, 0 ≤ i → i < 16 → g' (r0 + 7) i = g (r1 + 7) i) ∧ (∀ i : Int, 0 ≤ i → i < 40 → g' (r0 + 8) i = g (r1 + 8) i) ∧ (∀ i : Int, 0 ≤ i → i < 12 → g' (r0 + 9) i = g (r1 + 9) i)
noncomputable def zTk (r : Nat) (g g' : zi_M) : Prop := ∀ (a : Nat) (i : Int), r ≤ a → a ≤ r + 9 → g' a i = g a i
theorem zs_told : ∀ r, r < 251 → zs_sh r = some (9, 13) → r = 36 ∨ r = 81 := by decide +kernel
theorem zs_toldI {r : Nat} (h : zs_sh r = some (9, 13)) : r = 36 ∨ r = 81 := zs_told r (zs_lt h).1 h
theorem zs_cath : ∀ r, r < 251 → zs_sh r = some (1, 4) → r = 1 ∨ r = 46 := by decide +kernel
theorem zs_cathI {r : Nat} (h : zs_sh r = some (1, 4)) : r = 1 ∨ r = 46 := zs_cath r (zs_lt h).1 h
set_option maxHeartbeats 4000000 in
theorem zTc_all {r0 r1 : Nat} {g h1 h2 h3 h4 h5 h6 h7 h8 h9 h10 h11 h12 h13 : zi_M} (hr0 : zs_sh r0 = some (9, 13)) (hr1 : zs_sh r1 = some (9, 13)) (e1 : h1 = zi_cp g (r1 + 1) 0 (r0 + 1) 0 12) (e2 : h2 = zi_cp h1 (r1 + 2) 0 (r0 + 2) 0 12) (e3 : h3 = zi_u h2 r0 2 (h2 r1 2)) (e4 : h4 = zi_cp h3 (r1 + 3) 0 (r0 + 3) 0 14) (e5 : h5 = zi_cp h4 (r1 + 4) 0 (r0 + 4) 0 14) (e6 : h6 = zi_u h5 r0 5 (h5 r1 5)) (e7 : h7 = zi_cp h6 (r1 + 5) 0 (r0 + 5) 0 16) (e8 : h8 = zi_cp h7 (r1 + 6) 0 (r0 + 6) 0 16) (e9 : h9 = zi_cp h8 (r1 + 7) 0 (r0 + 7) 0 16) (e10 : h10 = zi_cp h9 (r1 + 8) 0 (r0 + 8) 0 40) (e11 : h11 = zi_u h10 r0 10 (h10 r1 10)) (e12 : h12 = zi_cp h11 (r1 + 9) 0 (r0 + 9) 0 12) (e13 : h13 = zi_u h12 r0 12 (h12 r1 12)) : zTc r0 r1 g h13 := by
  have q0 := zs_toldI hr0
  have q1 := zs_toldI hr1
  clear hr0 hr1
  subst e1 e2 e3 e4 e5 e6 e7 e8 e9 e10 e11 e12 e13
  rcases q0 with q0 | q0 <;> rcases q1 with q1 | q1 <;> subst q0 q1 <;> refine ⟨⟨?_, ?_, ?_, ?_⟩, ?_, ?_, ?_, ?_, ?_, ?_, ?_, ?_, ?_⟩ <;> first | (simp [zi_u, zi_cp]; done) | (intro i h0 h1; simp [zi_u, zi_cp, h0, h1]; done)
theorem zTc_tr {r0 r1 : Nat} {g g8 g' : zi_M} (e : ∀ (a : Nat) (i : Int), r1 ≤ a → a ≤ r1 + 9 → g8 a i = g a i) (h : zTc r0 r1 g8 g') : zTc r0 r1 g g' := by
  obtain ⟨⟨a1, a2, a3, a4⟩, b1, b2, b3, b4, b5, b6, b7, b8, b9⟩ := h
  refine ⟨⟨by rw [a1, e _ _ (by omega) (by omega)], by rw [a2, e _ _ (by omega) (by omega)], by rw [a3, e _ _ (by omega) (by omega)], by rw [a4, e _ _ (by omega) (by omega)]⟩, ?_, ?_, ?_, ?_, ?_, ?_, ?_, ?_, ?_⟩ <;> intro i h0 h1
  · rw [b1 i h0 h1, e _ _ (by omega) (by omega)]
  · rw [b2 i h0 h1, e _ _ (by omega) (by omega)]
  · rw [b3 i h0 h1, e _ _ (by omega) (by omega)]
  · rw [b4 i h0 h1, e _ _ (by omega) (by omega)]
  · rw [b5 i h0 h1, e _ _ (by omega) (by omega)]
  · rw [b6 i h0 h1, e _ _ (by omega) (by omega)]
  · rw [b7 i h0 h1, e _ _ (by omega) (by omega)]
  · rw [b8 i h0 h1, e _ _ (by omega) (by omega)]
  · rw [b9 i h0 h1, e _ _ (by omega) (by omega)]
theorem zTc_to {r0 r1 : Nat} {g g' g9 : zi_M} (h : zTc r0 r1 g g') (e : ∀ (a : Nat) (i : Int), r0 ≤ a → a ≤ r0 + 9 → g9 a i = g' a i) : zTc r0 r1 g g9 := by
  obtain ⟨⟨a1, a2, a3, a4⟩, b1, b2, b3, b4, b5, b6, b7, b8, b9⟩ := h
  refine ⟨⟨by rw [e _ _ (by omega) (by omega), a1], by rw [e _ _ (by omega) (by omega), a2], by rw [e _ _ (by omega) (by omega), a3], by rw [e _ _ (by omega) (by omega), a4]⟩, ?_, ?_, ?_, ?_, ?_, ?_, ?_, ?_, ?_⟩ <;> intro i h0 h1
  · rw [e _ _ (by omega) (by omega), b1 i h0 h1]
  · rw [e _ _ (by omega) (by omega), b2 i h0 h1]
  · rw [e _ _ (by omega) (by omega), b3 i h0 h1]
  · rw [e _ _ (by omega) (by omega), b4 i h0 h1]
  · rw [e _ _ (by omega) (by omega), b5 i h0 h1]
  · rw [e _ _ (by omega) (by omega), b6 i h0 h1]
  · rw [e _ _ (by omega) (by omega), b7 i h0 h1]
  · rw [e _ _ (by omega) (by omega), b8 i h0 h1]
  · rw [e _ _ (by omega) (by omega), b9 i h0 h1]

noncomputable def fr_E (a : Nat) (i : Int) : Prop := a = 229 ∨ a = 230 ∨ (a = 214 ∧ i = 27)
noncomputable def fr_R (a : Nat) (i : Int) : Prop := (a = 214 ∧ i = 14) ∨ (a = 214 ∧ i = 15) ∨ (a = 214 ∧ i = 16) ∨ (a = 214 ∧ i = 17)
theorem fr_EP (a : Nat) (i : Int) (h : fr_E a i) : fr_P a i := h.elim Or.inl (fun h => h.elim (fun h => Or.inr (Or.inl h)) (fun h => Or.inr (Or.inr (Or.inr (Or.inr (Or.inr (Or.inr (Or.inl h))))))))
theorem fr_RP (a : Nat) (i : Int) (h : fr_R a i) : fr_P a i := Or.inr (Or.inr (h.elim Or.inl (fun h => Or.inr (h.elim Or.inl (fun h => Or.inr (h.elim Or.inl (fun h => Or.inr (Or.inl h))))))))
/-- a token is read over -/
theorem zx_rd {g g' : zi_M} (I : zk_I g') (F : zk_fr fr_R g g') (h1 : g 214 14 ≤ g' 214 15) (h2 : g' 214 14 ≤ g' 214 13) (h3 : g' 214 15 ≤ g' 214 14) (h4 : zt3 g') {b : Int} (hb : b ≤ g 214 14 - g 214 15) (hf : g 214 15 ≤ g 214 14) : zx 0 b g g' := by
  have c : g' 214 27 = g 214 27 := F _ _ (by unfold fr_R; omega)
  have o : ∀ i : Int, g' 229 i = g 229 i ∧ g' 230 i = g 230 i := fun i => ⟨F _ _ (by unfold fr_R; omega), F _ _ (by unfold fr_R; omega)⟩
  refine ⟨I, h2, h3, h4, by omega, by omega, by omega, zk_ft (zk_f0 _) F fr_RP, fun i _ => o i, fun s d hd => ?_⟩
  rw [Int.add_zero]
  exact zp_same hd c (fun i _ => o i)
/-- a code is put -/
theorem zx_em {k b e : Int} {g0 g g' : zi_M} {w v : Int} (h : zx k b g0 g) (I : zk_I g') (F : zk_fr fr_E g g') (hc : g' 214 27 = g 214 27 + 1) (hw : g' 229 (800 + g 214 27) = w) (hv : g' 230 (800 + g 214 27) = v)
    (ho : ∀ i : Int, ¬ i = 800 + g 214 27 → g' 229 i = g 229 i ∧ g' 230 i = g 230 i) (w0 : 0 ≤ w ∧ w ≤ 11) (w1 : w = 1 → 0 ≤ v ∧ v ≤ 8) (w2 : w = 9 → 1 ≤ k) (w3 : 2 ≤ w → w ≠ 9 → 2 ≤ k)
    (w5 : w = 5 → g0 214 27 < g 214 27 ∧ g 229 (800 + g 214 27 - 1) = 0 ∧ 1 ≤ g 230 (800 + g 214 27 - 1)) (he : e = k + (if w ≤ 1 then 1 else if w = 9 then 0 else -1)) : zx e (b - 1) g0 g' := by
  have f : ∀ i : Int, ¬ i = 27 → g' 214 i = g 214 i := fun i hi => F _ _ (by unfold fr_E; omega)
  have cc := h.cc
  refine ⟨I, ?_, ?_, ?_, ?_, ?_, ?_, zk_ft h.fr F fr_EP, ?_, ?_⟩
  · rw [f 14 (by decide), f 13 (by decide)]; exact h.sp
  · rw [f 15 (by decide), f 14 (by decide)]; exact h.fs
  · exact zt3_e h.t3 (f 14 (by decide)) (f 15 (by decide)) (f 16 (by decide)) (f 17 (by decide))
  · rw [f 15 (by decide)]; exact h.ff
  · omega
  · rw [f 15 (by decide)]; have := h.cf; omega
  · intro i hi
    have h1 := h.lo i hi
    have h2 := ho i (by omega)
    exact ⟨h2.1.trans h1.1, h2.2.trans h1.2⟩
  · intro s d hd
    have hg := h.dp s d hd
    have d0 := hd.1
    have s0 := hd.2.2.1
    refine zp_emit hg hc hw hv ho w0 w1 (fun q => ?_) (fun q1 q2 => ?_) (fun q => ?_) (by rw [he]; omega)
    · have := w2 q; omega
    · have := w3 q1 q2; omega
    · have := w5 q; exact ⟨by omega, this.2⟩
noncomputable def fr_X (a : Nat) (i : Int) : Prop := (a = 214 ∧ i = 31) ∨ (a = 214 ∧ i = 32)
theorem fr_XP (a : Nat) (i : Int) (h : fr_X a i) : fr_P a i := Or.inr (Or.inr (Or.inr (Or.inr (Or.inr (Or.inr (Or.inr h))))))

-- WHAT WAITS while a condition is read, as a list (top first)
noncomputable def zl_top : List Int → Int
  | [] => 0
  | x :: _ => x
noncomputable def zl_drop (w : Int) : List Int → List Int
  | [] => []
  | x :: t => if x = w then zl_drop w t else x :: t
noncomputable def zl_cnt (w : Int) : List Int → Int
  | [] => 0
  | x :: t => if x = w then zl_cnt w t + 1 else 0
/-- how many are one of two -/
noncomputable def zl_of (a b : Int) : List Int → Int
  | [] => 0
  | x :: t => zl_of a b t + (if x = a ∨ x = b then 1 else 0)
noncomputable def zl_ok (n a o b : Int) : List Int → Prop
  | [] => True
  | x :: t => zl_ok n a o b t ∧ (x = n ∨ x = b ∨ (x = a ∧ zl_top t ≠ n ∧ zl_top t ≠ a) ∨ (x = o ∧ zl_top t ≠ n ∧ zl_top t ≠ a ∧ zl_top t ≠ o))
theorem zl_cnt0 (w : Int) : ∀ P, 0 ≤ zl_cnt w P
  | [] => Int.le_refl _
  | x :: t => by
    have := zl_cnt0 w t
    unfold zl_cnt
    split <;> omega
theorem zl_of0 (a b : Int) : ∀ P, 0 ≤ zl_of a b P
  | [] => Int.le_refl _
  | x :: t => by
    have := zl_of0 a b t
    unfold zl_of
    split <;> omega
theorem zl_dropl (w : Int) : ∀ P, (P.length : Int) = (zl_drop w P).length + zl_cnt w P
  | [] => rfl
  | x :: t => by
    have := zl_dropl w t
    unfold zl_drop zl_cnt
    split
    · rw [List.length_cons]; omega
    · omega
theorem zl_dropt (w : Int) (hw : w ≠ 0) : ∀ P, zl_top (zl_drop w P) ≠ w
  | [] => fun e => hw e.symm
  | x :: t => by
    unfold zl_drop
    split
    · exact zl_dropt w hw t
    · assumption
theorem zl_dropok {n a o b : Int} (w : Int) : ∀ P, zl_ok n a o b P → zl_ok n a o b (zl_drop w P)
  | [], h => h
  | x :: t, h => by
    unfold zl_drop
    split
    · exact zl_dropok w t h.1
    · exact h
theorem zl_dropof (a b w : Int) : ∀ P, zl_of a b P = zl_of a b (zl_drop w P) + (if w = a ∨ w = b then zl_cnt w P else 0)
  | [] => by unfold zl_cnt; split <;> rfl
  | x :: t => by
    have ih := zl_dropof a b w t
    unfold zl_drop zl_cnt
    by_cases e : x = w
    · rw [if_pos e, if_pos e]
      show zl_of a b t + (if x = a ∨ x = b then 1 else 0) = _
      rw [ih, e]
      split <;> omega
    · rw [if_neg e, if_neg e]
      split <;> omega
/-- behind what bound strongest there stands no not -/
theorem zl_dropn {n a o b : Int} (w : Int) (hwn : w ≠ n) (hn0 : n ≠ 0) (h1 : w = a ∨ w = o) (hb : b ≠ a ∧ b ≠ o) (hna : n ≠ a ∧ n ≠ o) : ∀ P, zl_ok n a o b P → zl_top P ≠ n → zl_top (zl_drop w P) ≠ n
  | [], _, h => h
  | x :: t, hk, h => by
    unfold zl_drop
    split
    · rename_i e
      refine zl_dropn w hwn hn0 h1 hb hna t hk.1 ?_
      rcases hk.2 with q | q | q | q
      · exact absurd q h
      · omega
      · exact q.2.1
      · exact q.2.1
    · exact h
theorem zl_drop2 {n a o b : Int} (hb : b ≠ a ∧ b ≠ o) (hna : n ≠ a ∧ n ≠ o) (hao : a ≠ o) (h0 : a ≠ 0 ∧ o ≠ 0) : ∀ P, zl_ok n a o b P → zl_top P ≠ a → zl_top (zl_drop o P) ≠ a
  | [], _, h => h
  | x :: t, hk, h => by
    unfold zl_drop
    split
    · rename_i e
      refine zl_drop2 hb hna hao h0 t hk.1 ?_
      rcases hk.2 with q | q | q | q
      · omega
      · omega
      · omega
      · exact q.2.2.1
    · exact h
theorem zl_len {n a o b : Int} (hn : n ≠ a ∧ n ≠ o ∧ n ≠ 0) (hb : b ≠ a ∧ b ≠ o) (ha : a ≠ o ∧ a ≠ 0 ∧ o ≠ 0) : ∀ P, zl_ok n a o b P → (P.length : Int) ≤ 3 * zl_of n b P + (if zl_top P = a then 2 else if zl_top P = o then 1 else 0)
  | [], _ => by
    show (0 : Int) ≤ 3 * 0 + _
    split
    · omega
    · split <;> omega
  | x :: t, hk => by
    have ih := zl_len hn hb ha t hk.1
    rw [List.length_cons]
    show ((t.length + 1 : Nat) : Int) ≤ 3 * (zl_of n b t + (if x = n ∨ x = b then 1 else 0)) + (if x = a then 2 else if x = o then 1 else 0)
    rcases hk.2 with q | q | q | q
    · rw [if_pos (Or.inl q), if_neg (by omega), if_neg (by omega)]
      split at ih
      · omega
      · split at ih <;> omega
    · rw [if_pos (Or.inr q), if_neg (by omega), if_neg (by omega)]
      split at ih
      · omega
      · split at ih <;> omega
    · rw [if_neg (by omega), if_pos q.1]
      rw [if_neg q.2.2] at ih
      split at ih <;> omega
    · rw [if_neg (by omega), if_neg (by omega), if_pos q.1]
      rw [if_neg q.2.2.1, if_neg q.2.2.2] at ih
      omega
theorem zl_top_in {n a o b : Int} : ∀ P, zl_ok n a o b P → P = [] ∨ zl_top P = n ∨ zl_top P = a ∨ zl_top P = o ∨ zl_top P = b
  | [], _ => Or.inl rfl
  | x :: t, hk => by
    refine Or.inr ?_
    show x = n ∨ x = a ∨ x = o ∨ x = b
    rcases hk.2 with q | q | q | q
    · exact Or.inl q
    · exact Or.inr (Or.inr (Or.inr q))
    · exact Or.inr (Or.inl q.1)
    · exact Or.inr (Or.inr (Or.inl q.1))
noncomputable def zql (g : zi_M) (a : Nat) : List Int → Prop
  | [] => True
  | x :: t => g a (t.length : Int) = x ∧ zql g a t
theorem zql_c {g g' : zi_M} {a : Nat} : ∀ {P : List Int}, zql g a P → (∀ i : Int, 0 ≤ i → i < P.length → g' a i = g a i) → zql g' a P
  | [], _, _ => trivial
  | x :: t, h, e => by
    rw [List.length_cons] at e
    exact ⟨by rw [e _ (by omega) (by omega)]; exact h.1, zql_c h.2 (fun i h1 h2 => e i h1 (by omega))⟩
theorem zl_ofl (a b : Int) : ∀ P : List Int, zl_of a b P ≤ P.length
  | [] => Int.le_refl _
  | x :: t => by
    have := zl_ofl a b t
    rw [List.length_cons]
    show zl_of a b t + _ ≤ _
    split <;> omega
theorem zl_of_le : ∀ P : List Int, zl_of 0 0 P ≤ zl_of 6 0 P
  | [] => Int.le_refl _
  | x :: t => by
    have := zl_of_le t
    show zl_of 0 0 t + _ ≤ zl_of 6 0 t + _
    by_cases e : x = 0
    · rw [if_pos (Or.inl e), if_pos (Or.inr e)]; omega
    · rw [if_neg (fun q => e (q.elim id id))]
      split <;> omega

noncomputable def fr_S (a : Nat) (i : Int) : Prop := a = 229 ∨ a = 230 ∨ (a = 214 ∧ i = 27) ∨ (a = 214 ∧ i = 28) ∨ (a = 214 ∧ i = 30)
/-- what waits -/
noncomputable def zq (g : zi_M) (P : List Int) : Prop := g 214 30 = (P.length : Int) ∧ zql g 231 P
/-- all w on top are put -/
noncomputable def zS (w : Int) (P : List Int) (g0 g : zi_M) : Prop := (zk_I g) ∧ (zq g (zl_drop w P)) ∧ (zk_fr fr_S g0 g) ∧ (g 214 27 = g0 214 27 + zl_cnt w P) ∧ (g 214 28 = g0 214 28 - (if w = 9 then zl_cnt w P else 0)) ∧ (∀ i : Int, i < 800 + g0 214 27 → g 229 i = g0 229 i ∧ g 230 i = g0 230 i) ∧ (∀ s d, zp g0 s d → (w = 9 → 1 ≤ d) → (w ≠ 9 → zl_cnt w P + 1 ≤ d) → zp g s (d - (if w = 9 then 0 else zl_cnt w P)))
theorem zS.I {w : Int} {P : List Int} {g0 g : zi_M} (h : zS w P g0 g) : zk_I g := h.1
theorem zS.q {w : Int} {P : List Int} {g0 g : zi_M} (h : zS w P g0 g) : zq g (zl_drop w P) := h.2.1
theorem zS.fr {w : Int} {P : List Int} {g0 g : zi_M} (h : zS w P g0 g) : zk_fr fr_S g0 g := h.2.2.1
theorem zS.cl {w : Int} {P : List Int} {g0 g : zi_M} (h : zS w P g0 g) : g 214 27 = g0 214 27 + zl_cnt w P := h.2.2.2.1
theorem zS.op {w : Int} {P : List Int} {g0 g : zi_M} (h : zS w P g0 g) : g 214 28 = g0 214 28 - (if w = 9 then zl_cnt w P else 0) := h.2.2.2.2.1
theorem zS.lo {w : Int} {P : List Int} {g0 g : zi_M} (h : zS w P g0 g) : ∀ i : Int, i < 800 + g0 214 27 → g 229 i = g0 229 i ∧ g 230 i = g0 230 i := h.2.2.2.2.2.1
theorem zS.dp {w : Int} {P : List Int} {g0 g : zi_M} (h : zS w P g0 g) : ∀ s d, zp g0 s d → (w = 9 → 1 ≤ d) → (w ≠ 9 → zl_cnt w P + 1 ≤ d) → zp g s (d - (if w = 9 then 0 else zl_cnt w P)) := h.2.2.2.2.2.2
theorem zS_0 {w : Int} {P : List Int} {g : zi_M} (I : zk_I g) (q : zq g P) (h : zl_top P ≠ w ∨ P = []) : zS w P g g := by
  have e1 : zl_drop w P = P := by
    cases P with
    | nil => rfl
    | cons x t => exact if_neg (fun e => h.elim (fun h => h e) (fun h => by cases h))
  have e2 : zl_cnt w P = 0 := by
    cases P with
    | nil => rfl
    | cons x t => exact if_neg (fun e => h.elim (fun h => h e) (fun h => by cases h))
  refine ⟨I, by rw [e1]; exact q, zk_f0 _, by rw [e2]; omega, by rw [e2]; split <;> omega, fun _ _ => ⟨rfl, rfl⟩, fun s d hd _ _ => ?_⟩
  rw [e2]
  have : d - (if w = 9 then 0 else 0) = d := by split <;> omega
  rw [this]
  exact hd
theorem zS_1 {w : Int} {t : List Int} {g g1 g2 : zi_M} (hw : 2 ≤ w ∧ w ≤ 11 ∧ w ≠ 5) (I1 : zk_I g1) (F : zk_fr fr_S g g1) (hc : g1 214 27 = g 214 27 + 1) (ho : g1 229 (800 + g 214 27) = w) (hv : g1 230 (800 + g 214 27) = 0)
    (hl : ∀ i : Int, ¬ i = 800 + g 214 27 → g1 229 i = g 229 i ∧ g1 230 i = g 230 i) (hop : g1 214 28 = g 214 28 - (if w = 9 then 1 else 0)) (h : zS w t g1 g2) : zS w (w :: t) g g2 := by
  have e1 : zl_drop w (w :: t) = zl_drop w t := by show (if w = w then _ else _) = _; rw [if_pos rfl]
  have e2 : zl_cnt w (w :: t) = zl_cnt w t + 1 := by show (if w = w then _ else _) = _; rw [if_pos rfl]
  have c0 := zl_cnt0 w t
  refine ⟨h.I, by rw [e1]; exact h.q, zk_ft F h.fr (fun _ _ e => e), by rw [e2, h.cl, hc]; omega, ?_, ?_, ?_⟩
  · rw [h.op, hop, e2]; split <;> omega
  · intro i hi
    have a1 := h.lo i (by omega)
    have a2 := hl i (by omega)
    exact ⟨a1.1.trans a2.1, a1.2.trans a2.2⟩
  · intro s d hd h9 hn
    rw [e2] at hn ⊢
    have z := zp_emit (e := d + (if w ≤ 1 then 1 else if w = 9 then 0 else -1)) hd hc ho hv hl ⟨by omega, hw.2.1⟩ (fun q => by omega) h9 (fun q1 q2 => by have := hn q2; omega) (fun q => absurd q hw.2.2) rfl
    rw [if_neg (by omega)] at z
    by_cases e9 : w = 9
    · rw [if_pos e9] at z
      have z2 := h.dp s _ z (fun q => by have := h9 q; omega) (fun q => absurd e9 q)
      rw [if_pos e9] at z2 ⊢
      have : d + 0 - 0 = d - 0 := by omega
      rw [← this]
      exact z2
    · rw [if_neg e9] at z
      have hn2 := hn e9
      have z2 := h.dp s _ z (fun q => absurd q e9) (fun _ => by omega)
      rw [if_neg e9] at z2 ⊢
      have : d + -1 - zl_cnt w t = d - (zl_cnt w t + 1) := by omega
      rw [← this]
      exact z2
theorem zql_u {g : zi_M} {a : Nat} : ∀ {P P' : List Int}, zql g a P → zql g a P' → P.length = P'.length → P = P'
  | [], [], _, _, _ => rfl
  | x :: t, y :: t', h, h', e => by
    have e2 : t.length = t'.length := by rw [List.length_cons, List.length_cons] at e; omega
    have hx : x = y := by rw [← h.1, ← h'.1, e2]
    rw [hx, zql_u h.2 h'.2 e2]
  | [], y :: t', _, _, e => by cases e
  | x :: t, [], _, _, e => by cases e
theorem zq_u {g : zi_M} {P P' : List Int} (h : zq g P) (h' : zq g P') : P = P' := zql_u h.2 h'.2 (by have := h.1; have := h'.1; omega)
noncomputable def fr_A (a : Nat) (i : Int) : Prop := a = 229 ∨ a = 230 ∨ a = 231 ∨ (a = 214 ∧ i = 14) ∨ (a = 214 ∧ i = 15) ∨ (a = 214 ∧ i = 16) ∨ (a = 214 ∧ i = 17) ∨ (a = 214 ∧ i = 27) ∨ (a = 214 ∧ i = 28) ∨ (a = 214 ∧ i = 30) ∨ (a = 214 ∧ i = 31) ∨ (a = 214 ∧ i = 32)
theorem fr_PA (a : Nat) (i : Int) (h : fr_P a i) : fr_A a i := h.elim Or.inl (fun h => Or.inr (h.elim Or.inl (fun h => Or.inr (Or.inr (h.elim Or.inl (fun h => Or.inr (h.elim Or.inl (fun h => Or.inr (h.elim Or.inl (fun h => Or.inr (h.elim Or.inl (fun h => Or.inr (h.elim Or.inl (fun h => Or.inr (Or.inr (Or.inr h))))))))))))))))
theorem fr_SA (a : Nat) (i : Int) (h : fr_S a i) : fr_A a i := h.elim Or.inl (fun h => Or.inr (h.elim Or.inl (fun h => Or.inr (Or.inr (Or.inr (Or.inr (Or.inr (Or.inr (h.elim Or.inl (fun h => Or.inr (h.elim Or.inl (fun h => Or.inr (Or.inl h)))))))))))))
theorem fr_WA (a : Nat) (i : Int) (h : a = 231 ∨ (a = 214 ∧ i = 30)) : fr_A a i := h.elim (fun h => Or.inr (Or.inr (Or.inl h))) (fun h => Or.inr (Or.inr (Or.inr (Or.inr (Or.inr (Or.inr (Or.inr (Or.inr (Or.inr (Or.inl h))))))))))
/-- a condition is being read since g0: P waits; e = 0: a comparison is due, e = 1: one has been read -/
noncomputable def zA (br e : Int) (P : List Int) (g0 g : zi_M) : Prop := (zk_I g) ∧ (g 214 14 ≤ g 214 13) ∧ (g 214 15 ≤ g 214 14) ∧ (zt3 g) ∧ (g0 214 15 ≤ g 214 15) ∧ (g0 214 27 ≤ g 214 27) ∧ (g 214 27 + P.length ≤ g 214 15) ∧ (zk_fr fr_A g0 g) ∧ (∀ i : Int, i < 800 + g0 214 27 → g 229 i = g0 229 i ∧ g 230 i = g0 230 i) ∧ (zq g P) ∧ (zl_ok 9 10 11 12 P) ∧ (g 214 28 = zl_of 9 12 P) ∧ (br = zl_of 12 12 P) ∧ (zp g (g0 214 27) (zl_of 10 11 P + e))
theorem zA.I {br e : Int} {P : List Int} {g0 g : zi_M} (h : zA br e P g0 g) : zk_I g := h.1
theorem zA.sp {br e : Int} {P : List Int} {g0 g : zi_M} (h : zA br e P g0 g) : g 214 14 ≤ g 214 13 := h.2.1
theorem zA.fs {br e : Int} {P : List Int} {g0 g : zi_M} (h : zA br e P g0 g) : g 214 15 ≤ g 214 14 := h.2.2.1
theorem zA.t3 {br e : Int} {P : List Int} {g0 g : zi_M} (h : zA br e P g0 g) : zt3 g := h.2.2.2.1
theorem zA.ff {br e : Int} {P : List Int} {g0 g : zi_M} (h : zA br e P g0 g) : g0 214 15 ≤ g 214 15 := h.2.2.2.2.1
theorem zA.cc {br e : Int} {P : List Int} {g0 g : zi_M} (h : zA br e P g0 g) : g0 214 27 ≤ g 214 27 := h.2.2.2.2.2.1
theorem zA.cf {br e : Int} {P : List Int} {g0 g : zi_M} (h : zA br e P g0 g) : g 214 27 + P.length ≤ g 214 15 := h.2.2.2.2.2.2.1
theorem zA.fr {br e : Int} {P : List Int} {g0 g : zi_M} (h : zA br e P g0 g) : zk_fr fr_A g0 g := h.2.2.2.2.2.2.2.1
theorem zA.lo {br e : Int} {P : List Int} {g0 g : zi_M} (h : zA br e P g0 g) : ∀ i : Int, i < 800 + g0 214 27 → g 229 i = g0 229 i ∧ g 230 i = g0 230 i := h.2.2.2.2.2.2.2.2.1
theorem zA.q {br e : Int} {P : List Int} {g0 g : zi_M} (h : zA br e P g0 g) : zq g P := h.2.2.2.2.2.2.2.2.2.1
theorem zA.ok {br e : Int} {P : List Int} {g0 g : zi_M} (h : zA br e P g0 g) : zl_ok 9 10 11 12 P := h.2.2.2.2.2.2.2.2.2.2.1
theorem zA.op {br e : Int} {P : List Int} {g0 g : zi_M} (h : zA br e P g0 g) : g 214 28 = zl_of 9 12 P := h.2.2.2.2.2.2.2.2.2.2.2.1
theorem zA.br {br e : Int} {P : List Int} {g0 g : zi_M} (h : zA br e P g0 g) : br = zl_of 12 12 P := h.2.2.2.2.2.2.2.2.2.2.2.2.1
theorem zA.dp {br e : Int} {P : List Int} {g0 g : zi_M} (h : zA br e P g0 g) : zp g (g0 214 27) (zl_of 10 11 P + e) := h.2.2.2.2.2.2.2.2.2.2.2.2.2
/-- a condition has been read -/
noncomputable def zz (g0 g : zi_M) : Prop := (zk_I g) ∧ (g 214 14 ≤ g 214 13) ∧ (g 214 15 ≤ g 214 14) ∧ (zt3 g) ∧ (g0 214 15 ≤ g 214 15) ∧ (g0 214 27 ≤ g 214 27) ∧ (g 214 27 ≤ g 214 15) ∧ (zk_fr fr_A g0 g) ∧ (∀ i : Int, i < 800 + g0 214 27 → g 229 i = g0 229 i ∧ g 230 i = g0 230 i) ∧ (g 214 28 = 0) ∧ (zp g (g0 214 27) 1)
theorem zz.I {g0 g : zi_M} (h : zz g0 g) : zk_I g := h.1
theorem zz.sp {g0 g : zi_M} (h : zz g0 g) : g 214 14 ≤ g 214 13 := h.2.1
theorem zz.fs {g0 g : zi_M} (h : zz g0 g) : g 214 15 ≤ g 214 14 := h.2.2.1
theorem zz.t3 {g0 g : zi_M} (h : zz g0 g) : zt3 g := h.2.2.2.1
theorem zz.ff {g0 g : zi_M} (h : zz g0 g) : g0 214 15 ≤ g 214 15 := h.2.2.2.2.1
theorem zz.cc {g0 g : zi_M} (h : zz g0 g) : g0 214 27 ≤ g 214 27 := h.2.2.2.2.2.1
theorem zz.cf {g0 g : zi_M} (h : zz g0 g) : g 214 27 ≤ g 214 15 := h.2.2.2.2.2.2.1
theorem zz.fr {g0 g : zi_M} (h : zz g0 g) : zk_fr fr_A g0 g := h.2.2.2.2.2.2.2.1
theorem zz.lo {g0 g : zi_M} (h : zz g0 g) : ∀ i : Int, i < 800 + g0 214 27 → g 229 i = g0 229 i ∧ g 230 i = g0 230 i := h.2.2.2.2.2.2.2.2.1
theorem zz.op {g0 g : zi_M} (h : zz g0 g) : g 214 28 = 0 := h.2.2.2.2.2.2.2.2.2.1
theorem zz.dp {g0 g : zi_M} (h : zz g0 g) : zp g (g0 214 27) 1 := h.2.2.2.2.2.2.2.2.2.2
theorem zA.len {br e : Int} {P : List Int} {g0 g : zi_M} (h : zA br e P g0 g) : (P.length : Int) ≤ 26 := by
  have h1 := zl_len (n := 9) (a := 10) (o := 11) (b := 12) (by decide) (by decide) (by decide) P h.ok
  have h2 : g 214 28 ≤ 8 := (h.I.1 214 28).2
  have h3 := h.op
  split at h1
  · omega
  · split at h1 <;> omega
/-- what is settled: w on top -/
theorem zA.s {br : Int} {P : List Int} {g0 g g' : zi_M} {w : Int} (hw : w = 9 ∨ w = 10 ∨ w = 11) (h : zA br 1 P g0 g) (s : zS w P g g') : zA br 1 (zl_drop w P) g0 g' := by
  have f : ∀ i : Int, ¬ i = 27 → ¬ i = 28 → ¬ i = 30 → g' 214 i = g 214 i := fun i h1 h2 h3 => s.fr _ _ (by unfold fr_S; omega)
  have c0 := zl_cnt0 w P
  have dl := zl_dropl w P
  have o1 := zl_dropof 9 12 w P
  have o2 := zl_dropof 12 12 w P
  have o3 := zl_dropof 10 11 w P
  have hcl := s.cl
  have hop := s.op
  have a1 := h.op; have a2 := h.br; have a3 := h.cf; have a4 := h.cc
  have n0 := zl_of0 10 11 (zl_drop w P)
  have f13 := f 13 (by decide) (by decide) (by decide)
  have f14 := f 14 (by decide) (by decide) (by decide)
  have f15 := f 15 (by decide) (by decide) (by decide)
  have f16 := f 16 (by decide) (by decide) (by decide)
  have f17 := f 17 (by decide) (by decide) (by decide)
  refine ⟨s.I, ?_, ?_, ?_, ?_, ?_, ?_, zk_ft h.fr s.fr fr_SA, ?_, s.q, zl_dropok w P h.ok, ?_, ?_, ?_⟩
  · rw [f14, f13]; exact h.sp
  · rw [f15, f14]; exact h.fs
  · exact zt3_e h.t3 f14 f15 f16 f17
  · rw [f15]; exact h.ff
  · omega
  · rw [f15]; omega
  · intro i hi
    have b1 := h.lo i hi
    have b2 := s.lo i (by omega)
    exact ⟨b2.1.trans b1.1, b2.2.trans b1.2⟩
  · rcases hw with e | e | e
    · rw [e] at hop o1 ⊢
      rw [if_pos rfl] at hop
      rw [if_pos (Or.inl rfl)] at o1
      omega
    · rw [e] at hop o1 ⊢
      rw [if_neg (by decide)] at hop
      rw [if_neg (by decide)] at o1
      omega
    · rw [e] at hop o1 ⊢
      rw [if_neg (by decide)] at hop
      rw [if_neg (by decide)] at o1
      omega
  · rw [if_neg (by omega)] at o2
    omega
  · by_cases e9 : w = 9
    · have z := s.dp _ _ h.dp (fun _ => by have := zl_of0 10 11 P; omega) (fun q => absurd e9 q)
      rw [if_pos e9] at z
      rw [if_neg (by omega)] at o3
      have : zl_of 10 11 P + 1 - 0 = zl_of 10 11 (zl_drop w P) + 1 := by omega
      rw [← this]
      exact z
    · rw [if_pos (by omega)] at o3
      have z := s.dp _ _ h.dp (fun q => absurd q e9) (fun _ => by omega)
      rw [if_neg e9] at z
      have : zl_of 10 11 P + 1 - zl_cnt w P = zl_of 10 11 (zl_drop w P) + 1 := by omega
      rw [← this]
      exact z

/-- a token is read over while a condition is read -/
theorem zA.r {br e : Int} {P : List Int} {g0 g g' : zi_M} (h : zA br e P g0 g) (I : zk_I g') (F : zk_fr fr_R g g') (h1 : g 214 14 ≤ g' 214 15) (h2 : g' 214 14 ≤ g' 214 13) (h3 : g' 214 15 ≤ g' 214 14) (h4 : zt3 g') : zA br e P g0 g' := by
  have f : ∀ (a : Nat) (i : Int), ¬ fr_R a i → g' a i = g a i := F
  have c27 : g' 214 27 = g 214 27 := F _ _ (by unfold fr_R; omega)
  have c28 : g' 214 28 = g 214 28 := F _ _ (by unfold fr_R; omega)
  have c30 : g' 214 30 = g 214 30 := F _ _ (by unfold fr_R; omega)
  have o : ∀ i : Int, g' 229 i = g 229 i ∧ g' 230 i = g 230 i := fun i => ⟨F _ _ (by unfold fr_R; omega), F _ _ (by unfold fr_R; omega)⟩
  have p : ∀ i : Int, g' 231 i = g 231 i := fun i => F _ _ (by unfold fr_R; omega)
  have a1 := h.fs; have a2 := h.ff; have a3 := h.cf; have a4 := h.cc
  refine ⟨I, h2, h3, h4, by omega, by omega, by omega, zk_ft h.fr F (fun a i e => fr_PA a i (fr_RP a i e)), ?_, ⟨by rw [c30]; exact h.q.1, zql_c h.q.2 (fun i _ _ => p i)⟩, h.ok, by rw [c28]; exact h.op, h.br, zp_same h.dp c27 (fun i _ => o i)⟩
  intro i hi
  exact ⟨(o i).1.trans (h.lo i hi).1, (o i).2.trans (h.lo i hi).2⟩
/-- one more waits, its token is read over -/
theorem zA.p {br e br' e' x : Int} {P : List Int} {g0 g g1 g2 : zi_M} (h : zA br e P g0 g) (hx : x = 9 ∨ x = 10 ∨ x = 11 ∨ x = 12) (ok : zl_ok 9 10 11 12 (x :: P)) (I1 : zk_I g1) (F1 : zk_fr fr_A g g1)
    (e30 : g1 214 30 = g 214 30 + 1) (ex : g1 231 (g 214 30) = x) (er : ∀ i : Int, ¬ i = g 214 30 → g1 231 i = g 231 i) (e28 : g1 214 28 = g 214 28 + (if x = 9 ∨ x = 12 then 1 else 0))
    (o : ∀ i : Int, g1 229 i = g 229 i ∧ g1 230 i = g 230 i) (ef : ∀ i : Int, i < 28 → g1 214 i = g 214 i) (hb : br' = br + (if x = 12 then 1 else 0)) (he : e' + (if x = 10 ∨ x = 11 then 1 else 0) = e)
    (lt : g 214 15 < g 214 14) (I2 : zk_I g2) (F2 : zk_fr fr_R g1 g2) (h1 : g1 214 14 ≤ g2 214 15) (h2 : g2 214 14 ≤ g2 214 13) (h3 : g2 214 15 ≤ g2 214 14) (h4 : zt3 g2) : zA br' e' (x :: P) g0 g2 ∧ g 214 15 < g2 214 15 := by
  have f14 := ef 14 (by decide); have f15 := ef 15 (by decide); have f27 := ef 27 (by decide)
  have c27 : g2 214 27 = g 214 27 := by rw [F2 _ _ (by unfold fr_R; omega), f27]
  have c28 : g2 214 28 = g1 214 28 := F2 _ _ (by unfold fr_R; omega)
  have c30 : g2 214 30 = g1 214 30 := F2 _ _ (by unfold fr_R; omega)
  have o2 : ∀ i : Int, g2 229 i = g 229 i ∧ g2 230 i = g 230 i := fun i => ⟨(F2 _ _ (by unfold fr_R; omega)).trans (o i).1, (F2 _ _ (by unfold fr_R; omega)).trans (o i).2⟩
  have p : ∀ i : Int, g2 231 i = g1 231 i := fun i => F2 _ _ (by unfold fr_R; omega)
  have a2 := h.ff; have a3 := h.cf; have a4 := h.cc; have q1 := h.q.1; have a5 := h.op; have a6 := h.br
  have n1 : zl_of 9 12 (x :: P) = zl_of 9 12 P + (if x = 9 ∨ x = 12 then 1 else 0) := rfl
  have n2 : zl_of 12 12 (x :: P) = zl_of 12 12 P + (if x = 12 ∨ x = 12 then 1 else 0) := rfl
  have n3 : zl_of 10 11 (x :: P) = zl_of 10 11 P + (if x = 10 ∨ x = 11 then 1 else 0) := rfl
  have hl : ((x :: P).length : Int) = P.length + 1 := by rw [List.length_cons]; omega
  refine ⟨⟨I2, h2, h3, h4, by omega, by omega, by omega, zk_ft (zk_ft h.fr F1 (fun _ _ e => e)) F2 (fun a i e => fr_PA a i (fr_RP a i e)), ?_, ⟨by rw [c30, e30, q1]; omega, ?_, ?_⟩, ok, by rw [c28, e28, n1, a5], ?_, ?_⟩, by omega⟩
  · intro i hi
    exact ⟨(o2 i).1.trans (h.lo i hi).1, (o2 i).2.trans (h.lo i hi).2⟩
  · rw [p, ← q1]; exact ex
  · exact zql_c h.q.2 (fun i i1 i2 => by rw [p]; exact er i (by omega))
  · rw [n2, hb, a6]
    by_cases e12 : x = 12
    · rw [if_pos e12, if_pos (Or.inl e12)]
    · rw [if_neg e12, if_neg (fun q => e12 (q.elim id id))]
  · have z := zp_same h.dp c27 (fun i _ => o2 i)
    rw [n3, ← he] at *
    have : zl_of 10 11 P + (if x = 10 ∨ x = 11 then 1 else 0) + e' = zl_of 10 11 P + (e' + (if x = 10 ∨ x = 11 then 1 else 0)) := by omega
    rw [this]
    exact z
/-- a comparison has been read -/
theorem zA.c {br : Int} {P : List Int} {g0 g g' : zi_M} (h : zA br 0 P g0 g) (x : zx 1 0 g g') : zA br 1 P g0 g' := by
  have c28 : g' 214 28 = g 214 28 := x.fr _ _ (by unfold fr_P; omega)
  have c30 : g' 214 30 = g 214 30 := x.fr _ _ (by unfold fr_P; omega)
  have p : ∀ i : Int, g' 231 i = g 231 i := fun i => x.fr _ _ (by unfold fr_P; omega)
  have a1 := x.ff; have a2 := h.ff; have a3 := h.cf; have a4 := h.cc; have a5 := x.cc; have a6 := x.cf
  refine ⟨x.I, x.sp, x.fs, x.t3, by omega, by omega, by omega, zk_ft h.fr x.fr fr_PA, ?_, ⟨by rw [c30]; exact h.q.1, zql_c h.q.2 (fun i _ _ => p i)⟩, h.ok, by rw [c28]; exact h.op, h.br, ?_⟩
  · intro i hi
    have b1 := h.lo i hi
    have b2 := x.lo i (by omega)
    exact ⟨b2.1.trans b1.1, b2.2.trans b1.2⟩
  · have z := x.dp _ _ h.dp
    rw [Int.add_zero] at z
    exact z
/-- a bracket is closed -/
theorem zA.b {br : Int} {t : List Int} {g0 g g1 g2 : zi_M} (h : zA br 1 (12 :: t) g0 g) (e1 : g1 = zi_u g 214 30 ((g 214 30) - 1)) (e2 : g2 = zi_u g1 214 28 ((g1 214 28) - 1)) : zA (br - 1) 1 t g0 g2 := by
  have n1 : zl_of 9 12 (12 :: t) = zl_of 9 12 t + 1 := rfl
  have n2 : zl_of 12 12 (12 :: t) = zl_of 12 12 t + 1 := rfl
  have n3 : zl_of 10 11 (12 :: t) = zl_of 10 11 t + 0 := rfl
  have z1 := zl_of0 9 12 t
  have q1 := h.q.1
  have hl : ((12 :: t : List Int).length : Int) = t.length + 1 := by rw [List.length_cons]; omega
  have a3 := h.cf; have a5 := h.op; have a6 := h.br
  have r8 : g 214 28 ≤ 8 := (h.I.1 214 28).2
  have r40 : g 214 30 ≤ 40 := (h.I.1 214 30).2
  have b28 : g1 214 28 = g 214 28 := by rw [e1]; exact zi_u_ni (by decide)
  have I1 : zk_I g1 := by rw [e1]; exact zk_upd (L := 0) (H := 40) rfl rfl h.I ⟨by omega, by omega⟩
  have I2 : zk_I g2 := by rw [e2]; exact zk_upd (L := 0) (H := 8) rfl rfl I1 ⟨by omega, by omega⟩
  have f : ∀ i : Int, ¬ i = 28 → ¬ i = 30 → g2 214 i = g 214 i := fun i h1 h2 => by rw [e2, zi_u_ni h1, e1, zi_u_ni h2]
  have fa : ∀ (a : Nat) (i : Int), a ≠ 214 → g2 a i = g a i := fun a i ha => by rw [e2, zi_u_ne ha, e1, zi_u_ne ha]
  have c28 : g2 214 28 = g 214 28 - 1 := by rw [e2, zi_u_eq, b28]
  have c30 : g2 214 30 = g 214 30 - 1 := by rw [e2, zi_u_ni (by decide), e1, zi_u_eq]
  have f13 := f 13 (by decide) (by decide)
  have f14 := f 14 (by decide) (by decide)
  have f15 := f 15 (by decide) (by decide)
  have f16 := f 16 (by decide) (by decide)
  have f17 := f 17 (by decide) (by decide)
  have f27 := f 27 (by decide) (by decide)
  refine ⟨I2, ?_, ?_, zt3_e h.t3 f14 f15 f16 f17, ?_, ?_, ?_, ?_, ?_, ⟨by rw [c30]; omega, zql_c h.q.2.2 (fun i _ _ => fa _ _ (by decide))⟩, h.ok.1, by rw [c28]; omega, by omega, ?_⟩
  · rw [f14, f13]; exact h.sp
  · rw [f15, f14]; exact h.fs
  · rw [f15]; exact h.ff
  · rw [f27]; exact h.cc
  · rw [f27, f15]; omega
  · rw [e2, e1]
    exact zk_fu (zk_fu h.fr (fr_WA _ _ (Or.inr ⟨rfl, rfl⟩))) (fr_SA _ _ (Or.inr (Or.inr (Or.inr (Or.inl ⟨rfl, rfl⟩)))))
  · intro i hi
    exact ⟨(fa _ _ (by decide)).trans (h.lo i hi).1, (fa _ _ (by decide)).trans (h.lo i hi).2⟩
  · have z := zp_same h.dp f27 (fun i _ => ⟨fa 229 i (by decide), fa 230 i (by decide)⟩)
    rw [n3, Int.add_zero] at z
    exact z
/-- behind and and or nothing but a bracket -/
theorem zA.top {br : Int} {P : List Int} {g0 g : zi_M} (h : zA br 1 P g0 g) (ht : zl_top P ≠ 9) : zl_top (zl_drop 11 (zl_drop 10 P)) ≠ 9 ∧ zl_top (zl_drop 11 (zl_drop 10 P)) ≠ 10 ∧ zl_top (zl_drop 11 (zl_drop 10 P)) ≠ 11 := by
  have k1 := zl_dropok 10 P h.ok
  have k2 := zl_dropn (n := 9) (a := 10) (o := 11) (b := 12) 10 (by decide) (by decide) (Or.inl rfl) (by decide) (by decide) P h.ok ht
  have k3 := zl_dropt 10 (by decide) P
  exact ⟨zl_dropn (n := 9) (a := 10) (o := 11) (b := 12) 11 (by decide) (by decide) (Or.inr rfl) (by decide) (by decide) _ k1 k2, zl_drop2 (n := 9) (a := 10) (o := 11) (b := 12) (by decide) (by decide) (by decide) (by decide) _ k1 k3, zl_dropt 11 (by decide) _⟩

/-- the lines of a law that is read -/
noncomputable def zLd (g : zi_M) (n : Int) : Prop := ∀ l : Int, 0 ≤ l → l < n → (0 ≤ g 226 (32 + l) ∧ g 226 (32 + l) < g 227 (32 + l) ∧ g 227 (32 + l) ≤ g 228 (32 + l) ∧ g 228 (32 + l) ≤ g 214 27) ∧
  zj_seg (zp_o g) (zp_a g) (g 226 (32 + l)) (g 227 (32 + l) - g 226 (32 + l)).toNat ∧ zj_seg (zp_o g) (zp_a g) (g 227 (32 + l)) (g 228 (32 + l) - g 227 (32 + l)).toNat
theorem zLd_0 (g : zi_M) : zLd g 0 := fun l h1 h2 => by omega
theorem zLd_c {g g' : zi_M} {n : Int} (h : zLd g n) (ha : ∀ l : Int, l < n → g' 226 (32 + l) = g 226 (32 + l) ∧ g' 227 (32 + l) = g 227 (32 + l) ∧ g' 228 (32 + l) = g 228 (32 + l)) (hc : g 214 27 ≤ g' 214 27)
    (ho : ∀ i : Int, i < 800 + g 214 27 → g' 229 i = g 229 i ∧ g' 230 i = g 230 i) : zLd g' n := by
  intro l h1 h2
  obtain ⟨⟨b1, b2, b3, b4⟩, s1, s2⟩ := h l h1 h2
  obtain ⟨e1, e2, e3⟩ := ha l h2
  rw [e1, e2, e3]
  refine ⟨⟨b1, b2, b3, by omega⟩, ?_, ?_⟩
  · exact zj_segc s1 (fun k k1 k2 => (ho (800 + k) (by omega)).1) (fun k k1 k2 => (ho (800 + k) (by omega)).2)
  · exact zj_segc s2 (fun k k1 k2 => (ho (800 + k) (by omega)).1) (fun k k1 k2 => (ho (800 + k) (by omega)).2)
theorem zLd_s {g : zi_M} {n a b c : Int} (h : zLd g n) (e1 : g 226 (32 + n) = a) (e2 : g 227 (32 + n) = b) (e3 : g 228 (32 + n) = c) (h1 : 0 ≤ a ∧ a < b ∧ b ≤ c ∧ c ≤ g 214 27)
    (s1 : zj_seg (zp_o g) (zp_a g) a (b - a).toNat) (s2 : zj_seg (zp_o g) (zp_a g) b (c - b).toNat) : zLd g (n + 1) := by
  intro l l1 l2
  by_cases e : l = n
  · rw [e, e1, e2, e3]; exact ⟨h1, s1, s2⟩
  · exact h l l1 (by omega)
noncomputable def fr_L (a : Nat) (i : Int) : Prop := a = 225 ∨ a = 226 ∨ a = 227 ∨ a = 228 ∨ a = 229 ∨ a = 230 ∨ a = 231 ∨ (a = 214 ∧ i = 14) ∨ (a = 214 ∧ i = 15) ∨ (a = 214 ∧ i = 16) ∨ (a = 214 ∧ i = 17) ∨ (a = 214 ∧ i = 27) ∨ (a = 214 ∧ i = 28) ∨ (a = 214 ∧ i = 30) ∨ (a = 214 ∧ i = 31) ∨ (a = 214 ∧ i = 32)
theorem fr_AL (a : Nat) (i : Int) (h : fr_A a i) : fr_L a i := Or.inr (Or.inr (Or.inr (Or.inr h)))
theorem fr_PL (a : Nat) (i : Int) (h : fr_P a i) : fr_L a i := fr_AL a i (fr_PA a i h)
theorem fr_RL (a : Nat) (i : Int) (h : fr_R a i) : fr_L a i := fr_PL a i (fr_RP a i h)
noncomputable def zL (n : Int) (g0 g : zi_M) : Prop := (zy g) ∧ (g 214 28 = 0) ∧ (zk_fr fr_L g0 g) ∧ (zLd g n)
theorem zL.y {n : Int} {g0 g : zi_M} (h : zL n g0 g) : zy g := h.1
theorem zL.op {n : Int} {g0 g : zi_M} (h : zL n g0 g) : g 214 28 = 0 := h.2.1
theorem zL.fr {n : Int} {g0 g : zi_M} (h : zL n g0 g) : zk_fr fr_L g0 g := h.2.2.1
theorem zL.ls {n : Int} {g0 g : zi_M} (h : zL n g0 g) : zLd g n := h.2.2.2

theorem zd_u {g g' : zi_M} {i v n : Int} (e : g' = zi_u g 214 i v) (h : zd g n) : zd g' n := by
  intro k k1 k2
  rw [e, zi_u_ne (by decide), zi_u_ne (by decide), zi_u_ne (by decide)]
  exact h k k1 k2
theorem zLd_u {g g' : zi_M} {i v n : Int} (e : g' = zi_u g 214 i v) (hi : ¬ 27 = i) (h : zLd g n) : zLd g' n :=
  zLd_c h (fun l _ => ⟨by rw [e, zi_u_ne (by decide)], by rw [e, zi_u_ne (by decide)], by rw [e, zi_u_ne (by decide)]⟩) (by rw [e, zi_u_ni hi]; exact Int.le_refl _) (fun k _ => ⟨by rw [e, zi_u_ne (by decide)], by rw [e, zi_u_ne (by decide)]⟩)
/-- the first n of a row have been copied from behind off -/
noncomputable def zR (a : Nat) (off n : Int) (g0 g : zi_M) : Prop := ∀ i : Int, g a i = if 0 ≤ i ∧ i < n then g0 a (off + i) else g0 a i
theorem zR_0 (a : Nat) (off : Int) (g : zi_M) : zR a off 0 g g := fun i => by rw [if_neg (by omega)]
theorem zR_s {a : Nat} {off n : Int} {g0 g g' : zi_M} (h : zR a off n g0 g) (h0 : 0 ≤ n) (h1 : n ≤ off) (e : g' = zi_u g a n (g a (off + n))) : zR a off (n + 1) g0 g' := by
  intro i
  rw [e]
  by_cases hi : i = n
  · rw [hi, zi_u_eq, h, if_neg (by omega), if_pos (by omega)]
  · rw [zi_u_ni hi, h]
    by_cases hc : 0 ≤ i ∧ i < n
    · rw [if_pos hc, if_pos (by omega)]
    · rw [if_neg hc, if_neg (by omega)]
theorem zR_n {a b : Nat} {off n j v : Int} {g0 g g' : zi_M} (h : zR a off n g0 g) (hb : a ≠ b) (e : g' = zi_u g b j v) : zR a off n g0 g' := fun i => by rw [e, zi_u_ne hb]; exact h i
theorem zR_p {a : Nat} {off n : Int} {g0 g : zi_M} (h : zR a off n g0 g) {i : Int} (h0 : 0 ≤ i) (h1 : i < n) : g a i = g0 a (off + i) := by rw [h, if_pos ⟨h0, h1⟩]
theorem zR_o {a : Nat} {off n : Int} {g0 g : zi_M} (h : zR a off n g0 g) {i : Int} (h1 : n ≤ i) : g a i = g0 a i := by rw [h, if_neg (by omega)]

-- WHAT WAITS while the class reads a condition: bracket 0, or 4, and 5, not 6
noncomputable def zB (P : List Int) (g : zi_M) : Prop := (g 212 1 = (P.length : Int)) ∧ (zql g 213 P) ∧ (zl_ok 6 5 4 0 P) ∧ (g 212 2 = zl_of 6 0 P) ∧ (g 212 3 = zl_of 0 0 P)
theorem zB.q1 {P : List Int} {g : zi_M} (h : zB P g) : g 212 1 = (P.length : Int) := h.1
theorem zB.ql {P : List Int} {g : zi_M} (h : zB P g) : zql g 213 P := h.2.1
theorem zB.ok {P : List Int} {g : zi_M} (h : zB P g) : zl_ok 6 5 4 0 P := h.2.2.1
theorem zB.op {P : List Int} {g : zi_M} (h : zB P g) : g 212 2 = zl_of 6 0 P := h.2.2.2.1
theorem zB.pr {P : List Int} {g : zi_M} (h : zB P g) : g 212 3 = zl_of 0 0 P := h.2.2.2.2
theorem zB.c {P : List Int} {g g' : zi_M} (h : zB P g) (e1 : g' 212 1 = g 212 1) (e2 : g' 212 2 = g 212 2) (e3 : g' 212 3 = g 212 3) (e : ∀ i, g' 213 i = g 213 i) : zB P g' :=
  ⟨by rw [e1]; exact h.q1, zql_c h.ql (fun i _ _ => e i), h.ok, by rw [e2]; exact h.op, by rw [e3]; exact h.pr⟩
theorem zB.len {P : List Int} {g : zi_M} (h : zB P g) (I : zk_I g) : (P.length : Int) ≤ 26 := by
  have h1 := zl_len (n := 6) (a := 5) (o := 4) (b := 0) (by decide) (by decide) (by decide) P h.ok
  have h2 : g 212 2 ≤ 8 := (I.1 212 2).2
  have h3 := h.op
  split at h1
  · omega
  · split at h1 <;> omega
theorem zB.n {t : List Int} {g g1 g2 : zi_M} (h : zB (6 :: t) g) (e1 : g1 = zi_u g 212 1 ((g 212 1) - 1)) (e2 : g2 = zi_u g1 212 2 ((g1 212 2) - 1)) : zB t g2 := by
  have q := h.q1
  rw [List.length_cons] at q
  have o : g 212 2 = zl_of 6 0 t + 1 := h.op
  have p : g 212 3 = zl_of 0 0 t + 0 := h.pr
  refine ⟨by rw [e2, zi_u_ni (by decide), e1, zi_u_eq]; omega, zql_c h.ql.2 (fun i _ _ => by rw [e2, zi_u_ne (by decide), e1, zi_u_ne (by decide)]), h.ok.1, ?_, ?_⟩
  · rw [e2, zi_u_eq, e1, zi_u_ni (by decide)]; omega
  · rw [e2, zi_u_ni (by decide), e1, zi_u_ni (by decide)]; omega
theorem zB.b {x : Int} {t : List Int} {g g1 : zi_M} (hx : x = 4 ∨ x = 5) (h : zB (x :: t) g) (e1 : g1 = zi_u g 212 1 ((g 212 1) - 1)) : zB t g1 := by
  have q := h.q1
  rw [List.length_cons] at q
  have o : g 212 2 = zl_of 6 0 t + (if x = 6 ∨ x = 0 then 1 else 0) := h.op
  have p : g 212 3 = zl_of 0 0 t + (if x = 0 ∨ x = 0 then 1 else 0) := h.pr
  rw [if_neg (by omega)] at o p
  refine ⟨by rw [e1, zi_u_eq]; omega, zql_c h.ql.2 (fun i _ _ => by rw [e1, zi_u_ne (by decide)]), h.ok.1, ?_, ?_⟩
  · rw [e1, zi_u_ni (by decide)]; omega
  · rw [e1, zi_u_ni (by decide)]; omega
theorem zB.p {t : List Int} {g g1 g2 g3 : zi_M} (h : zB (0 :: t) g) (e1 : g1 = zi_u g 212 1 ((g 212 1) - 1)) (e2 : g2 = zi_u g1 212 3 ((g1 212 3) - 1)) (e3 : g3 = zi_u g2 212 2 ((g2 212 2) - 1)) : zB t g3 := by
  have q := h.q1
  rw [List.length_cons] at q
  have o : g 212 2 = zl_of 6 0 t + 1 := h.op
  have p : g 212 3 = zl_of 0 0 t + 1 := h.pr
  refine ⟨by rw [e3, zi_u_ni (by decide), e2, zi_u_ni (by decide), e1, zi_u_eq]; omega, zql_c h.ql.2 (fun i _ _ => by rw [e3, zi_u_ne (by decide), e2, zi_u_ne (by decide), e1, zi_u_ne (by decide)]), h.ok.1, ?_, ?_⟩
  · rw [e3, zi_u_eq, e2, zi_u_ni (by decide), e1, zi_u_ni (by decide)]; omega
  · rw [e3, zi_u_ni (by decide), e2, zi_u_eq, e1, zi_u_ni (by decide)]; omega
theorem zB.u {x : Int} {P : List Int} {g g' : zi_M} (h : zB P g) (ok : zl_ok 6 5 4 0 (x :: P)) (e1 : g' 212 1 = g 212 1 + 1) (ex : g' 213 (g 212 1) = x) (er : ∀ i : Int, ¬ i = g 212 1 → g' 213 i = g 213 i)
    (e2 : g' 212 2 = g 212 2 + (if x = 6 ∨ x = 0 then 1 else 0)) (e3 : g' 212 3 = g 212 3 + (if x = 0 ∨ x = 0 then 1 else 0)) : zB (x :: P) g' := by
  have q := h.q1
  refine ⟨by rw [e1, List.length_cons]; omega, ⟨by rw [← q]; exact ex, zql_c h.ql (fun i i1 i2 => er i (by omega))⟩, ok, ?_, ?_⟩
  · rw [e2, h.op]; rfl
  · rw [e3, h.pr]; rfl

-- ROWS OF MASONS
noncomputable def zrow (r : Int) : Prop := (0 ≤ r ∧ r ≤ 9999) ∧ zj_row (r / 1000) (r / 100 % 10) (r / 10 % 10) (r % 10)
theorem zi_td10 (a : Int) : (0 ≤ a → Int.tdiv a 10 = a / 10 ∧ Int.tmod a 10 = a % 10) ∧ (a < 0 → Int.tdiv a 10 = -((-a) / 10) ∧ Int.tmod a 10 = -((-a) % 10)) := by
  refine ⟨fun h => ⟨Int.tdiv_eq_ediv_of_nonneg h, Int.tmod_eq_emod_of_nonneg h⟩, fun h => ?_⟩
  have e : a = -(-a) := by omega
  have h1 : Int.tdiv (-(-a)) 10 = -((-a) / 10) := by rw [Int.neg_tdiv, Int.tdiv_eq_ediv_of_nonneg (by omega)]
  have h2 : Int.tmod (-(-a)) 10 = -((-a) % 10) := by rw [Int.neg_tmod, Int.tmod_eq_emod_of_nonneg (by omega)]
  rw [← e] at h1 h2
  exact ⟨h1, h2⟩
noncomputable def zbits (a b c d : Int) : Int := zi_or (zi_or (zi_or (zi_or 0 (zi_shl 1 a)) (zi_shl 1 b)) (zi_shl 1 c)) (zi_shl 1 d)
theorem zbits_n : ∀ a b c d : Fin 4, (zbits (a.val : Nat) (b.val : Nat) (c.val : Nat) (d.val : Nat) = 15 ↔ a.val ≠ b.val ∧ a.val ≠ c.val ∧ a.val ≠ d.val ∧ b.val ≠ c.val ∧ b.val ≠ d.val ∧ c.val ≠ d.val) := by decide +kernel
theorem zbits_m : ∀ a : Fin 4, ∀ b c d : Fin 10, zbits (a.val : Nat) (b.val : Nat) (c.val : Nat) (d.val : Nat) = 15 → b.val < 4 ∧ c.val < 4 ∧ d.val < 4 := by decide +kernel
theorem zbits_i {a b c d : Int} (ha : 0 ≤ a ∧ a ≤ 3) (hb : 0 ≤ b ∧ b ≤ 3) (hc : 0 ≤ c ∧ c ≤ 3) (hd : 0 ≤ d ∧ d ≤ 3) : zbits a b c d = 15 ↔ a ≠ b ∧ a ≠ c ∧ a ≠ d ∧ b ≠ c ∧ b ≠ d ∧ c ≠ d := by
  have h := zbits_n ⟨a.toNat, by omega⟩ ⟨b.toNat, by omega⟩ ⟨c.toNat, by omega⟩ ⟨d.toNat, by omega⟩
  simp only at h
  rw [show ((a.toNat : Nat) : Int) = a by omega, show ((b.toNat : Nat) : Int) = b by omega, show ((c.toNat : Nat) : Int) = c by omega, show ((d.toNat : Nat) : Int) = d by omega] at h
  rw [h]
  constructor <;> intro q <;> refine ⟨?_, ?_, ?_, ?_, ?_, ?_⟩ <;> omega
theorem zbits_j {a b c d : Int} (ha : 0 ≤ a ∧ a ≤ 3) (hb : 0 ≤ b ∧ b ≤ 9) (hc : 0 ≤ c ∧ c ≤ 9) (hd : 0 ≤ d ∧ d ≤ 9) (h : zbits a b c d = 15) : b ≤ 3 ∧ c ≤ 3 ∧ d ≤ 3 := by
  have h1 := zbits_m ⟨a.toNat, by omega⟩ ⟨b.toNat, by omega⟩ ⟨c.toNat, by omega⟩ ⟨d.toNat, by omega⟩
  simp only at h1
  rw [show ((a.toNat : Nat) : Int) = a by omega, show ((b.toNat : Nat) : Int) = b by omega, show ((c.toNat : Nat) : Int) = c by omega, show ((d.toNat : Nat) : Int) = d by omega] at h1
  have := h1 h
  omega
theorem zi_or_r (a b : Int) : zi_r (zi_or a b) := zi_r_or a b
theorem zrow_le {r : Int} (h : zrow r) : r ≤ 3210 := by
  obtain ⟨hb, hz⟩ := h
  unfold zj_row at hz
  have e : r = 1000 * (r / 1000) + 100 * (r / 100 % 10) + 10 * (r / 10 % 10) + r % 10 := by omega
  generalize r / 1000 = a at *
  generalize r / 100 % 10 = b at *
  generalize r / 10 % 10 = c at *
  generalize r % 10 = d at *
  have h1 : a ≤ 3 := hz.1.2
  have h2 : a = 3 → b ≤ 2 := by omega
  have h3 : a = 3 → b = 2 → c ≤ 1 := by omega
  have h4 : a = 3 → b = 2 → c = 1 → d = 0 := by omega
  omega
theorem zi_tdv (a : Int) : ∃ q d, Int.tdiv a 10 = q ∧ Int.tmod a 10 = d ∧ a = 10 * q + d ∧ (0 ≤ a → 0 ≤ d ∧ d ≤ 9 ∧ 0 ≤ q) ∧ (a < 0 → -9 ≤ d ∧ d ≤ 0 ∧ q ≤ 0) := by
  have h := zi_td10 a
  refine ⟨_, _, rfl, rfl, ?_, ?_, ?_⟩ <;> omega

