-- CLASS AND REFERENCE over the days: what is alike in both
noncomputable def zXp (g : zi_M) : Prop := g 19 10 = g 214 39 ∧ ∀ m : Int, 0 ≤ m → m < g 19 10 → g 32 m = g 234 (4 * m) ∧ g 33 m = g 234 (4 * m + 1) ∧ g 34 m = g 234 (4 * m + 2) ∧ g 35 m = g 234 (4 * m + 3)
noncomputable def zXpk (g : zi_M) : Prop := g 64 10 = g 250 268 ∧ ∀ m : Int, 0 ≤ m → m < g 64 10 → g 77 m = g 250 (475 + 4 * m) ∧ g 78 m = g 250 (475 + (4 * m + 1)) ∧ g 79 m = g 250 (475 + (4 * m + 2)) ∧ g 80 m = g 250 (475 + (4 * m + 3))
noncomputable def zPl (g : zi_M) : Prop := ∀ n : Int, 0 ≤ n → n < g 214 39 → zPa (g 214 6) (g 214 7) (g 234 (4 * n + 1)) (g 234 (4 * n + 2)) (g 234 (4 * n + 3))
noncomputable def zPlk (g : zi_M) : Prop := ∀ n : Int, 0 ≤ n → n < g 250 268 → zPa (g 250 264) (g 250 265) (g 250 (475 + (4 * n + 1))) (g 250 (475 + (4 * n + 2))) (g 250 (475 + (4 * n + 3)))
noncomputable def zGk (g : zi_M) : Prop := ∀ i : Int, 0 ≤ i → i ≤ 9 → g 74 i < g 47 8
noncomputable def zBk (g : zi_M) : Prop := zXpk g ∧ zPlk g ∧ zGk g ∧ ∀ k : Int, zC0 k → zRw (g 47 11) k → zVC (g 47 11) 47 g k = g 250 k
noncomputable def zBT (g : zi_M) : Prop := zXp g ∧ zPl g ∧ zGv 2 g ∧ (g 0 2 = 1 → zBk g)
noncomputable def zBrg (g : zi_M) : Prop := g 91 1 = g 214 3 ∧ ∀ e k : Int, 0 ≤ e → e < g 91 1 → zRw (g 2 11) k → zC0 k → zRV (g 2 11) g e k = zRW g e k
noncomputable def zBD (g : zi_M) : Prop := zEq (zVC (g 2 11) 2 g) (zVM (g 214 7) g) ∧ zBrg g ∧ zBT g
theorem zP_hx {S S' x : Int} (s : S' = S ∨ (0 ≤ S ∧ S ≤ S')) (b : S = -1 ∨ (0 ≤ x ∧ x < S)) : S' = -1 ∨ (0 ≤ x ∧ x < S') := by omega
theorem zP_hw {S S' x : Int} (s : S' = S ∨ (0 ≤ S ∧ S ≤ S')) (b : x < S) : x < S' := by omega
theorem zPa_m {S T S' T' d w x : Int} (h : zPa S T d w x) (s : S' = S ∨ (0 ≤ S ∧ S ≤ S')) (t : T ≤ T') : zPa S' T' d w x := by
  obtain ⟨⟨a0, a1⟩, b⟩ := h
  have c := zCw_f S T d; have c' := zCw_f S' T' d; have e := zCt_f S d; have e' := zCt_f S' d
  obtain ⟨c0, c1, c6, c2, c7, c3, c8⟩ := c
  obtain ⟨d0, d1, d6, d2, d7, d3, d8⟩ := c'
  obtain ⟨e0, e2, e6, e9⟩ := e
  obtain ⟨f0, f2, f6, f9⟩ := e'
  have n9 : ∀ k : Int, d = k → ¬ k = 0 → ¬ k = 2 → ¬ k = 6 → zCt S' d = -1 := fun k e h0 h2 h6 => f9 (fun q => h0 (e.symm.trans q)) (fun q => h2 (e.symm.trans q)) (fun q => h6 (e.symm.trans q))
  unfold zPa
  by_cases k0 : d = 0
  · rw [c0 k0] at a1; rw [e0 k0] at b; rw [d0 k0, f0 k0]
    exact ⟨⟨a0, Int.lt_of_lt_of_le a1 t⟩, zP_hx s b⟩
  by_cases k1 : d = 1
  · rw [c1 k1] at a1; rw [d1 k1, n9 1 k1 (by decide) (by decide) (by decide)]
    exact ⟨⟨a0, Int.lt_of_lt_of_le a1 t⟩, Or.inl rfl⟩
  by_cases k2 : d = 2
  · rw [c2 k2] at a1; rw [e2 k2] at b; rw [d2 k2, f2 k2]
    exact ⟨⟨a0, a1⟩, zP_hx s b⟩
  by_cases k6 : d = 6
  · rw [c6 k6] at a1; rw [e6 k6] at b; rw [d6 k6, f6 k6]
    exact ⟨⟨a0, Int.lt_of_lt_of_le a1 t⟩, b⟩
  by_cases k7 : d = 7
  · rw [c7 k7] at a1; rw [d7 k7, n9 7 k7 (by decide) (by decide) (by decide)]
    exact ⟨⟨a0, a1⟩, Or.inl rfl⟩
  by_cases k3 : 3 ≤ d ∧ d ≤ 5
  · rw [c3 k3] at a1; rw [d3 k3, f9 k0 k2 k6]
    exact ⟨⟨a0, zP_hw s a1⟩, Or.inl rfl⟩
  · rw [c8 (by clear c0 c1 c6 c2 c7 c3 c8 d0 d1 d6 d2 d7 d3 d8 e0 e2 e6 e9 f0 f2 f6 f9 n9 a1 b; omega)] at a1
    exact absurd a1 (Int.not_lt.2 a0)
theorem zVC_s {T : Int} {r : Nat} {g g' : zi_M} (e17 : g' r 17 = g r 17) (e14 : g' r 14 = g r 14) (e8 : ∀ i : Int, g' (r + 8) i = g (r + 8) i) (e9 : ∀ i : Int, g' (r + 9) i = g (r + 9) i) {k : Int} (h : zC0 k) : zVC T r g' k = zVC T r g k := by
  unfold zVC
  by_cases d : zdm T k
  · rw [zite_p d, zite_p d]
    unfold zC0 at h
    by_cases c0 : k = 0
    · rw [c0, (zca_at (r := r)).1 0 (by decide) (by decide), show zci 0 = 17 by decide, e17]
    · by_cases c3 : k = 3
      · rw [c3, (zca_at (r := r)).1 3 (by decide) (by decide), show zci 3 = 14 by decide, e14]
      · by_cases c4 : k < 244
        · rw [(zca_at (r := r)).2.2.2.2.2.1 k (by omega) c4, e8]
        · rw [(zca_at (r := r)).2.2.2.2.2.2.1 k (by omega) (by omega), e9]
  · rw [zite_n d, zite_n d]
theorem zVM_s {T : Int} {g g' : zi_M} {k : Int} (h : zC0 k) (e : g' 215 k = g 215 k) : zVM T g' k = zVM T g k := by
  by_cases d : zdm T k
  · have b : 0 ≤ k ∧ k < 264 := by unfold zC0 at h; omega
    have m : ¬ (244 ≤ k ∧ 244 + T ≤ k ∧ k < 252) := by unfold zdm at d; omega
    rw [zVM_r b m, zVM_r b m, e]
  · unfold zVM
    rw [zite_n d, zite_n d]
/-- where the row says nothing -/
theorem zV_no {T k : Int} (h : zC0 k) (n : ¬ zRw T k) : ¬ zdm T k := fun d => by
  unfold zC0 at h
  unfold zRw at n
  unfold zdm at d
  omega
theorem zVC_no {T k : Int} {r : Nat} {g : zi_M} (n : ¬ zdm T k) : zVC T r g k = 0 := zite_n n
theorem zVM_no {T k : Int} {g : zi_M} (n : ¬ zdm T k) : zVM T g k = 0 := zite_n n
theorem zVM_rw {T k : Int} {g : zi_M} (n : zRw T k) : zVM T g k = g 215 k := zVM_r ⟨n.1, n.2.1⟩ n.2.2
theorem zRV_n {T : Int} {g g' : zi_M} (e : ∀ (a : Nat) (i : Int), (91 ≤ a ∧ a ≤ 164) → g' a i = g a i) {x k : Int} (h : zRw T k) : zRV T g' x k = zRV T g x k := by
  show zVC T (zSlt g' x) g' k = zVC T (zSlt g x) g k
  have es : zSlt g' x = zSlt g x := by unfold zSlt; rw [e 91 2 (by omega), e 91 1 (by omega)]
  have hs : 93 ≤ zSlt g x ∧ zSlt g x ≤ 153 := by unfold zSlt; omega
  rw [es]
  exact zVC_wc (zWs_c (fun a i q => e a i (by omega))) h
noncomputable def zFt (a : Nat) (i : Int) : Prop := (a = 0 ∧ i = 2) ∨ (a = 19 ∧ i = 10) ∨ a = 29 ∨ (32 ≤ a ∧ a ≤ 35) ∨ (47 ≤ a ∧ a ≤ 58) ∨ (a = 64 ∧ i = 10) ∨ a = 74 ∨ (77 ≤ a ∧ a ≤ 80) ∨ (a = 214 ∧ i = 39) ∨ a = 234 ∨ a = 250
noncomputable def zFc (a : Nat) (i : Int) : Prop := (a = 2 ∧ (i = 8 ∨ i = 11 ∨ i = 14 ∨ i = 17)) ∨ a = 10 ∨ a = 11 ∨ (91 ≤ a ∧ a ≤ 164) ∨ (a = 214 ∧ (i = 3 ∨ i = 6 ∨ i = 7)) ∨ (a = 215 ∧ 0 ≤ i ∧ i < 264) ∨ a = 216
theorem zBk_n {g g2 : zi_M} (R : zBk g) (e : ∀ (a : Nat) (i : Int), (47 ≤ a ∧ a ≤ 58) ∨ (a = 64 ∧ i = 10) ∨ a = 74 ∨ (77 ≤ a ∧ a ≤ 80) ∨ a = 250 → g2 a i = g a i) : zBk g2 := by
  obtain ⟨r1, r2, r3, r4⟩ := R
  have e250 : ∀ i : Int, g2 250 i = g 250 i := fun i => e 250 i (by omega)
  refine ⟨⟨by rw [e 64 10 (by omega), e250]; exact r1.1, fun m m0 m1 => ?_⟩, fun n n0 n1 => ?_, fun i i0 i1 => ?_, fun k k0 k1 => ?_⟩
  · rw [e 64 10 (by omega)] at m1
    rw [e 77 m (by omega), e 78 m (by omega), e 79 m (by omega), e 80 m (by omega), e250, e250, e250, e250]
    exact r1.2 m m0 m1
  · rw [e250] at n1
    rw [e250, e250, e250, e250, e250]
    exact r2 n n0 n1
  · rw [e 74 i (by omega), e 47 8 (by omega)]
    exact r3 i i0 i1
  · rw [e 47 11 (by omega)] at k1 ⊢
    rw [zVC_s (g := g) (e 47 17 (by omega)) (e 47 14 (by omega)) (fun i => e 55 i (by omega)) (fun i => e 56 i (by omega)) k0, e250]
    exact r4 k k0 k1
theorem zBT_g {g g2 : zi_M} (R : zBT g) (e : ∀ (a : Nat) (i : Int), zFt a i → g2 a i = g a i) (s8 : g 2 8 ≤ g2 2 8) (s6 : g2 214 6 = g 214 6 ∨ (0 ≤ g 214 6 ∧ g 214 6 ≤ g2 214 6)) (s7 : g 214 7 ≤ g2 214 7) : zBT g2 := by
  obtain ⟨r1, r2, r3, r4⟩ := R
  have e39 : g2 214 39 = g 214 39 := e 214 39 (by unfold zFt; omega)
  have e10 : g2 19 10 = g 19 10 := e 19 10 (by unfold zFt; omega)
  have e234 : ∀ i : Int, g2 234 i = g 234 i := fun i => e 234 i (by unfold zFt; omega)
  refine ⟨⟨by rw [e10, e39]; exact r1.1, fun m m0 m1 => ?_⟩, fun n n0 n1 => ?_, fun i i0 i1 => ?_, fun h => ?_⟩
  · rw [e10] at m1
    rw [e 32 m (by unfold zFt; omega), e 33 m (by unfold zFt; omega), e 34 m (by unfold zFt; omega), e 35 m (by unfold zFt; omega), e234, e234, e234, e234]
    exact r1.2 m m0 m1
  · rw [e39] at n1
    rw [e234, e234, e234]
    exact zPa_m (r2 n n0 n1) s6 s7
  · rw [e 29 i (by unfold zFt; omega)]
    exact Int.lt_of_lt_of_le (r3 i i0 i1) s8
  · rw [e 0 2 (by unfold zFt; omega)] at h
    exact zBk_n (r4 h) (fun a i q => e a i (by unfold zFt; omega))
theorem zBrg_n {g g2 : zi_M} (R : zBrg g) (c : ∀ (a : Nat) (i : Int), (a = 2 ∧ i = 11) ∨ (91 ≤ a ∧ a ≤ 164) ∨ (a = 214 ∧ i = 3) ∨ a = 216 → g2 a i = g a i) : zBrg g2 := by
  refine ⟨by rw [c 91 1 (by omega), c 214 3 (by omega)]; exact R.1, fun x k x0 x1 h1 h2 => ?_⟩
  rw [c 91 1 (by omega)] at x1
  rw [c 2 11 (by omega)] at h1 ⊢
  rw [zRV_n (g := g) (fun a i q => c a i (by omega)) h1]
  show _ = g2 216 _
  rw [c 216 _ (by omega)]
  exact R.2 x k x0 x1 h1 h2
theorem zBrg_0 {g : zi_M} (h : g 91 1 = 0) (h2 : g 214 3 = 0) : zBrg g := ⟨by rw [h, h2], fun x k x0 x1 _ _ => by omega⟩
theorem zBD_n {g g2 : zi_M} (R : zBD g) (e : ∀ (a : Nat) (i : Int), zFt a i → g2 a i = g a i) (c : ∀ (a : Nat) (i : Int), zFc a i → g2 a i = g a i) : zBD g2 := by
  obtain ⟨r1, r2, r3⟩ := R
  refine ⟨fun k hk => ?_, zBrg_n r2 (fun a i q => c a i (by unfold zFc; omega)), zBT_g r3 e ?_ ?_ ?_⟩
  · rw [c 2 11 (by unfold zFc; omega), c 214 7 (by unfold zFc; omega), zVC_s (g := g) (c 2 17 (by unfold zFc; omega)) (c 2 14 (by unfold zFc; omega)) (fun i => c 10 i (by unfold zFc; omega)) (fun i => c 11 i (by unfold zFc; omega)) hk, zVM_s (g := g) hk (c 215 k (by unfold zC0 at hk; unfold zFc; omega))]
    exact r1 k hk
  · rw [c 2 8 (by unfold zFc; omega)]; exact Int.le_refl _
  · exact Or.inl (c 214 6 (by unfold zFc; omega))
  · rw [c 214 7 (by unfold zFc; omega)]; exact Int.le_refl _
-- what each call makes of it
section
variable {g g1 g2 : zi_M}
theorem zLk_I (I : zk_I g) : zLk g := fun l l0 l1 => (zj.law I.2 l l0 l1).1.2.1
theorem zPv_I (I : zk_I g) (w : zXw g) (p : zPl g) : zPv g := ⟨p, fun m m0 m1 => by
  have h := w.2 m m0 (by rw [w.1]; exact m1)
  rw [← h.2]
  have b : (0 : Int) ≤ g 31 m ∧ g 31 m ≤ 9 := I.1 31 m
  exact b.1⟩
theorem zBd_C {T : Int} (I : zk_I g) (hT : T ≤ 8) : zBd (zVC T 2 g) := by
  obtain ⟨-, -, q2, -, -, -, -, -, qh, -⟩ := zVC_rd (T := T) (r := 2) (g := g)
  obtain ⟨w1, w2, -⟩ := zVC_rw (T := T) (r := 2) (g := g)
  have b19 : (0 : Int) ≤ g 2 19 ∧ g 2 19 ≤ 150 := I.1 2 19
  have b2 : (0 : Int) ≤ g 177 2 ∧ g 177 2 ≤ 90 := I.1 177 2
  refine ⟨by rw [q2]; exact b19.1, fun p p0 p1 => ?_, by rw [w1]; exact b2.1, fun j j0 j1 => ?_⟩
  · rw [qh p p0 (by omega)]
    exact I.1 8 p
  · rw [w1] at j1
    rw [w2 j j0 (by omega)]
    exact I.1 179 j
theorem zBd_M {T : Int} (I : zk_I g) : zBd (zVM T g) := by
  obtain ⟨w1, w2, -⟩ := zVM_w (T := T) (g := g)
  have b2 : (0 : Int) ≤ g 215 2 ∧ g 215 2 ≤ 150 := I.1 215 2
  have b43 : (0 : Int) ≤ g 214 43 ∧ g 214 43 ≤ 90 := I.1 214 43
  refine ⟨by rw [zVM_r ⟨by decide, by decide⟩ (by omega)]; exact b2.1, fun p p0 p1 => ?_, by rw [w1]; exact b43.1, fun j j0 j1 => ?_⟩
  · rw [zVM_hc ⟨p0, p1⟩]
    have h : ∀ n : Nat, n ≤ 9 → zk_lo 215 (26 + (n : Int)) = 0 ∧ zk_hi 215 (26 + (n : Int)) = 20 := by decide +kernel
    have q := h p.toNat (by omega)
    rw [show ((p.toNat : Nat) : Int) = p by omega] at q
    have b := I.1 215 (26 + p)
    rw [q.1, q.2] at b
    exact b
  · rw [w1] at j1
    rw [w2 j j0 (by omega)]
    exact I.1 237 j
/-- days go by in both -/
theorem zEq_it {n : Nat} (I : zk_I g) (R : zEq (zVC (g 2 11) 2 g) (zVM (g 214 7) g)) (p : zXp g) (w : zXw g) (sp : g 2 8 = g 214 6) (si : g 2 11 = g 214 7) : zEq (zIt (zCY 2 g) n (zVC (g 2 11) 2 g)) (zIt (zMY g) n (zVM (g 214 7) g)) ∧ zBd (zIt (zCY 2 g) n (zVC (g 2 11) 2 g)) ∧ zBd (zIt (zMY g) n (zVM (g 214 7) g)) := by
  have b8 : (0 : Int) ≤ g 2 8 ∧ g 2 8 ≤ 10 := I.1 2 8
  have b11 : (0 : Int) ≤ g 2 11 ∧ g 2 11 ≤ 8 := I.1 2 11
  induction n with
  | zero => exact ⟨R, zBd_C I b11.2, zBd_M I⟩
  | succ n ih =>
    show zEq (zCY 2 g (zIt (zCY 2 g) n _)) (zMY g (zIt (zMY g) n _)) ∧ zBd (zCY 2 g (zIt (zCY 2 g) n _)) ∧ zBd (zMY g (zIt (zMY g) n _))
    obtain ⟨i1, i2, i3⟩ := ih
    generalize zIt (zCY 2 g) n (zVC (g 2 11) 2 g) = x at *
    generalize zIt (zMY g) n (zVM (g 214 7) g) = y at *
    unfold zCY zMY
    rw [← sp, ← si, ← p.1, ← w.1]
    refine zEq_DY b8.2 b11.2 i1 i2 i3 (fun x x0 x1 => ?_) (fun x x0 x1 => ?_) (fun i i0 i1 => p.2 i i0 i1) (fun m m0 m1 => w.2 m m0 m1)
    · unfold zeg
      have b : (-1 : Int) ≤ g 29 x ∧ g 29 x ≤ 9 := I.1 29 x
      first | exact b | (split <;> omega) | omega
    · unfold zf
      have b : (0 : Int) ≤ g 232 x ∧ g 232 x ≤ 10 := I.1 232 x
      omega
theorem zRm_m {C C' : Int → Prop} {c c' : Int} {R R' : Int → Int → Int} {m : Nat} {W : Nat → Int → Int} (h : zRm C c R m W c' R') (s : ∀ k : Int, C' k → C k) : zRm C' c R m W c' R' := ⟨h.1, fun d k d1 d2 hk => h.2 d k d1 d2 (s k hk)⟩
theorem zBD_days {n v1 v2 : Int} (I : zk_I g) (I1 : zk_I g1) (R : zBD g) (w : zXw g) (sp : g 2 8 = g 214 6) (si : g 2 11 = g 214 7)
    (a1 : 1 ≤ n ∧ n ≤ 60 ∧ zi_w (g 2 17 + n) ≤ 9999 → zDF2 n g g1) (a2 : ¬ (1 ≤ n ∧ n ≤ 60 ∧ zi_w (g 2 17 + n) ≤ 9999) → v1 = -1 ∧ g1 = g)
    (b1 : 1 ≤ n ∧ n ≤ 60 ∧ zi_w (g1 215 0 + n) ≤ 9999 → zDM2 n g1 g2) (b2 : ¬ (1 ≤ n ∧ n ≤ 60 ∧ zi_w (g1 215 0 + n) ≤ 9999) → v2 = -1 ∧ ∃ x : Int, g2 = zi_u g1 214 0 x)
    (hs : ∀ (a : Nat) (i : Int), 214 ≤ a → g1 a i = g a i) (hm : ∀ (a : Nat) (i : Int), a ≤ 213 → g2 a i = g1 a i) (hf : ∀ (a : Nat) (i : Int), zFt a i ∨ (a = 2 ∧ (i = 8 ∨ i = 11)) ∨ (a = 214 ∧ (i = 6 ∨ i = 7)) → g2 a i = g a i) : zBD g2 := by
  have R0 := R
  obtain ⟨r1, r2, r3⟩ := R
  have d0 : g 215 0 = g 2 17 := by
    have h := r1 0 (Or.inl rfl)
    rw [(zVC_rd (T := g 2 11) (r := 2) (g := g)).1, zVM_r ⟨by decide, by decide⟩ (by omega)] at h
    exact h.symm
  rw [hs 215 0 (by decide), d0] at b1 b2
  by_cases c : 1 ≤ n ∧ n ≤ 60 ∧ zi_w (g 2 17 + n) ≤ 9999
  · have d3 : g 215 3 = g 2 14 := by
      have h := r1 3 (Or.inr (Or.inl rfl))
      rw [(zVC_rd (T := g 2 11) (r := 2) (g := g)).2.2.2.1, zVM_r ⟨by decide, by decide⟩ (by omega)] at h
      exact h.symm
    have b14 : (0 : Int) ≤ g 2 14 ∧ g 2 14 ≤ 9 := I.1 2 14
    have b91 : (0 : Int) ≤ g 91 1 ∧ g 91 1 ≤ 6 := I.1 91 1
    have f : zMfr g g1 := ⟨fun a i h => hs a i (by omega), hs _ _ (by decide), hs _ _ (by decide), hs _ _ (by decide), hs _ _ (by decide), hs _ _ (by decide)⟩
    obtain ⟨x1, y1⟩ := a1 c r3.2.2.1
    have yy := zMfr_Y f
    obtain ⟨-, x2, y2⟩ := b1 c (zLk_I I1) (yy.2 (zPv_I I w r3.2.1)) (by rw [hs _ _ (by decide), d3]; exact b14.1)
    have eV : zVM (g1 214 7) g1 = zVM (g 214 7) g := by
      rw [hs 214 7 (by decide)]
      exact zVM_c (fun a i h => hs a i (by omega))
    have eR : zRW g1 = zRW g := by
      unfold zRW
      funext x k
      exact hs 216 _ (by decide)
    rw [yy.1, eV, hs 214 7 (by decide)] at x2
    rw [yy.1, eV, eR, hs 214 7 (by decide), hs 214 3 (by decide)] at y2
    have E := fun n : Nat => zEq_it (n := n) I r1 r3.1 w sp si
    have h11 : g2 2 11 = g 2 11 := hf 2 11 (by omega)
    have h7 : g2 214 7 = g 214 7 := hf 214 7 (by omega)
    refine ⟨fun k hk => ?_, ?_, zBT_g r3 (fun a i q => hf a i (Or.inl q)) ?_ ?_ ?_⟩
    · rw [h11, h7, x2, zVC_c (g := g1) (fun a i h => hm a i (by omega)), x1]
      exact (E n.toNat).1 k hk
    · have z1 := zRm_m (C' := fun k => zRw (g 2 11) k ∧ zC0 k) y1 (fun k h => h.1)
      have z2 := zRm_m (C' := fun k => zRw (g 2 11) k ∧ zC0 k) y2 (fun k h => by rw [← si]; exact h.1)
      rw [← r2.1] at z2
      have z := zRm_eq b91 (by omega) z1 z2 (W := fun j => zIt (zCY 2 g) j (zVC (g 2 11) 2 g)) (fun j => by rw [show n.toNat - (n - ((n - 6).toNat : Int)).toNat = (n - 6).toNat by omega]) (fun i _ k hk => (E i).1 k hk.2) (fun e k e0 e1 hk => r2.2 e k e0 e1 hk.1 hk.2)
      refine ⟨by rw [hm 91 1 (by decide)]; exact z.1, fun e k e0 e1 h1 h2 => ?_⟩
      rw [hm 91 1 (by decide)] at e1
      rw [h11] at h1 ⊢
      rw [zRV_n (g := g1) (fun a i q => hm a i (by omega)) h1]
      exact z.2 e k e0 e1 ⟨h1, h2⟩
    · rw [hf 2 8 (by omega)]; exact Int.le_refl _
    · exact Or.inl (hf 214 6 (by omega))
    · rw [h7]; exact Int.le_refl _
  · obtain ⟨-, x⟩ := a2 c
    obtain ⟨-, y, e⟩ := b2 c
    have q : ∀ (a : Nat) (i : Int), ¬ (a = 214 ∧ i = 0) → g2 a i = g a i := fun a i h => by
      rw [e, x]
      unfold zi_u
      rw [if_neg h]
    exact zBD_n R0 (fun a i h => q a i (by unfold zFt at h; omega)) (fun a i h => q a i (by unfold zFc at h; omega))
end
