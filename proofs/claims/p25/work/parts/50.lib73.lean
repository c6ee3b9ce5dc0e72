-- a text, an image, over the relation of days
theorem zXp_n {g g2 : zi_M} (h : zXp g) (b : g 19 10 ≤ 16) (e10 : g2 19 10 = g 19 10) (e39 : g2 214 39 = g 214 39) (e : ∀ (a : Nat) (i : Int), 32 ≤ a → a ≤ 35 → g2 a i = g a i) (f : ∀ i : Int, i < 64 → g2 234 i = g 234 i) : zXp g2 := ⟨by rw [e10, e39]; exact h.1, fun m m0 m1 => by
  rw [e10] at m1
  rw [e 32 m (by decide) (by decide), e 33 m (by decide) (by decide), e 34 m (by decide) (by decide), e 35 m (by decide) (by decide), f _ (by omega), f _ (by omega), f _ (by omega), f _ (by omega)]
  exact h.2 m m0 m1⟩
theorem zPl_n {g g2 : zi_M} (h : zPl g) (b : g 214 39 ≤ 16) (e39 : g2 214 39 = g 214 39) (f : ∀ i : Int, i < 64 → g2 234 i = g 234 i) (e6 : g2 214 6 = g 214 6) (e7 : g2 214 7 = g 214 7) : zPl g2 := fun n n0 n1 => by
  rw [e39] at n1
  rw [f _ (by omega), f _ (by omega), f _ (by omega), e6, e7]
  exact h n n0 n1
theorem zyN_b {T : zyT} {b t : Int} (h : zyN T b t = 0) : T.1 t = 1 ∧ T.2.1 t < b := by
  unfold zyN at h
  by_cases c : T.1 t = 1
  · rw [if_pos c] at h
    by_cases d : T.2.1 t < b
    · exact ⟨c, d⟩
    · rw [if_neg d] at h; omega
  · rw [if_neg c] at h; omega
theorem zyHi_lt {T : zyT} {sp s : Int} (h : ∀ i : Int, 0 ≤ i → i < s → zyH T sp i = 0) (sp0 : 0 ≤ sp) : ∀ n : Nat, 5 * (n : Int) ≤ s → ∀ k : Int, zyHi T n k < sp
  | 0, _, k => by show (-1 : Int) < sp; omega
  | n + 1, hn, k => by
    show (if k = T.2.1 (5 * (n : Int) + 1) then T.2.1 (5 * (n : Int) + 1 + 1 + 1) else zyHi T n k) < sp
    split
    · have z := h (5 * (n : Int) + 1 + 1 + 1) (by omega) (by omega)
      by_cases c : T.1 (5 * (n : Int) + 1 + 1 + 1) = 1 ∧ T.2.1 (5 * (n : Int) + 1 + 1 + 1) = T.2.1 (5 * (n : Int) + 1)
      · rw [zyH_3s c] at z; omega
      · rw [zyH_3n c] at z
        exact (zyN_b z).2
    · exact zyHi_lt h sp0 n (by omega) k
theorem zyK_b {T : zyT} {k j t : Int} (h : zyK T k j t = 0) : T.1 t = k := (zyK_0.1 h).1
theorem zyPg_k {T : zyT} {sp si n t o : Int} (h : zyPg T sp si n t o = 0) (h0 : 0 ≤ o) (h1 : o < 7) : ¬ T.1 (t + o) = 4 := by
  rcases (show o = 0 ∨ o = 1 ∨ o = 2 ∨ o = 3 ∨ o = 4 ∨ o = 5 ∨ o = 6 by omega) with e | e | e | e | e | e | e <;> subst e
  · rw [Int.add_zero]
    intro q
    rw [zyPg_e q] at h
    omega
  · rw [zyPg_1] at h
    have := (zyN_b h).1
    omega
  · intro q
    rw [zyPg_2n (fun w => by omega)] at h
    omega
  · rw [zyPg_3] at h
    have := (zyN_b h).1
    omega
  · by_cases c : T.2.1 (t + 2) = 0 ∨ T.2.1 (t + 2) = 2
    · rw [zyPg_4a c] at h
      have := zyK_b h
      omega
    · by_cases c6 : T.2.1 (t + 2) = 6
      · rw [zyPg_4t c6] at h
        have := (zyN_b h).1
        omega
      · rw [zyPg_4e c c6] at h
        have := zyK_b h
        omega
  · by_cases c : T.2.1 (t + 2) = 0 ∨ T.2.1 (t + 2) = 2
    · rw [zyPg_5a c] at h
      have := (zyN_b h).1
      omega
    · rw [zyPg_5e c] at h
      have := zyK_b h
      omega
  · rw [zyPg_6] at h
    have := zyK_b h
    omega
theorem zyPp_4 {T : zyT} {sp si : Int} : ∀ n : Nat, (∀ m : Int, 0 ≤ m → m < (n : Int) → ∀ k : Int, 0 ≤ k → k < zyPl (T.2.1 (zyPP T m + 2)) → zyPg T sp si m (zyPP T m) k = 0) → ∀ c : Int, 0 ≤ c → c < zyPp T n → ¬ T.1 c = 4
  | 0, _, c, c0, c1 => by
    exfalso
    have : c < 0 := c1
    omega
  | n + 1, h, c, c0, c1 => by
    by_cases q : c < zyPp T n
    · exact zyPp_4 n (fun m m0 m1 => h m m0 (by omega)) c c0 q
    · have e : zyPP T (n : Int) = zyPp T n := by unfold zyPP; rw [show ((n : Nat) : Int).toNat = n by omega]
      have c2 : c < zyPp T n + zyPl (T.2.1 (zyPp T n + 2)) := c1
      have b := zyPl_b (T.2.1 (zyPp T n + 2))
      have z := h (n : Int) (by omega) (by omega) (c - zyPp T n) (by omega) (by rw [e]; omega)
      rw [e] at z
      have w := zyPg_k z (by omega) (by omega)
      rw [show zyPp T n + (c - zyPp T n) = c by omega] at w
      exact w
/-- a line of a plan that was read names what is there -/
theorem zyPa_of {T : zyT} {sp si n m : Int} (hE : zyE T) (h : ∀ m : Int, 0 ≤ m → m < n → ∀ k : Int, 0 ≤ k → k < zyPl (T.2.1 (zyPP T m + 2)) → zyPg T sp si m (zyPP T m) k = 0) (m0 : 0 ≤ m) (m1 : m < n) (j : zj_deed (T.2.1 (zyPP T m + 2)) (T.2.1 (zyPP T m + 3)) (zyPx T (zyPP T m))) : zPa sp si (T.2.1 (zyPP T m + 2)) (T.2.1 (zyPP T m + 3)) (zyPx T (zyPP T m)) := by
  have hm := h m m0 m1
  have ok := zyPp_4 (T := T) (sp := sp) (si := si) (m + 1).toNat (fun k k0 k1 => h k k0 (by omega))
  have e1 : zyPp T (m + 1).toNat = zyPP T m + zyPl (T.2.1 (zyPP T m + 2)) := zyPP_s m0
  have b0 : 0 ≤ zyPP T m := zyPP_b
  rw [e1] at ok
  generalize zyPP T m = t at *
  have lt : t + zyPl (T.2.1 (t + 2)) ≤ T.2.2.2 - 1 := by
    refine Classical.byContradiction (fun q => ok (T.2.2.2 - 1) (by have := hE.1.1; omega) (by omega) hE.2.1)
  have pl := zyPl_b (T.2.1 (t + 2))
  have k2 := hm 2 (by decide) (by omega)
  have k3 := hm 3 (by decide) (by omega)
  have d6 : 0 ≤ T.2.1 (t + 2) ∧ T.2.1 (t + 2) ≤ 6 := by
    refine Classical.byContradiction (fun q => ?_)
    rw [zyPg_2n (fun w => q ⟨w.2.1, w.2.2⟩)] at k2
    omega
  rw [zyPg_3] at k3
  have w3 := (zyN_b k3).2
  obtain ⟨-, j0, j1, j2, j3, j6⟩ := j
  have c := zCw_f sp si (T.2.1 (t + 2)); have e := zCt_f sp (T.2.1 (t + 2))
  obtain ⟨c0, c1, c6, c2, c7, c3, c8⟩ := c
  obtain ⟨f0, f2, f6, f9⟩ := e
  unfold zPa
  refine ⟨⟨?_, w3⟩, ?_⟩
  · by_cases k0 : T.2.1 (t + 2) = 0
    · exact (j0 k0).1.1
    by_cases k1 : T.2.1 (t + 2) = 1
    · exact (j1 k1).1
    by_cases k2 : T.2.1 (t + 2) = 2
    · exact (j2 k2).1.1
    by_cases k6 : T.2.1 (t + 2) = 6
    · exact (j6 k6).1
    · exact (j3 (by omega) (by omega)).1
  · by_cases a : T.2.1 (t + 2) = 0 ∨ T.2.1 (t + 2) = 2
    · have k5 := hm 5 (by decide) (by rw [zyPl_2 a]; decide)
      rw [zyPg_5a a] at k5
      have w5 := (zyN_b k5).2
      rw [zyPx_a a] at j0 j2 ⊢
      refine Or.inr ⟨?_, ?_⟩
      · rcases a with a | a
        · exact (j0 a).2.1
        · exact (j2 a).2.1
      · rcases a with a | a
        · rw [f0 a]; exact w5
        · rw [f2 a]; exact w5
    · by_cases k6 : T.2.1 (t + 2) = 6
      · have k4 := hm 4 (by decide) (by rw [zyPl_6 k6]; decide)
        rw [zyPg_4t k6] at k4
        have w4 := zyN_b k4
        rw [zyPx_t k6, f6 k6]
        refine Or.inr ⟨hE.2.2.2 (t + 4) (by omega) (by omega) w4.1, w4.2⟩
      · exact Or.inl (f9 (fun q => a (Or.inl q)) (fun q => a (Or.inr q)) k6)
theorem zBk_e {g g2 : zi_M} (R : zBk g) (b : g 64 10 ≤ 16) (e : ∀ (a : Nat) (i : Int), (47 ≤ a ∧ a ≤ 58) ∨ (a = 64 ∧ i = 10) ∨ a = 74 ∨ (77 ≤ a ∧ a ≤ 80) ∨ (a = 250 ∧ 0 ≤ i ∧ i < 2004) → g2 a i = g a i) : zBk g2 := by
  obtain ⟨r1, r2, r3, r4⟩ := R
  have e250 : ∀ i : Int, 0 ≤ i → i < 2004 → g2 250 i = g 250 i := fun i i0 i1 => e 250 i (by omega)
  have b2 := r1.1
  refine ⟨⟨by rw [e 64 10 (by omega), e250 268 (by decide) (by decide)]; exact r1.1, fun m m0 m1 => ?_⟩, fun n n0 n1 => ?_, fun i i0 i1 => ?_, fun k k0 k1 => ?_⟩
  · rw [e 64 10 (by omega)] at m1
    rw [e 77 m (by omega), e 78 m (by omega), e 79 m (by omega), e 80 m (by omega), e250 _ (by omega) (by omega), e250 _ (by omega) (by omega), e250 _ (by omega) (by omega), e250 _ (by omega) (by omega)]
    exact r1.2 m m0 m1
  · rw [e250 268 (by decide) (by decide)] at n1
    rw [e250 264 (by decide) (by decide), e250 265 (by decide) (by decide), e250 _ (by omega) (by omega), e250 _ (by omega) (by omega), e250 _ (by omega) (by omega)]
    exact r2 n n0 n1
  · rw [e 74 i (by omega), e 47 8 (by omega)]
    exact r3 i i0 i1
  · rw [e 47 11 (by omega)] at k1 ⊢
    rw [zVC_s (g := g) (e 47 17 (by omega)) (e 47 14 (by omega)) (fun i => e 55 i (by omega)) (fun i => e 56 i (by omega)) k0, e250 k k1.1 (by have := k1.2.1; omega)]
    exact r4 k k0 k1
section
variable {g g1 g2 : zi_M}
theorem zBD_text {l v1 v2 : Int} (R : zBD g) (I2 : zk_I g2) (b16 : g 19 10 ≤ 16) (b8 : 0 ≤ g 2 8) (sp : g 2 8 = g 214 6) (si : g 2 11 = g 214 7) (hE : l = 3 → zyE (zyM g1))
    (a1 : l = 1 → zySg (g 2 8) g g1 v1) (a1n : ¬ l = 1 → zyUg g g1) (a2 : l = 2 → zySw g g1 v1) (a3 : l = 3 → zySp (g 2 8) (g 2 11) g g1 v1) (a3n : ¬ l = 3 → zyUp g g1) (a9 : ¬ (l = 2 ∨ l = 3) → g1 91 1 = g 91 1)
    (c2 : l = 2 → zyMw g1 g2 v2) (c3 : l = 3 → zyMp g1 g2 v2) (c3n : ¬ l = 3 → zyNp g1 g2) (c9 : ¬ (l = 2 ∨ l = 3) → g2 214 3 = g1 214 3)
    (hs : ∀ (a : Nat) (i : Int), 214 ≤ a → g1 a i = g a i) (hm : ∀ (a : Nat) (i : Int), a ≤ 213 → g2 a i = g1 a i)
    (hf : ∀ (a : Nat) (i : Int), (a = 0 ∧ i = 2) ∨ (2 ≤ a ∧ a ≤ 18) ∨ (47 ≤ a ∧ a ≤ 80) ∨ (91 ≤ a ∧ a ≤ 164 ∧ ¬ (a = 91 ∧ i = 1)) ∨ (a = 214 ∧ (i = 6 ∨ i = 7)) ∨ a = 215 ∨ a = 216 ∨ a = 250 → g2 a i = g a i) : zBD g2 := by
  obtain ⟨r1, r2, x1, x2, x3, x4⟩ := R
  have h6 : g2 214 6 = g 214 6 := hf 214 6 (by omega)
  have h7 : g2 214 7 = g 214 7 := hf 214 7 (by omega)
  have s6 : g1 214 6 = g 214 6 := hs 214 6 (by decide)
  have s7 : g1 214 7 = g 214 7 := hs 214 7 (by decide)
  have cnt : (g2 91 1 = g 91 1 ∧ g2 214 3 = g 214 3) ∨ (g2 91 1 = 0 ∧ g2 214 3 = 0) := by
    rw [hm 91 1 (by decide)]
    by_cases e2 : l = 2
    · obtain ⟨s, s1, s2, s3⟩ := a2 e2
      obtain ⟨t, t1, t2, t3⟩ := c2 e2
      have e := zyI_u s1 t1
      subst e
      by_cases z : zyW (zyM g1) s = -1
      · exact Or.inr ⟨(s2 z).2.2.2.2.2, (t2 z).2.2.2.2.2⟩
      · refine Or.inl ⟨(s3 z).2.2.1, ?_⟩
        rw [(t3 z).2.2.2.1, hs 214 3 (by decide)]
    · by_cases e3 : l = 3
      · obtain ⟨n, o, s1, s2, s3⟩ := a3 e3
        obtain ⟨m, p, t1, t2, t3⟩ := c3 e3
        rw [s6, s7, ← sp, ← si] at t1 t2 t3
        obtain ⟨e4, e5⟩ := zyPi_u s1 t1
        subst e4 e5
        by_cases z : zyPg (zyM g1) (g 2 8) (g 2 11) n (zyPP (zyM g1) n) o = -1
        · exact Or.inr ⟨(s2 z).2.2.2.2.2, (t2 z).2.2.2.2.2⟩
        · refine Or.inl ⟨(s3 z).2.2.1, ?_⟩
          rw [(t3 z).2.2.2.1, hs 214 3 (by decide)]
      · refine Or.inl ⟨a9 (by omega), ?_⟩
        rw [c9 (by omega), hs 214 3 (by decide)]
  refine ⟨zEq_n r1 (fun a i h => hf a i (by omega)) (fun k _ => hf 215 k (by omega)), ?_, ?_, ?_, ?_, fun h => ?_⟩
  · rcases cnt with q | q
    · refine zBrg_n r2 (fun a i h => ?_)
      by_cases w : a = 91 ∧ i = 1
      · rw [w.1, w.2]; exact q.1
      · by_cases w3 : a = 214 ∧ i = 3
        · rw [w3.1, w3.2]; exact q.2
        · exact hf a i (by omega)
    · exact zBrg_0 q.1 q.2
  · by_cases e3 : l = 3
    · obtain ⟨n, o, s1, s2, s3⟩ := a3 e3
      obtain ⟨m, p, t1, t2, t3⟩ := c3 e3
      rw [s6, s7, ← sp, ← si] at t1 t2 t3
      obtain ⟨e4, e5⟩ := zyPi_u s1 t1
      subst e4 e5
      by_cases z : zyPg (zyM g1) (g 2 8) (g 2 11) n (zyPP (zyM g1) n) o = -1
      · obtain ⟨p1, p2, p3, -⟩ := s2 z
        obtain ⟨q1, q2, q3, -⟩ := t2 z
        refine ⟨by rw [hm 19 10 (by decide), q3]; omega, fun k k0 k1 => ?_⟩
        rw [hm 19 10 (by decide)] at k1
        have u := p3 k k0 (by omega)
        have w := q2 k k0 (by omega)
        rw [hm 32 k (by decide), hm 33 k (by decide), hm 34 k (by decide), hm 35 k (by decide), u.1, u.2.1, u.2.2.1, u.2.2.2, w.1, w.2.1, w.2.2.1, w.2.2.2]
        exact ⟨rfl, rfl, rfl, rfl⟩
      · obtain ⟨-, -, -, p4, p5, p6, p7, p8⟩ := s3 z
        obtain ⟨-, -, -, -, q5⟩ := t3 z
        refine zXp_n x1 b16 (by rw [hm 19 10 (by decide), p4]) (by rw [q5.1, hs 214 39 (by decide)]) (fun a i h1 h2 => ?_) (fun i hi => by rw [q5.2 i hi, hs 234 i (by decide)])
        rw [hm a i (by omega)]
        rcases (show a = 32 ∨ a = 33 ∨ a = 34 ∨ a = 35 by omega) with e | e | e | e <;> subst e
        · exact p5 i
        · exact p6 i
        · exact p7 i
        · exact p8 i
    · obtain ⟨p4, p5, p6, p7, p8⟩ := a3n e3
      have q5 := c3n e3
      refine zXp_n x1 b16 (by rw [hm 19 10 (by decide), p4]) (by rw [q5.1, hs 214 39 (by decide)]) (fun a i h1 h2 => ?_) (fun i hi => by rw [q5.2 i hi, hs 234 i (by decide)])
      rw [hm a i (by omega)]
      rcases (show a = 32 ∨ a = 33 ∨ a = 34 ∨ a = 35 by omega) with e | e | e | e <;> subst e
      · exact p5 i
      · exact p6 i
      · exact p7 i
      · exact p8 i
  · by_cases e3 : l = 3
    · obtain ⟨m, p, t1, t2, t3⟩ := c3 e3
      by_cases z : zyPg (zyM g1) (g1 214 6) (g1 214 7) m (zyPP (zyM g1) m) p = -1
      · obtain ⟨q1, q2, q3, -⟩ := t2 z
        intro n n0 n1
        rw [q3] at n1
        have w := q2 n n0 n1
        have j := zj.deeds I2.2 n n0 (by have : g2 214 39 ≤ 16 := (I2.1 214 39).2; omega)
        rw [w.2.1, w.2.2.1, w.2.2.2, h6, h7, ← s6, ← s7]
        rw [w.2.1, w.2.2.1, w.2.2.2] at j
        exact zyPa_of (hE e3) t1.2.1 n0 n1 j
      · obtain ⟨-, -, -, -, q5⟩ := t3 z
        exact zPl_n x2 (by rw [← x1.1]; exact b16) (by rw [q5.1, hs 214 39 (by decide)]) (fun i hi => by rw [q5.2 i hi, hs 234 i (by decide)]) h6 h7
    · have q5 := c3n e3
      exact zPl_n x2 (by rw [← x1.1]; exact b16) (by rw [q5.1, hs 214 39 (by decide)]) (fun i hi => by rw [q5.2 i hi, hs 234 i (by decide)]) h6 h7
  · intro i i0 i1
    rw [hm 29 i (by decide), hf 2 8 (by omega)]
    by_cases e1 : l = 1
    · obtain ⟨-, s, s1, s2, s3⟩ := a1 e1
      by_cases z : zyH (zyM g1) (g 2 8) s = -1
      · obtain ⟨-, p2, p3, -⟩ := s2 z
        rw [p3 i i0 (by omega)]
        exact zyHi_lt s1.2.1 b8 v1.toNat (by have := s1.1; omega) i
      · rw [(s3 z).2.2.2 i]
        exact x3 i i0 i1
    · rw [(a1n e1).2 i]
      exact x3 i i0 i1
  · rw [hf 0 2 (by omega)] at h
    exact zBk_n (x4 h) (fun a i q => hf a i (by omega))
theorem zBD_it (W : zWc 47 2 g g1) (Wk : ∀ (a : Nat) (i : Int), (2 ≤ a ∧ a ≤ 13) ∨ (91 ≤ a ∧ a ≤ 164) → g1 a i = g a i) (T : zyTx 64 19 g g1) (K : zyTk 19 g g1) (hs : ∀ (a : Nat) (i : Int), 214 ≤ a → g1 a i = g a i) (M : zimT g1 g2) (hm : ∀ (a : Nat) (i : Int), a ≤ 213 → g2 a i = g1 a i) (sp : g 2 8 = g 214 6) (si : g 2 11 = g 214 7) (b16 : g 19 10 ≤ 16) (R : zBD g) : zBD g2 := by
  obtain ⟨r1, r2, x1, x2, x3, x4⟩ := R
  have w : ∀ (a : Nat) (i : Int), (2 ≤ a ∧ a ≤ 13) ∨ (91 ≤ a ∧ a ≤ 164) → g2 a i = g a i := fun a i h => by rw [hm a i (by omega)]; exact Wk a i h
  have t : ∀ (a : Nat) (i : Int), 19 ≤ a → a ≤ 35 → g2 a i = g a i := fun a i h1 h2 => by rw [hm a i (by omega)]; exact K a i h1 (by omega)
  have m : ∀ (a : Nat) (i : Int), 215 ≤ a → ¬ a = 250 → g2 a i = g a i := fun a i h1 h2 => by rw [M.2.1 a i h2 (by omega), hs a i (by omega)]
  have m4 : ∀ i : Int, i ≠ 0 → i ≠ 61 → i ≠ 62 → i ≠ 63 → g2 214 i = g 214 i := fun i h1 h2 h3 h4 => by rw [M.2.2 i h1 h2 h3 h4, hs 214 i (by decide)]
  have im : ∀ p : Int, 0 ≤ p → p < 2004 → g2 250 p = g (za p) (zb p) := fun p p0 p1 => by
    have h : ∀ n : Nat, n < 2004 → 214 ≤ za (n : Int) := by decide +kernel
    have q := h p.toNat (by omega)
    rw [show ((p.toNat : Nat) : Int) = p by omega] at q
    rw [M.1 p p0 p1, hs _ _ q]
  have ir : ∀ p : Int, 0 ≤ p → p < 264 → g2 250 p = g 215 p := fun p p0 p1 => by
    have h : ∀ n : Nat, n < 264 → za (n : Int) = 215 ∧ zb (n : Int) = (n : Int) := by decide +kernel
    have q := h p.toNat (by omega)
    rw [show ((p.toNat : Nat) : Int) = p by omega] at q
    rw [im p p0 (by omega), q.1, q.2]
  have id : ∀ p : Int, 0 ≤ p → p < 64 → g2 250 (475 + p) = g 234 p := fun p p0 p1 => by
    have h : ∀ n : Nat, n < 64 → za (475 + (n : Int)) = 234 ∧ zb (475 + (n : Int)) = (n : Int) := by decide +kernel
    have q := h p.toNat (by omega)
    rw [show ((p.toNat : Nat) : Int) = p by omega] at q
    rw [im (475 + p) (by omega) (by omega), q.1, q.2]
  have i4 : g2 250 264 = g 214 6 := by rw [im 264 (by decide) (by decide), show za 264 = 214 by decide +kernel, show zb 264 = 6 by decide +kernel]
  have i5 : g2 250 265 = g 214 7 := by rw [im 265 (by decide) (by decide), show za 265 = 214 by decide +kernel, show zb 265 = 7 by decide +kernel]
  have i8 : g2 250 268 = g 214 39 := by rw [im 268 (by decide) (by decide), show za 268 = 214 by decide +kernel, show zb 268 = 39 by decide +kernel]
  have k8 : g2 47 8 = g 2 8 := by rw [hm 47 8 (by decide)]; exact W.1.1
  have k11 : g2 47 11 = g 2 11 := by rw [hm 47 11 (by decide)]; exact W.1.2.1
  have k10 : g2 64 10 = g 19 10 := by rw [hm 64 10 (by decide)]; exact T.2.2.1
  refine ⟨zEq_n r1 (fun a i h => ?_) (fun k _ => m 215 k (by decide) (by decide)), zBrg_n r2 (fun a i h => ?_), zXp_n x1 b16 (t 19 10 (by decide) (by decide)) (m4 39 (by decide) (by decide) (by decide) (by decide)) (fun a i h1 h2 => t a i (by omega) h2) (fun i _ => m 234 i (by decide) (by decide)), zPl_n x2 (by rw [← x1.1]; exact b16) (m4 39 (by decide) (by decide) (by decide) (by decide)) (fun i _ => m 234 i (by decide) (by decide)) (m4 6 (by decide) (by decide) (by decide) (by decide)) (m4 7 (by decide) (by decide) (by decide) (by decide)), fun i i0 i1 => ?_, fun _ => ⟨⟨?_, fun n n0 n1 => ?_⟩, fun n n0 n1 => ?_, fun i i0 i1 => ?_, fun k k0 k1 => ?_⟩⟩
  · by_cases q : a ≤ 213
    · exact w a i (by omega)
    · rw [show a = 214 by omega, show i = 7 by omega]; exact m4 7 (by decide) (by decide) (by decide) (by decide)
  · by_cases q : a ≤ 213
    · exact w a i (by omega)
    · by_cases q3 : a = 214
      · rw [q3, show i = 3 by omega]; exact m4 3 (by decide) (by decide) (by decide) (by decide)
      · exact m a i (by omega) (by omega)
  · rw [t 29 i (by decide) (by decide), w 2 8 (by omega)]
    exact x3 i i0 i1
  · rw [k10, i8]; exact x1.1
  · rw [k10] at n1
    rw [hm 77 n (by decide), hm 78 n (by decide), hm 79 n (by decide), hm 80 n (by decide), T.2.2.2.1 n n0 (by omega), T.2.2.2.2.1 n n0 (by omega), T.2.2.2.2.2.1 n n0 (by omega), T.2.2.2.2.2.2 n n0 (by omega), id _ (by omega) (by omega), id _ (by omega) (by omega), id _ (by omega) (by omega), id _ (by omega) (by omega)]
    exact x1.2 n n0 n1
  · rw [i8] at n1
    rw [i4, i5, id _ (by omega) (by have := x1.1; omega), id _ (by omega) (by have := x1.1; omega), id _ (by omega) (by have := x1.1; omega)]
    exact x2 n n0 n1
  · rw [hm 74 i (by decide), T.1.2 i i0 (by omega), k8]
    exact x3 i i0 i1
  · rw [k11] at k1 ⊢
    rw [zVC_s (g := g1) (hm 47 17 (by decide)) (hm 47 14 (by decide)) (fun i => hm 55 i (by decide)) (fun i => hm 56 i (by decide)) k0, zVC_wc W k1, r1 k k0, ← si, zVM_rw k1, ir k k1.1 k1.2.1]
theorem zBD_ir (W : zWc 2 47 g g1) (Wj : ∀ (a : Nat) (i : Int), (47 ≤ a ∧ a ≤ 58) ∨ (92 ≤ a ∧ a ≤ 164) ∨ (a = 91 ∧ i = 2) → g1 a i = g a i) (z91 : g1 91 1 = 0) (T : zyTx 19 64 g g1) (K : zyTk 64 g g1) (hs : ∀ (a : Nat) (i : Int), 214 ≤ a → g1 a i = g a i) (M : zimR g1 g2) (u3 : g2 214 3 = 0) (hm : ∀ (a : Nat) (i : Int), a ≤ 213 → g2 a i = g1 a i) (sik : g 47 11 = g 250 265) (b16 : g 64 10 ≤ 16) (R : zBk g) : zBD g2 := by
  obtain ⟨y1, y2, y3, y4⟩ := R
  have w : ∀ (a : Nat) (i : Int), (47 ≤ a ∧ a ≤ 58) → g2 a i = g a i := fun a i h => by rw [hm a i (by omega)]; exact Wj a i (by omega)
  have t : ∀ (a : Nat) (i : Int), 64 ≤ a → a ≤ 80 → g2 a i = g a i := fun a i h1 h2 => by rw [hm a i (by omega)]; exact K a i h1 (by omega)
  have m250 : ∀ i : Int, 0 ≤ i → i < 2004 → g2 250 i = g 250 i := fun i i0 i1 => by
    have h : ∀ n : Nat, n < 2004 → zv 250 (n : Int) = -1 := by decide +kernel
    have q := h i.toNat (by omega)
    rw [show ((i.toNat : Nat) : Int) = i by omega] at q
    rw [M.2.1 250 i q (by decide), hs 250 i (by decide)]
  have ir : ∀ p : Int, 0 ≤ p → p < 264 → g2 215 p = g 250 p := fun p p0 p1 => by
    have h : ∀ n : Nat, n < 264 → zv 215 (n : Int) = (n : Int) := by decide +kernel
    have q := h p.toNat (by omega)
    rw [show ((p.toNat : Nat) : Int) = p by omega] at q
    rw [M.1 215 p (by omega), q, hs 250 p (by decide)]
  have id : ∀ p : Int, 0 ≤ p → p < 64 → g2 234 p = g 250 (475 + p) := fun p p0 p1 => by
    have h : ∀ n : Nat, n < 64 → zv 234 (n : Int) = 475 + (n : Int) := by decide +kernel
    have q := h p.toNat (by omega)
    rw [show ((p.toNat : Nat) : Int) = p by omega] at q
    rw [M.1 234 p (by omega), q, hs 250 _ (by decide)]
  have i4 : g2 214 6 = g 250 264 := by rw [M.1 214 6 (by decide +kernel), show zv 214 6 = 264 by decide +kernel, hs 250 _ (by decide)]
  have i5 : g2 214 7 = g 250 265 := by rw [M.1 214 7 (by decide +kernel), show zv 214 7 = 265 by decide +kernel, hs 250 _ (by decide)]
  have i8 : g2 214 39 = g 250 268 := by rw [M.1 214 39 (by decide +kernel), show zv 214 39 = 268 by decide +kernel, hs 250 _ (by decide)]
  have k8 : g2 2 8 = g 47 8 := by rw [hm 2 8 (by decide)]; exact W.1.1
  have k11 : g2 2 11 = g 47 11 := by rw [hm 2 11 (by decide)]; exact W.1.2.1
  have k10 : g2 19 10 = g 64 10 := by rw [hm 19 10 (by decide)]; exact T.2.2.1
  refine ⟨fun k k0 => ?_, zBrg_0 (by rw [hm 91 1 (by decide)]; exact z91) u3, ⟨?_, fun n n0 n1 => ?_⟩, fun n n0 n1 => ?_, fun i i0 i1 => ?_, fun _ => zBk_e ⟨y1, y2, y3, y4⟩ b16 (fun a i h => ?_)⟩
  · rw [k11, i5, ← sik]
    by_cases d : zRw (g 47 11) k
    · rw [zVC_s (g := g1) (hm 2 17 (by decide)) (hm 2 14 (by decide)) (fun i => hm 10 i (by decide)) (fun i => hm 11 i (by decide)) k0, zVC_wc W d, zVM_rw d, ir k d.1 d.2.1]
      exact y4 k k0 d
    · have nd := zV_no k0 d
      rw [zVC_no nd, zVM_no nd]
  · rw [k10, i8]; exact y1.1
  · rw [k10] at n1
    rw [hm 32 n (by decide), hm 33 n (by decide), hm 34 n (by decide), hm 35 n (by decide), T.2.2.2.1 n n0 (by omega), T.2.2.2.2.1 n n0 (by omega), T.2.2.2.2.2.1 n n0 (by omega), T.2.2.2.2.2.2 n n0 (by omega), id _ (by omega) (by omega), id _ (by omega) (by omega), id _ (by omega) (by omega), id _ (by omega) (by omega)]
    exact y1.2 n n0 n1
  · rw [i8] at n1
    rw [i4, i5, id _ (by omega) (by have := y1.1; omega), id _ (by omega) (by have := y1.1; omega), id _ (by omega) (by have := y1.1; omega)]
    exact y2 n n0 n1
  · rw [hm 29 i (by decide), T.1.2 i i0 (by omega), k8]
    exact y3 i i0 i1
  · by_cases q : a = 250
    · rw [q]
      exact m250 i (by omega) (by omega)
    · by_cases q2 : a ≤ 58
      · exact w a i (by omega)
      · exact t a i (by omega) (by omega)
end
