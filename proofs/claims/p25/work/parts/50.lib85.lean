-- THE LAW, the reference: conditions
noncomputable def zdl (w : Int) : List Int → List (Int × Int)
  | [] => []
  | x :: t => if x = w then (w, 0) :: zdl w t else []
theorem zi_unn {g : zi_M} {a b : Nat} {i j v : Int} (h : ¬ (b = a ∧ j = i)) : zi_u g a i v b j = g b j := by
  by_cases e : b = a
  · subst e
    exact zi_u_ni (fun q => h ⟨rfl, q⟩)
  · exact zi_u_ne e
theorem zdl_y {w x : Int} {t : List Int} (h : x = w) : zdl w (x :: t) = (w, 0) :: zdl w t := if_pos h
theorem zdl_n {w x : Int} {t : List Int} (h : ¬ x = w) : zdl w (x :: t) = [] := if_neg h
theorem zld_y {w x : Int} {t : List Int} (h : x = w) : zl_drop w (x :: t) = zl_drop w t := if_pos h
theorem zld_n {w x : Int} {t : List Int} (h : ¬ x = w) : zl_drop w (x :: t) = x :: t := if_neg h
theorem zdl_0 {w : Int} {P : List Int} (h : zl_top P ≠ w ∨ P = []) : zdl w P = [] := by
  cases P with
  | nil => rfl
  | cons x t => exact zdl_n (fun e => h.elim (fun q => q e) (fun q => by cases q))
theorem zld_0 {w : Int} {P : List Int} (h : zl_top P ≠ w) : zl_drop w P = P := by
  cases P with
  | nil => rfl
  | cons x t => exact zld_n h
theorem zex_dl {w : Int} (hw : ¬ w = 5) : ∀ P : List Int, zex (zdl w P) = zdl w P
  | [] => rfl
  | x :: t => by
    by_cases h : x = w
    · rw [zdl_y h]
      show (if w = 5 then _ else _) ++ zex (zdl w t) = _
      rw [if_neg hw, zex_dl hw t]
      rfl
    · rw [zdl_n h]; rfl
/-- one that waits, as the class names it -/
noncomputable def zrf (x : Int) : Int := if x = 9 then 6 else if x = 10 then 5 else if x = 11 then 4 else 0
theorem zrf_9 : ∀ P : List Int, zsnP (P.map zrf) = (zl_drop 9 P).map zrf ∧ zsnL (P.map zrf) = zdl 9 P
  | [] => ⟨rfl, rfl⟩
  | x :: t => by
    have i := zrf_9 t
    by_cases h : x = 9
    · subst h
      have e : zrf 9 = 6 := rfl
      rw [List.map_cons, e, zsnP_y.1, zsnP_y.2, zld_y rfl, zdl_y rfl, i.1, i.2]
      exact ⟨rfl, rfl⟩
    · have e : ¬ zrf x = 6 := by
        unfold zrf
        rw [if_neg h]
        split
        · decide
        · split <;> decide
      rw [List.map_cons, (zsnP_n e).1, (zsnP_n e).2, zld_n h, zdl_n h]
      exact ⟨rfl, rfl⟩
theorem zrf_10 : ∀ P : List Int, zsbP 5 (P.map zrf) = (zl_drop 10 P).map zrf ∧ zsbL 5 (P.map zrf) = zdl 10 P
  | [] => ⟨rfl, rfl⟩
  | x :: t => by
    have i := zrf_10 t
    by_cases h : x = 10
    · subst h
      have e : zrf 10 = 5 := rfl
      have c : (5 : Int) = 5 ∨ ((5 : Int) = 4 ∧ (5 : Int) = 4) := Or.inl rfl
      rw [List.map_cons, e, (zsbP_y c).1, (zsbP_y c).2, zld_y rfl, zdl_y rfl, i.1, i.2, if_pos rfl]
      exact ⟨rfl, rfl⟩
    · have e : ¬ (zrf x = 5 ∨ (zrf x = 4 ∧ (5 : Int) = 4)) := by
        rintro (q | q)
        · unfold zrf at q
          rw [if_neg h] at q
          split at q
          · exact absurd q (by decide)
          · split at q <;> exact absurd q (by decide)
        · exact absurd q.2 (by decide)
      rw [List.map_cons, (zsbP_n e).1, (zsbP_n e).2, zld_n h, zdl_n h]
      exact ⟨rfl, rfl⟩
theorem zrf_11 : ∀ P : List Int, zl_ok 9 10 11 12 P → zsbP 4 (P.map zrf) = (zl_drop 11 (zl_drop 10 P)).map zrf ∧ zsbL 4 (P.map zrf) = zdl 10 P ++ zdl 11 (zl_drop 10 P)
  | [], _ => ⟨rfl, rfl⟩
  | x :: t, ok => by
    have i := zrf_11 t ok.1
    by_cases h : x = 10
    · subst h
      have e : zrf 10 = 5 := rfl
      have c : (5 : Int) = 5 ∨ ((5 : Int) = 4 ∧ (4 : Int) = 4) := Or.inl rfl
      rw [List.map_cons, e, (zsbP_y c).1, (zsbP_y c).2, zld_y rfl, zdl_y rfl, i.1, i.2, if_pos rfl]
      exact ⟨rfl, rfl⟩
    · rw [zld_n h, zdl_n h]
      by_cases k : x = 11
      · subst k
        have e : zrf 11 = 4 := rfl
        have c : (4 : Int) = 5 ∨ ((4 : Int) = 4 ∧ (4 : Int) = 4) := Or.inr ⟨rfl, rfl⟩
        have o : zl_top t ≠ 10 := by
          rcases ok.2 with q | q | q | q
          · exact absurd q (by decide)
          · exact absurd q (by decide)
          · exact absurd q.1 (by decide)
          · exact q.2.2.1
        rw [zld_0 o, zdl_0 (Or.inl o)] at i
        rw [List.map_cons, e, (zsbP_y c).1, (zsbP_y c).2, zld_y rfl, zdl_y rfl, i.1, i.2, if_neg (by decide)]
        exact ⟨rfl, rfl⟩
      · have e : ¬ (zrf x = 5 ∨ (zrf x = 4 ∧ (4 : Int) = 4)) := by
          have q : zrf x = 6 ∨ zrf x = 0 := by
            unfold zrf
            by_cases h9 : x = 9
            · rw [if_pos h9]; exact Or.inl rfl
            · rw [if_neg h9, if_neg h, if_neg k]; exact Or.inr rfl
          omega
        rw [List.map_cons, (zsbP_n e).1, (zsbP_n e).2, zld_n k, zdl_n k]
        exact ⟨rfl, rfl⟩
theorem zrf_of : ∀ P : List Int, zl_ok 9 10 11 12 P → zl_of 12 12 P = zl_of 0 0 (P.map zrf) ∧ zl_of 9 12 P = zl_of 6 0 (P.map zrf)
  | [], _ => ⟨rfl, rfl⟩
  | x :: t, ok => by
    have i := zrf_of t ok.1
    show zl_of 12 12 t + (if x = 12 ∨ x = 12 then 1 else 0) = zl_of 0 0 (t.map zrf) + (if zrf x = 0 ∨ zrf x = 0 then 1 else 0) ∧ zl_of 9 12 t + (if x = 9 ∨ x = 12 then 1 else 0) = zl_of 6 0 (t.map zrf) + (if zrf x = 6 ∨ zrf x = 0 then 1 else 0)
    rw [i.1, i.2]
    have q : x = 9 ∨ x = 10 ∨ x = 11 ∨ x = 12 := by
      rcases ok.2 with q | q | q | q
      · exact Or.inl q
      · exact Or.inr (Or.inr (Or.inr q))
      · exact Or.inr (Or.inl q.1)
      · exact Or.inr (Or.inr (Or.inl q.1))
    rcases q with rfl | rfl | rfl | rfl <;> exact ⟨rfl, rfl⟩
/-- settling moves no token -/
theorem zyR_set {T : zyT} {g g' : zi_M} {t : Int} (h : zyR zrL T g t) (F : zk_fr fr_S g g') : zyR zrL T g' t := zyR_mm h (fun a i q => F a i (fun w => by unfold fr_S at w; omega))
/-- where the reference stands in a condition -/
noncomputable def zAn (d : Int) (P : List Int) (g0 g : zi_M) : Prop := ∀ (T : zyT) (t0 : Int), zyR zrL T g0 t0 → zyE T → ∃ (t : Int) (n : Nat) (L : List (Int × Int)), zyR zrL T g t ∧ zEm (zex L) g0 g ∧ zCnd T t0 = zpre L (zCd T n d (P.map zrf) t) ∧ T.2.2.2 - t < n
noncomputable def zAf (e : Int) (g0 g : zi_M) : Prop := ∀ (T : zyT) (t0 : Int), zyR zrL T g0 t0 → zyE T → ∃ t : Int, zyR zrL T g t ∧ (zCnd T t0).2 = (e, t) ∧ zlo g0 g
section
variable {g0 g g1 g2 g3 g4 g5 g6 : zi_M} {v w x : Int} {P P' : List Int}
theorem zAn_0 (e : ∀ (a : Nat) (i : Int), a ≠ 214 → g1 a i = g a i) (e2 : ∀ i : Int, ¬ i = 30 → g1 214 i = g 214 i) : zAn 1 [] g g1 := fun T t0 hR hE => by
  have b := zyR_t hR hE
  refine ⟨t0, 402, [], zyR_mm hR (fun a i q => ?_), zEm_m zEm_0 (e2 27 (by decide)) (fun i => ⟨e _ _ (by decide), e _ _ (by decide)⟩), (zpre_0 (r := zCd T 402 1 [] t0)).symm, by omega⟩
  rcases q with q | q
  · exact e a i (by omega)
  · rw [q.1]; exact e2 i (by omega)
theorem zAn_f {T : zyT} {t : Int} {n : Nat} (h : zyR zrL T g t) (k : T.2.2.2 - t < n) : ∃ m : Nat, n = m + 1 := ⟨n - 1, by have := h.2.1.2; omega⟩
/-- a word -/
theorem zrW {T : zyT} {t c : Int} (h : zyR zrL T g t) (c0 : 0 ≤ c) (c1 : c < 16) : (g 214 16 = 2 ∧ g 214 17 = c) ↔ (T.1 t = 2 ∧ T.2.1 t = c) := (zrK h).2.2.2.2.1 c c0 c1
/-- and -/
theorem zAn_and (h : zAn 0 P g0 g) (s : g 214 16 = 2 ∧ g 214 17 = 5) (F1 : zk_fr fr_S g g1) (e1 : zEm (zdl 10 P) g g1) (F2 : ∀ (a : Nat) (i : Int), ¬ a = 231 → ¬ (a = 214 ∧ i = 30) → g2 a i = g1 a i) (F3 : zk_fr fr_M_reads g2 g3) (st : zstm g2 g3) : zAn 1 (10 :: zl_drop 10 P) g0 g3 := fun T t0 hR hE => by
  obtain ⟨t, n, L, k1, k2, k3, k4⟩ := h T t0 hR hE
  have a := (zrW k1 (by decide) (by decide)).1 s
  obtain ⟨m, rfl⟩ := zAn_f k1 k4
  have q := zrf_10 P
  rw [zCd_a ⟨a.1, Or.inl a.2⟩, a.2, q.1, q.2, zpre_p] at k3
  have r2 : zyR zrL T g2 t := zyR_mm (zyR_set k1 F1) (fun a i w => F2 a i (by omega) (by omega))
  refine ⟨t + 1, m, _, st T t r2 hE (by omega), ?_, k3, by omega⟩
  rw [zex_a, zex_dl (by decide)]
  exact zEm_m (zEm_m (zEm_t k2 e1) (F2 _ _ (by decide) (by decide)) (fun i => ⟨F2 _ _ (by decide) (by omega), F2 _ _ (by decide) (by omega)⟩)) (zrf_c F3).1 (zrf_c F3).2
/-- or -/
theorem zAn_or (h : zAn 0 P g0 g) (ok : zl_ok 9 10 11 12 P) (s : g 214 16 = 2 ∧ g 214 17 = 4) (F1 : zk_fr fr_S g g1) (e1 : zEm (zdl 10 P) g g1) (F4 : zk_fr fr_S g1 g4) (e4 : zEm (zdl 11 (zl_drop 10 P)) g1 g4) (F2 : ∀ (a : Nat) (i : Int), ¬ a = 231 → ¬ (a = 214 ∧ i = 30) → g2 a i = g4 a i) (F3 : zk_fr fr_M_reads g2 g3) (st : zstm g2 g3) : zAn 1 (11 :: zl_drop 11 (zl_drop 10 P)) g0 g3 := fun T t0 hR hE => by
  obtain ⟨t, n, L, k1, k2, k3, k4⟩ := h T t0 hR hE
  have a := (zrW k1 (by decide) (by decide)).1 s
  obtain ⟨m, rfl⟩ := zAn_f k1 k4
  have q := zrf_11 P ok
  rw [zCd_a ⟨a.1, Or.inr a.2⟩, a.2, q.1, q.2, zpre_p] at k3
  have r2 : zyR zrL T g2 t := zyR_mm (zyR_set (zyR_set k1 F1) F4) (fun a i w => F2 a i (by omega) (by omega))
  refine ⟨t + 1, m, _, st T t r2 hE (by omega), ?_, k3, by omega⟩
  rw [zex_a, zex_a, zex_dl (by decide), zex_dl (by decide)]
  exact zEm_m (zEm_m (zEm_t k2 (zEm_t e1 e4)) (F2 _ _ (by decide) (by decide)) (fun i => ⟨F2 _ _ (by decide) (by omega), F2 _ _ (by decide) (by omega)⟩)) (zrf_c F3).1 (zrf_c F3).2
/-- neither: the end, what closes, or a fault -/
theorem zAn_x (h : zAn 0 P g0 g) (ok : zl_ok 9 10 11 12 P) (s5 : ¬ (g 214 16 = 2 ∧ g 214 17 = 5)) (s4 : ¬ (g 214 16 = 2 ∧ g 214 17 = 4)) (F1 : zk_fr fr_S g g1) (e1 : zEm (zdl 10 P) g g1) (F4 : zk_fr fr_S g1 g4) (e4 : zEm (zdl 11 (zl_drop 10 P)) g1 g4) : (zl_of 12 12 P = 0 → zmcn zCnd 0 g0 g4) ∧ (¬ zl_of 12 12 P = 0 → ¬ (g4 214 16 = 4 ∧ g4 214 17 = 41) → zAf 1 g0 g4) ∧ (¬ zl_of 12 12 P = 0 → (g4 214 16 = 4 ∧ g4 214 17 = 41) → ∀ (y : List Int) (g5 g2 g3 : zi_M), zl_drop 11 (zl_drop 10 P) = 12 :: y → (∀ (a : Nat) (i : Int), ¬ (a = 214 ∧ (i = 30 ∨ i = 28)) → g5 a i = g4 a i) → zk_fr fr_S g5 g2 → zEm (zdl 9 y) g5 g2 → zk_fr fr_M_reads g2 g3 → zstm g2 g3 → zAn 0 (zl_drop 9 y) g0 g3) := by
  have X : ∀ (T : zyT) (t0 : Int), zyR zrL T g0 t0 → zyE T → ∃ (t : Int) (n : Nat) (L : List (Int × Int)), zyR zrL T g4 t ∧ zEm (zex (L ++ zsbL 4 (P.map zrf))) g0 g4 ∧ zCnd T t0 = zpre L (zCd T (n + 1) 0 (P.map zrf) t) ∧ T.2.2.2 - t < ((n + 1 : Nat) : Int) ∧ ¬ (T.1 t = 2 ∧ (T.2.1 t = 5 ∨ T.2.1 t = 4)) := fun T t0 hR hE => by
    obtain ⟨t, n, L, k1, k2, k3, k4⟩ := h T t0 hR hE
    obtain ⟨m, rfl⟩ := zAn_f k1 k4
    have q := zrf_11 P ok
    refine ⟨t, m, L, zyR_set (zyR_set k1 F1) F4, ?_, k3, k4, ?_⟩
    · rw [zex_a, q.2, zex_a, zex_dl (by decide), zex_dl (by decide)]
      exact zEm_t k2 (zEm_t e1 e4)
    · rintro ⟨w1, w2 | w2⟩
      · exact s5 ((zrW k1 (by decide) (by decide)).2 ⟨w1, w2⟩)
      · exact s4 ((zrW k1 (by decide) (by decide)).2 ⟨w1, w2⟩)
  have o := (zrf_of P ok).1
  refine ⟨fun c T t0 hR hE => ?_, fun c sg T t0 hR hE => ?_, fun c sg y g5 g2 g3 ey F5 F2 e2 F3 st T t0 hR hE => ?_⟩
  · obtain ⟨t, n, L, k1, k2, k3, k4, k5⟩ := X T t0 hR hE
    rw [zCd_e k5 (by omega)] at k3
    rw [k3]
    exact zMr_y k1 k2 rfl
  · obtain ⟨t, n, L, k1, k2, k3, k4, k5⟩ := X T t0 hR hE
    rw [zCd_1 k5 (by omega) (fun q => sg ((zrS k1).2 q))] at k3
    rw [k3]
    exact ⟨t, k1, rfl, k2.2.2.2⟩
  · obtain ⟨t, n, L, k1, k2, k3, k4, k5⟩ := X T t0 hR hE
    have s := (zrS k1).1 sg
    have q := zrf_11 P ok
    have e12 : (12 :: y).map zrf = 0 :: y.map zrf := rfl
    have r := zrf_9 y
    rw [zCd_p (by omega) s, q.1, ey, e12, List.tail_cons, r.1, r.2, zpre_p] at k3
    have r5 : zyR zrL T g5 t := zyR_mm k1 (fun a i w => F5 a i (by omega))
    refine ⟨t + 1, n, _, st T t (zyR_set r5 F2) hE (by have := s.1; omega), ?_, k3, by omega⟩
    rw [← List.append_assoc, zex_a, zex_dl (w := 9) (by decide)]
    exact zEm_m (zEm_t k2 (zEm_s e2 (F5 _ _ (by decide)) (fun i => ⟨F5 _ _ (by omega), F5 _ _ (by omega)⟩))) (zrf_c F3).1 (zrf_c F3).2
theorem zrO {T : zyT} {t : Int} (h : zyR zrL T g t) : ((g 214 16 = 2 ∧ g 214 17 = 6) ∨ (g 214 16 = 4 ∧ g 214 17 = 40)) ↔ zOp T t := by
  have a := zrW (c := 6) h (by decide) (by decide)
  have b := zrS (c := 40) h
  exact ⟨fun q => q.elim (fun q => Or.inl (a.1 q)) (fun q => Or.inr (b.1 q)), fun q => q.elim (fun q => Or.inl (a.2 q)) (fun q => Or.inr (b.2 q))⟩
/-- what opens -/
theorem zAn_8 (h : zAn 1 P g0 g) (ok : zl_ok 9 10 11 12 P) (s : (g 214 16 = 2 ∧ g 214 17 = 6) ∨ (g 214 16 = 4 ∧ g 214 17 = 40)) (c : 8 ≤ zl_of 9 12 P) : zAf 3 g0 g := fun T t0 hR hE => by
  obtain ⟨t, n, L, k1, k2, k3, k4⟩ := h T t0 hR hE
  obtain ⟨m, rfl⟩ := zAn_f k1 k4
  rw [zCd_8 ((zrO k1).1 s) (by rw [← (zrf_of P ok).2]; exact c)] at k3
  rw [k3]
  exact ⟨t, k1, rfl, k2.2.2.2⟩
theorem zAn_o (h : zAn 1 P g0 g) (ok : zl_ok 9 10 11 12 P) (s : (x = 9 ∧ g 214 16 = 2 ∧ g 214 17 = 6) ∨ (x = 12 ∧ g 214 16 = 4 ∧ g 214 17 = 40)) (c : ¬ 8 ≤ zl_of 9 12 P) (F2 : ∀ (a : Nat) (i : Int), ¬ a = 231 → ¬ (a = 214 ∧ (i = 30 ∨ i = 28)) → g2 a i = g a i) (F3 : zk_fr fr_M_reads g2 g3) (st : zstm g2 g3) : zAn 1 (x :: P) g0 g3 := fun T t0 hR hE => by
  obtain ⟨t, n, L, k1, k2, k3, k4⟩ := h T t0 hR hE
  obtain ⟨m, rfl⟩ := zAn_f k1 k4
  have y := (zrO k1).1 (by omega)
  have e : (if T.1 t = 2 then (6 : Int) else 0) = zrf x := by
    rcases s with ⟨rfl, s⟩ | ⟨rfl, s⟩
    · rw [if_pos ((zrW k1 (by decide) (by decide)).1 s).1]; rfl
    · have := ((zrS k1).1 s).1
      rw [if_neg (by omega)]; rfl
  rw [zCd_o y (by rw [← (zrf_of P ok).2]; exact c), e] at k3
  have r2 : zyR zrL T g2 t := zyR_mm k1 (fun a i w => F2 a i (by omega) (by omega))
  have n4 : ¬ T.1 t = 4 := by
    rcases y with y | y
    · have := y.1; omega
    · have := y.1; omega
  exact ⟨t + 1, m, L, st T t r2 hE n4, zEm_m (zEm_m k2 (F2 _ _ (by decide) (by decide)) (fun i => ⟨F2 _ _ (by decide) (by omega), F2 _ _ (by decide) (by omega)⟩)) (zrf_c F3).1 (zrf_c F3).2, k3, by omega⟩
/-- a comparison -/
theorem zAn_c (h : zAn 1 P g0 g) (n6 : ¬ (g 214 16 = 2 ∧ g 214 17 = 6)) (n4 : ¬ (g 214 16 = 4 ∧ g 214 17 = 40)) (cm : zmcn zCp v g g1) : (v = -1 → zmcn zCnd (-1) g0 g1) ∧ (¬ v = -1 → ∀ g2 : zi_M, zk_fr fr_S g1 g2 → zEm (zdl 9 P) g1 g2 → zAn 0 (zl_drop 9 P) g0 g2) := by
  refine ⟨fun c T t0 hR hE => ?_, fun c g2 F2 e2 T t0 hR hE => ?_⟩
  · obtain ⟨t, n, L, k1, k2, k3, k4⟩ := h T t0 hR hE
    obtain ⟨m, rfl⟩ := zAn_f k1 k4
    have no : ¬ zOp T t := fun q => ((zrO k1).2 q).elim n6 n4
    have r := cm T t k1 hE
    have z : ¬ (zCp T t).2.1 = 0 := fun z => by have := (r.1 z).1; omega
    rw [zCd_c no, zbd_n z] at k3
    rw [k3]
    exact ⟨fun q => absurd q z, fun _ => ⟨rfl, (r.2 z).2.1, zlo_t k2.2.2.2 (r.2 z).2.2⟩⟩
  · obtain ⟨t, n, L, k1, k2, k3, k4⟩ := h T t0 hR hE
    obtain ⟨m, rfl⟩ := zAn_f k1 k4
    have no : ¬ zOp T t := fun q => ((zrO k1).2 q).elim n6 n4
    have r := cm T t k1 hE
    have z : (zCp T t).2.1 = 0 := Classical.byContradiction (fun z => c (r.2 z).1)
    obtain ⟨_, r2, r3⟩ := r.1 z
    have b := zCp_b z
    have q := zrf_9 P
    rw [zCd_c no, zbd_y z, q.1, q.2, zpre_p, zpre_p] at k3
    refine ⟨_, m, _, zyR_set r2 F2, ?_, k3, by omega⟩
    rw [zex_a, zex_a, zex_dl (w := 9) (by decide)]
    exact zEm_t (zEm_t k2 r3) e2
theorem zAf_n (h : zAf x g0 g) (hx : ¬ x = 0) (hv : v = -1) (er : ∀ (r : Nat) (T : zyT) (t : Int), zyR r T g t → zyG T g1 x t) (le : zlo g g1) : zmcn zCnd v g0 g1 := fun T t0 hR hE => by
  obtain ⟨t, k1, k2, k3⟩ := h T t0 hR hE
  unfold zMr
  rw [k2]
  exact ⟨fun q => absurd q hx, fun _ => ⟨hv, er zrL T t k1, zlo_t k3 le⟩⟩
end
