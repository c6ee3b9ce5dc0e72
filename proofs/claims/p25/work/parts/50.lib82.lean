-- CONDITIONS: what waits, as both settle it
noncomputable def zsnP : List Int → List Int
  | [] => []
  | x :: t => if x = 6 then zsnP t else x :: t
noncomputable def zsnL : List Int → List (Int × Int)
  | [] => []
  | x :: t => if x = 6 then (9, 0) :: zsnL t else []
noncomputable def zsbP (l : Int) : List Int → List Int
  | [] => []
  | x :: t => if x = 5 ∨ (x = 4 ∧ l = 4) then zsbP l t else x :: t
noncomputable def zsbL (l : Int) : List Int → List (Int × Int)
  | [] => []
  | x :: t => if x = 5 ∨ (x = 4 ∧ l = 4) then ((if x = 5 then 10 else 11), 0) :: zsbL l t else []
theorem zsnP_y {t : List Int} : zsnP (6 :: t) = zsnP t ∧ zsnL (6 :: t) = (9, 0) :: zsnL t := ⟨if_pos rfl, if_pos rfl⟩
theorem zsnP_n {x : Int} {t : List Int} (h : ¬ x = 6) : zsnP (x :: t) = x :: t ∧ zsnL (x :: t) = [] := ⟨if_neg h, if_neg h⟩
theorem zsbP_y {l x : Int} {t : List Int} (h : x = 5 ∨ (x = 4 ∧ l = 4)) : zsbP l (x :: t) = zsbP l t ∧ zsbL l (x :: t) = ((if x = 5 then 10 else 11), 0) :: zsbL l t := ⟨if_pos h, if_pos h⟩
theorem zsbP_n {l x : Int} {t : List Int} (h : ¬ (x = 5 ∨ (x = 4 ∧ l = 4))) : zsbP l (x :: t) = x :: t ∧ zsbL l (x :: t) = [] := ⟨if_neg h, if_neg h⟩
theorem zsn_l : ∀ P : List Int, ((zsnL P).length : Int) + (zsnP P).length = P.length
  | [] => rfl
  | x :: t => by
    by_cases h : x = 6
    · subst h
      rw [zsnP_y.1, zsnP_y.2, List.length_cons, List.length_cons]
      have := zsn_l t
      omega
    · rw [(zsnP_n h).1, (zsnP_n h).2, List.length_nil]
      omega
theorem zsb_l (l : Int) : ∀ P : List Int, ((zsbL l P).length : Int) + (zsbP l P).length = P.length
  | [] => rfl
  | x :: t => by
    by_cases h : x = 5 ∨ (x = 4 ∧ l = 4)
    · rw [(zsbP_y h).1, (zsbP_y h).2, List.length_cons, List.length_cons]
      have := zsb_l l t
      omega
    · rw [(zsbP_n h).1, (zsbP_n h).2, List.length_nil]
      omega
theorem zsn_t : ∀ P : List Int, zl_top (zsnP P) ≠ 6
  | [] => show (0 : Int) ≠ 6 by decide
  | x :: t => by
    by_cases h : x = 6
    · subst h
      rw [zsnP_y.1]
      exact zsn_t t
    · rw [(zsnP_n h).1]
      exact h
theorem zsn_of : ∀ P : List Int, zl_of 0 0 (zsnP P) = zl_of 0 0 P
  | [] => rfl
  | x :: t => by
    by_cases h : x = 6
    · subst h
      rw [zsnP_y.1, zsn_of t]
      show _ = zl_of 0 0 t + (if (6 : Int) = 0 ∨ (6 : Int) = 0 then 1 else 0)
      rw [if_neg (by decide)]
      omega
    · rw [(zsnP_n h).1]
theorem zsb_of (l : Int) : ∀ P : List Int, zl_of 0 0 (zsbP l P) = zl_of 0 0 P
  | [] => rfl
  | x :: t => by
    by_cases h : x = 5 ∨ (x = 4 ∧ l = 4)
    · rw [(zsbP_y h).1, zsb_of l t]
      show _ = zl_of 0 0 t + (if x = 0 ∨ x = 0 then 1 else 0)
      rw [if_neg (by omega)]
      omega
    · rw [(zsbP_n h).1]
abbrev zOp (T : zyT) (t : Int) : Prop := (T.1 t = 2 ∧ T.2.1 t = 6) ∨ (T.1 t = 3 ∧ T.2.1 t = 40)
/-- a condition: d = 1 where a comparison is due; P waits -/
noncomputable def zCd (T : zyT) : Nat → Int → List Int → Int → zLR
  | 0, _, _, t => ([], 9, t)
  | n + 1, d, P, t => if d = 1 then (if zOp T t then (if 8 ≤ zl_of 6 0 P then ([], 3, t) else zCd T n 1 ((if T.1 t = 2 then 6 else 0) :: P) (t + 1)) else zbd (zCp T t) (fun u => zpre (zsnL P) (zCd T n 0 (zsnP P) u)))
    else if T.1 t = 2 ∧ (T.2.1 t = 5 ∨ T.2.1 t = 4) then zpre (zsbL (T.2.1 t) P) (zCd T n 1 (T.2.1 t :: zsbP (T.2.1 t) P) (t + 1))
    else if zl_of 0 0 P = 0 then (zsbL 4 P, 0, t)
    else if zSg T 41 t then zpre (zsbL 4 P ++ zsnL (zsbP 4 P).tail) (zCd T n 0 (zsnP (zsbP 4 P).tail) (t + 1))
    else ([], 1, t)
noncomputable def zCnd (T : zyT) (t : Int) : zLR := zCd T 402 1 [] t
section
variable {T : zyT} {n : Nat} {P : List Int} {t : Int}
theorem zCd_o (h : zOp T t) (c : ¬ 8 ≤ zl_of 6 0 P) : zCd T (n + 1) 1 P t = zCd T n 1 ((if T.1 t = 2 then 6 else 0) :: P) (t + 1) := by
  show (if (1 : Int) = 1 then _ else _) = _
  rw [if_pos rfl, if_pos h, if_neg c]
theorem zCd_8 (h : zOp T t) (c : 8 ≤ zl_of 6 0 P) : zCd T (n + 1) 1 P t = ([], 3, t) := by
  show (if (1 : Int) = 1 then _ else _) = _
  rw [if_pos rfl, if_pos h, if_pos c]
theorem zCd_c (h : ¬ zOp T t) : zCd T (n + 1) 1 P t = zbd (zCp T t) (fun u => zpre (zsnL P) (zCd T n 0 (zsnP P) u)) := by
  show (if (1 : Int) = 1 then _ else _) = _
  rw [if_pos rfl, if_neg h]
theorem zCd_a (h : T.1 t = 2 ∧ (T.2.1 t = 5 ∨ T.2.1 t = 4)) : zCd T (n + 1) 0 P t = zpre (zsbL (T.2.1 t) P) (zCd T n 1 (T.2.1 t :: zsbP (T.2.1 t) P) (t + 1)) := by
  show (if (0 : Int) = 1 then _ else _) = _
  rw [if_neg (by decide), if_pos h]
theorem zCd_e (h : ¬ (T.1 t = 2 ∧ (T.2.1 t = 5 ∨ T.2.1 t = 4))) (c : zl_of 0 0 P = 0) : zCd T (n + 1) 0 P t = (zsbL 4 P, 0, t) := by
  show (if (0 : Int) = 1 then _ else _) = _
  rw [if_neg (by decide), if_neg h, if_pos c]
theorem zCd_p (c : ¬ zl_of 0 0 P = 0) (s : zSg T 41 t) : zCd T (n + 1) 0 P t = zpre (zsbL 4 P ++ zsnL (zsbP 4 P).tail) (zCd T n 0 (zsnP (zsbP 4 P).tail) (t + 1)) := by
  show (if (0 : Int) = 1 then _ else _) = _
  rw [if_neg (by decide), if_neg (fun q => by have := q.1; have := s.1; omega), if_neg c, if_pos s]
theorem zCd_1 (h : ¬ (T.1 t = 2 ∧ (T.2.1 t = 5 ∨ T.2.1 t = 4))) (c : ¬ zl_of 0 0 P = 0) (s : ¬ zSg T 41 t) : zCd T (n + 1) 0 P t = ([], 1, t) := by
  show (if (0 : Int) = 1 then _ else _) = _
  rw [if_neg (by decide), if_neg h, if_neg c, if_neg s]
end
/-- the class behind openings -/
noncomputable def zoS (T : zyT) (P : List Int) (t v : Int) (g g1 : zi_M) : Prop := (v = 1 ∧ ∃ (P' : List Int) (t' : Int) (k : Nat), zyC T g1 t' ∧ zB P' g1 ∧ (∀ n : Nat, zCd T (n + k) 1 P t = zCd T n 1 P' t') ∧ ¬ zOp T t' ∧ t' = t + (k : Int) ∧ (P'.length : Int) = P.length + (k : Int)) ∨ (v = 0 ∧ ∃ (t' : Int) (k : Nat), zyF T g1 3 t' ∧ (∀ n : Nat, zCd T (n + k + 1) 1 P t = ([], 3, t')) ∧ t' = t + (k : Int) ∧ t' < T.2.2.2)
/-- the class behind what is closed -/
noncomputable def zclS (T : zyT) (P : List Int) (t : Int) (g g1 : zi_M) : Prop := ∃ (P' : List Int) (t' : Int) (L : List (Int × Int)) (k : Nat), zyC T g1 t' ∧ zB P' g1 ∧ zEa L g g1 ∧ (∀ n : Nat, zCd T (n + k) 0 P t = zpre L (zCd T n 0 P' t')) ∧ zl_top P' ≠ 6 ∧ ¬ (1 ≤ zl_of 0 0 P' ∧ zSg T 41 t') ∧ t' = t + (k : Int) ∧ g1 196 2 + (P'.length : Int) ≤ t'
theorem zB_u {P P' : List Int} {g : zi_M} (h : zB P g) (h' : zB P' g) : P = P' := zql_u h.ql h'.ql (by have := h.q1; have := h'.q1; omega)
theorem zEa_len {L : List (Int × Int)} {g g' : zi_M} (h : zEa L g g') : g' 196 2 = g 196 2 + (L.length : Int) := h.1
theorem zsb_top {l : Int} (hl : l = 4 ∨ l = 5) : ∀ {P : List Int}, zl_ok 6 5 4 0 P → zl_top P ≠ 6 → zl_top (zsbP l P) ≠ 6 ∧ zl_top (zsbP l P) ≠ 5 ∧ (l = 4 → zl_top (zsbP l P) ≠ 4)
  | [], _, _ => ⟨show (0 : Int) ≠ 6 by decide, show (0 : Int) ≠ 5 by decide, fun _ => show (0 : Int) ≠ 4 by decide⟩
  | x :: t, ok, ht => by
    by_cases h : x = 5 ∨ (x = 4 ∧ l = 4)
    · rw [(zsbP_y h).1]
      refine zsb_top hl ok.1 ?_
      rcases ok.2 with q | q | q | q
      · exact absurd q ht
      · omega
      · exact q.2.1
      · exact q.2.1
    · rw [(zsbP_n h).1]
      exact ⟨ht, fun q => h (Or.inl q), fun e q => h (Or.inr ⟨q, e⟩)⟩
theorem zsb_ok {l : Int} : ∀ {P : List Int}, zl_ok 6 5 4 0 P → zl_ok 6 5 4 0 (zsbP l P)
  | [], _ => trivial
  | x :: t, ok => by
    by_cases h : x = 5 ∨ (x = 4 ∧ l = 4)
    · rw [(zsbP_y h).1]
      exact zsb_ok ok.1
    · rw [(zsbP_n h).1]
      exact ok
theorem zsb_0 {P : List Int} (ok : zl_ok 6 5 4 0 P) (ht : zl_top P ≠ 6) (c : 1 ≤ zl_of 0 0 P) : ∃ t : List Int, zsbP 4 P = 0 :: t := by
  have k := zsb_top (Or.inl rfl) ok ht
  have o := zsb_ok (l := 4) ok
  have e := zsb_of 4 P
  cases q : zsbP 4 P with
  | nil =>
    rw [q] at e
    have e' : (0 : Int) = zl_of 0 0 P := e
    omega
  | cons x t =>
    rw [q] at k o
    have hx : x ≠ 6 ∧ x ≠ 5 ∧ x ≠ 4 := ⟨k.1, k.2.1, k.2.2 rfl⟩
    rcases o.2 with z | z | z | z
    · exact absurd z hx.1
    · exact ⟨t, by rw [z]⟩
    · exact absurd z.1 hx.2.1
    · exact absurd z.1 hx.2.2

noncomputable def zkF (g0 g : zi_M) : Prop := ∀ (T : zyT) (t0 : Int), zyC T g0 t0 → zyE T → g0 196 2 ≤ t0 → ¬ (zCnd T t0).2.1 = 0 ∧ zyF T g (zCnd T t0).2.1 (zCnd T t0).2.2
noncomputable def zkD (l3 : Int) (P : List Int) (g0 g : zi_M) : Prop := ∀ (T : zyT) (t0 : Int), zyC T g0 t0 → zyE T → g0 196 2 ≤ t0 → ∃ (t : Int) (n : Nat) (L : List (Int × Int)), zyC T g t ∧ zEa L g0 g ∧ zCnd T t0 = zpre L (zCd T n 1 P t) ∧ T.2.2.2 - t < n ∧ l3 ≤ t ∧ g 196 2 + (P.length : Int) ≤ t
noncomputable def zkM (l3 : Int) (P : List Int) (g0 g : zi_M) : Prop := ∀ (T : zyT) (t0 : Int), zyC T g0 t0 → zyE T → g0 196 2 ≤ t0 → ∃ (t : Int) (n : Nat) (L : List (Int × Int)), zyC T g t ∧ zEa L g0 g ∧ zCnd T t0 = zpre L (zCd T (n + 1) 0 P t) ∧ T.2.2.2 - t < ((n + 1 : Nat) : Int) ∧ l3 ≤ t ∧ ¬ (1 ≤ zl_of 0 0 P ∧ zSg T 41 t) ∧ g 196 2 + (P.length : Int) ≤ t
section
variable {g0 g g1 g2 g3 g6 g9 g12 : zi_M} {v w l3 : Int} {P P6 P12 : List Int}
theorem zkD_0 {g g3 : zi_M} (e : ∀ (a : Nat) (i : Int), 191 ≤ a → a ≤ 198 → g3 a i = g a i) : zkD 0 [] g g3 := fun T t0 hC hE hs => by
  have b := zyC_b hC hE
  refine ⟨t0, 402, [], zyC_m hC (fun a i h1 h2 => e a i h1 (by omega)), zEa_m zEa_0 (fun a i h1 h2 => e a i (by omega) h2), rfl, by omega, b.1, ?_⟩
  rw [e 196 2 (by decide) (by decide)]
  show _ + (0 : Int) ≤ _
  omega
theorem zk_open (h : zkD l3 P g0 g) (z : zB P g) (o : ∀ (T : zyT) (t : Int) (P : List Int), zyC T g t → zyE T → zB P g → zoS T P t v g g1) (c : v = 0) : zkF g0 g1 := fun T t0 hC hE hs => by
  obtain ⟨t, n, L, k1, k2, k3, k4, k5, k6⟩ := h T t0 hC hE hs
  rcases o T t P k1 hE z with ⟨e, _⟩ | ⟨_, t', k, o1, o2, o3, o4⟩
  · omega
  · obtain ⟨m, rfl⟩ : ∃ m : Nat, n = m + k + 1 := ⟨n - k - 1, by omega⟩
    rw [o2 m] at k3
    rw [k3]
    exact ⟨show ¬ (3 : Int) = 0 by decide, o1⟩
/-- behind the openings -/
theorem zk_o2 (h : zkD l3 P g0 g) (z : zB P g) (o : ∀ (T : zyT) (t : Int) (P : List Int), zyC T g t → zyE T → zB P g → zoS T P t v g g1) (c : ¬ v = 0) (f : ∀ (a : Nat) (i : Int), 196 ≤ a → a ≤ 198 → g1 a i = g a i) (z6 : zB P6 g1) : ∀ (T : zyT) (t0 : Int), zyC T g0 t0 → zyE T → g0 196 2 ≤ t0 → ∃ (t : Int) (n : Nat) (L : List (Int × Int)), zyC T g1 t ∧ zEa L g0 g1 ∧ zCnd T t0 = zpre L (zbd (zCp T t) (fun u => zpre (zsnL P6) (zCd T n 0 (zsnP P6) u))) ∧ T.2.2.2 - t < ((n + 1 : Nat) : Int) ∧ l3 ≤ t ∧ g1 196 2 + (P6.length : Int) ≤ t := fun T t0 hC hE hs => by
  obtain ⟨t, n, L, k1, k2, k3, k4, k5, k6⟩ := h T t0 hC hE hs
  rcases o T t P k1 hE z with ⟨_, P', t', k, o1, o2, o3, o4, o5, o6⟩ | ⟨e, _⟩
  · have e6 := zB_u z6 o2
    subst e6
    have b := zyC_b o1 hE
    obtain ⟨m, rfl⟩ : ∃ m : Nat, n = (m + 1) + k := ⟨n - k - 1, by omega⟩
    rw [o3 (m + 1), zCd_c o4] at k3
    refine ⟨t', m, L, o1, zEa_m k2 f, k3, by omega, by omega, ?_⟩
    rw [f 196 2 (by decide) (by decide)]
    omega
  · exact absurd e c
theorem zk_cmp (h : zkD l3 P g0 g) (z : zB P g) (o : ∀ (T : zyT) (t : Int) (P : List Int), zyC T g t → zyE T → zB P g → zoS T P t v g g6) (c : ¬ v = 0) (f : ∀ (a : Nat) (i : Int), 196 ≤ a → a ≤ 198 → g6 a i = g a i) (z6 : zB P6 g6) (cm : zcon zCp w g6 g9) (c8 : w = 0) : zkF g0 g9 := fun T t0 hC hE hs => by
  obtain ⟨t, n, L, k1, k2, k3, k4, k5, k6⟩ := zk_o2 h z o c f z6 T t0 hC hE hs
  have r := cm T t k1 hE (by omega)
  have y : ¬ (zCp T t).2.1 = 0 := fun y => by have := (r.1 y).1; omega
  rw [k3, zbd_n y]
  exact ⟨y, (r.2 y).2⟩
theorem zk_mid (h : zkD l3 P g0 g) (z : zB P g) (o : ∀ (T : zyT) (t : Int) (P : List Int), zyC T g t → zyE T → zB P g → zoS T P t v g g6) (c : ¬ v = 0) (f : ∀ (a : Nat) (i : Int), 196 ≤ a → a ≤ 198 → g6 a i = g a i) (z6 : zB P6 g6) (cm : zcon zCp w g6 g9) (c8 : ¬ w = 0) (z9 : zB P6 g9) (cl : ∀ (T : zyT) (t : Int) (P : List Int), zyC T g9 t → zyE T → zB P g9 → g9 196 2 + (P.length : Int) ≤ t → ∃ g2 : zi_M, zEa (zsnL P) g9 g2 ∧ zclS T (zsnP P) t g2 g12) (z12 : zB P12 g12) : zkM (l3 + 1) P12 g0 g12 := fun T t0 hC hE hs => by
  obtain ⟨t, n, L, k1, k2, k3, k4, k5, k6⟩ := zk_o2 h z o c f z6 T t0 hC hE hs
  have r := cm T t k1 hE (by omega)
  have y : (zCp T t).2.1 = 0 := Classical.byContradiction (fun y => c8 (r.2 y).1)
  obtain ⟨_, r2, r3⟩ := r.1 y
  have b := zCp_b y
  have n9 := zEa_len r3
  obtain ⟨g2, e2, P', t', L', k, d1, d2, d3, d4, d5, d6, d7, d8⟩ := cl T _ P6 r2 hE z9 (by omega)
  have e12 := zB_u z12 d2
  subst e12
  have b12 := zyC_b d1 hE
  rw [zbd_y y] at k3
  obtain ⟨m, rfl⟩ : ∃ m : Nat, n = (m + 1) + k := ⟨n - k - 1, by omega⟩
  rw [d4 (m + 1), zpre_p, zpre_p, zpre_p] at k3
  exact ⟨t', m, L ++ ((zCp T t).1 ++ (zsnL P6 ++ L')), d1, zEa_t k2 (zEa_t r3 (zEa_t e2 d3)), by rw [k3, List.append_assoc, List.append_assoc], by omega, by omega, d6, d8⟩
/-- and, or -/
theorem zk_and {g22 g25 g28 : zi_M} (h : zkM l3 P g0 g) (z : zB P g) (hw : w = 4 ∨ w = 5) (d2 : g 191 4 < g 191 3 → ¬ g 192 (g 191 4) = 2 → w = -1) (d3 : g 191 4 < g 191 3 → g 192 (g 191 4) = 2 → w = g 193 (g 191 4)) (s : ∀ P : List Int, zB P g → zB (zsbP w P) g22 ∧ (g 196 2 + ((zsbL w P).length : Int) ≤ 400 → zEa (zsbL w P) g g22)) (f22 : ∀ (a : Nat) (i : Int), 191 ≤ a → a ≤ 194 → g22 a i = g a i) (f25 : ∀ (a : Nat) (i : Int), 191 ≤ a → a ≤ 198 → g25 a i = g22 a i) (st : zstp g25 g28) (F28 : zk_fr fr_Tokens_step g25 g28) : zkD l3 (w :: zsbP w P) g0 g28 := fun T t0 hC hE hs => by
  obtain ⟨t, n, L, k1, k2, k3, k4, k5, k6, k7⟩ := h T t0 hC hE hs
  have a := zyC_a k1
  rw [a.1] at d2 d3
  rw [a.2.1] at d3
  have e1 : T.1 t = 2 := Classical.byContradiction (fun q => by have := d2 a.2.2.2 q; omega)
  have e2 := d3 a.2.2.2 e1
  have b := zyC_b k1 hE
  have sl := zsb_l w P
  have E := (s P z).2 (by omega)
  have n22 := zEa_len E
  rw [zCd_a ⟨e1, by omega⟩, ← e2, zpre_p] at k3
  have c25 : zyC T g25 t := zyC_m k1 (fun a i h1 h2 => by rw [f25 a i h1 (by omega), f22 a i h1 h2])
  have f28 := zsf_196 F28
  refine ⟨t + 1, n, L ++ zsbL w P, st T t c25 hE (by omega), zEa_m (zEa_m (zEa_t k2 E) (fun a i h1 h2 => f25 a i (by omega) h2)) f28, k3, by omega, by omega, ?_⟩
  rw [f28 196 2 (by decide) (by decide), f25 196 2 (by decide) (by decide), n22, List.length_cons]
  omega
/-- at the end of a condition -/
theorem zk_end {x y : Int} (h : zkM l3 P g0 g) (z : zB P g) (b8 : g 191 4 < g 191 3 → g 192 (g 191 4) = 2 → x = g 193 (g 191 4)) (n5 : ¬ x = 5) (b9 : g 191 4 < g 191 3 → g 192 (g 191 4) = 2 → y = g 193 (g 191 4)) (n4 : ¬ y = 4) : ∀ (T : zyT) (t0 : Int), zyC T g0 t0 → zyE T → g0 196 2 ≤ t0 → ∃ (t : Int) (L : List (Int × Int)), zyC T g t ∧ zEa L g0 g ∧ g 196 2 + (P.length : Int) ≤ t ∧ (zl_of 0 0 P = 0 → zCnd T t0 = (L ++ zsbL 4 P, 0, t)) ∧ (¬ zl_of 0 0 P = 0 → zCnd T t0 = (L, 1, t)) := fun T t0 hC hE hs => by
  obtain ⟨t, n, L, k1, k2, k3, k4, k5, k6, k7⟩ := h T t0 hC hE hs
  have a := zyC_a k1
  rw [a.1, a.2.1] at b8 b9
  have o0 := zl_of0 0 0 P
  have nk : ¬ (T.1 t = 2 ∧ (T.2.1 t = 5 ∨ T.2.1 t = 4)) := fun q => by
    have := b8 a.2.2.2 q.1
    have := b9 a.2.2.2 q.1
    omega
  refine ⟨t, L, k1, k2, k7, fun q => ?_, fun q => ?_⟩
  · rw [k3, zCd_e nk q]; rfl
  · rw [k3, zCd_1 nk q (fun w => k6 ⟨by omega, w⟩)]
    unfold zpre
    rw [List.append_nil]
noncomputable def zkE (P : List Int) (g0 g : zi_M) : Prop := ∀ (T : zyT) (t0 : Int), zyC T g0 t0 → zyE T → g0 196 2 ≤ t0 → ∃ (t : Int) (L : List (Int × Int)), zyC T g t ∧ zEa L g0 g ∧ g 196 2 + (P.length : Int) ≤ t ∧ (zl_of 0 0 P = 0 → zCnd T t0 = (L ++ zsbL 4 P, 0, t)) ∧ (¬ zl_of 0 0 P = 0 → zCnd T t0 = (L, 1, t))
theorem zkE_y (h : zkE P g0 g) (z : zB P g) (c : zl_of 0 0 P = 0) (s : ∀ P : List Int, zB P g → zB (zsbP 4 P) g1 ∧ (g 196 2 + ((zsbL 4 P).length : Int) ≤ 400 → zEa (zsbL 4 P) g g1)) (f : ∀ (a : Nat) (i : Int), 191 ≤ a → a ≤ 194 → g1 a i = g a i) : zcon zCnd 1 g0 g1 := fun T t0 hC hE hs => by
  obtain ⟨t, L, k1, k2, k3, k4, _⟩ := h T t0 hC hE hs
  rw [k4 c]
  have b := zyC_b k1 hE
  have sl := zsb_l 4 P
  exact zCr_y (zyC_m k1 f) (zEa_t k2 ((s P z).2 (by omega)))
theorem zkE_n (h : zkE P g0 g) (c : ¬ zl_of 0 0 P = 0) (r : ∀ (T : zyT) (t : Int), zyC T g t → zyF T g1 1 t) (hw : w = 0) : zcon zCnd w g0 g1 := fun T t0 hC hE hs => by
  obtain ⟨t, L, k1, k2, k3, _, k5⟩ := h T t0 hC hE hs
  rw [k5 c, hw]
  exact zCr_n (f := 1) (by decide) (r T t k1)
theorem zkF_c (h : zkF g0 g) : zcon zCnd 0 g0 g := fun T t0 hC hE hs => by
  have k := h T t0 hC hE hs
  exact ⟨fun z => absurd z k.1, fun _ => ⟨rfl, k.2⟩⟩
theorem zkD_x (h : zkD l3 P g0 g) (c : 400 < l3) : zkE P g0 g := fun T t0 hC hE hs => by
  obtain ⟨t, n, L, k1, k2, k3, k4, k5, k6⟩ := h T t0 hC hE hs
  have b := zyC_b k1 hE
  omega
end
