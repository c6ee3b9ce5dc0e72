-- THE LAW as it is read: codes, the fault (0: none), the token behind (or the faulty one)
abbrev zLR : Type := List (Int × Int) × Int × Int
noncomputable def zpre (L : List (Int × Int)) (r : zLR) : zLR := (L ++ r.1, r.2.1, r.2.2)
noncomputable def zbd (r : zLR) (k : Int → zLR) : zLR := if r.2.1 = 0 then zpre r.1 (k r.2.2) else r
noncomputable def zLat (l : Int) : List (Int × Int) := if l = -1 then [] else [(l, 0)]
noncomputable def zUn (T : zyT) (t : Int) : zLR := if T.1 t = 1 then ([(0, T.2.1 t)], 0, t + 1) else if T.1 t = 2 ∧ 7 ≤ T.2.1 t then ([(1, T.2.1 t - 7)], 0, t + 1) else ([], 1, t)
noncomputable def zPt (T : zyT) (t : Int) : zLR := if T.1 t = 1 then (if T.2.1 t = 0 then ([], 2, t) else ([(5, T.2.1 t)], 0, t + 1)) else ([], 1, t)
abbrev zSg (T : zyT) (c t : Int) : Prop := T.1 t = 3 ∧ T.2.1 t = c
/-- behind a unit: what is to be multiplied, parted, added; l waits (-1: nothing) -/
noncomputable def zFl (T : zyT) : Nat → Int → Int → zLR
  | 0, _, t => ([], 9, t)
  | n + 1, l, t => if zSg T 42 t then zbd (zUn T (t + 1)) (fun u => zpre [(4, 0)] (zFl T n l u))
    else if zSg T 47 t then zbd (zPt T (t + 1)) (fun u => zFl T n l u)
    else if zSg T 43 t then zpre (zLat l) (zbd (zUn T (t + 1)) (fun u => zFl T n 2 u))
    else if zSg T 45 t then zpre (zLat l) (zbd (zUn T (t + 1)) (fun u => zFl T n 3 u))
    else (zLat l, 0, t)
noncomputable def zSu (T : zyT) (t : Int) : zLR := zbd (zUn T t) (fun u => zFl T 402 (-1) u)
noncomputable def zop (T : zyT) (t : Int) : Int := if zSg T 60 t then 6 else if zSg T 61 t then 7 else if zSg T 62 t then 8 else -1
noncomputable def zCp (T : zyT) (t : Int) : zLR := zbd (zSu T t) (fun u => if zop T u = -1 then ([], 1, u) else zbd (zSu T (u + 1)) (fun w => ([(zop T u, 0)], 0, w)))
theorem zpre_p {L M : List (Int × Int)} {r : zLR} : zpre L (zpre M r) = zpre (L ++ M) r := by unfold zpre; rw [List.append_assoc]
theorem zpre_0 {r : zLR} : zpre [] r = r := rfl
theorem zpre_e {L : List (Int × Int)} {r : zLR} : (zpre L r).2 = r.2 := rfl
theorem zpre_b {L : List (Int × Int)} {r : zLR} {k : Int → zLR} : zbd (zpre L r) k = zpre L (zbd r k) := by
  unfold zbd
  show (if r.2.1 = 0 then _ else _) = _
  by_cases h : r.2.1 = 0
  · rw [if_pos h, if_pos h, zpre_p]
    rfl
  · rw [if_neg h, if_neg h]
theorem zbd_y {r : zLR} {k : Int → zLR} (h : r.2.1 = 0) : zbd r k = zpre r.1 (k r.2.2) := if_pos h
theorem zbd_n {r : zLR} {k : Int → zLR} (h : ¬ r.2.1 = 0) : zbd r k = r := if_neg h
section
variable {T : zyT} {t l : Int} {n : Nat}
theorem zUn_1 (h : T.1 t = 1) : zUn T t = ([(0, T.2.1 t)], 0, t + 1) := if_pos h
theorem zUn_2 (h : T.1 t = 2) (k : 7 ≤ T.2.1 t) : zUn T t = ([(1, T.2.1 t - 7)], 0, t + 1) := by unfold zUn; rw [if_neg (by omega), if_pos ⟨h, k⟩]
theorem zUn_0 (h : ¬ T.1 t = 1) (k : ¬ (T.1 t = 2 ∧ 7 ≤ T.2.1 t)) : zUn T t = ([], 1, t) := by unfold zUn; rw [if_neg h, if_neg k]
theorem zUn_b : (zUn T t).2.1 = 0 → (zUn T t).2.2 = t + 1 ∧ ((zUn T t).1.length : Int) = 1 ∧ (T.1 t = 1 ∨ T.1 t = 2) := fun h => by
  by_cases a : T.1 t = 1
  · rw [zUn_1 a]; exact ⟨rfl, rfl, Or.inl a⟩
  · by_cases b : T.1 t = 2 ∧ 7 ≤ T.2.1 t
    · rw [zUn_2 b.1 b.2]; exact ⟨rfl, rfl, Or.inr b.1⟩
    · rw [zUn_0 a b] at h
      exact absurd h (show ¬ (1 : Int) = 0 by decide)
theorem zPt_1 (h : T.1 t = 1) (k : ¬ T.2.1 t = 0) : zPt T t = ([(5, T.2.1 t)], 0, t + 1) := by unfold zPt; rw [if_pos h, if_neg k]
theorem zPt_2 (h : T.1 t = 1) (k : T.2.1 t = 0) : zPt T t = ([], 2, t) := by unfold zPt; rw [if_pos h, if_pos k]
theorem zPt_0 (h : ¬ T.1 t = 1) : zPt T t = ([], 1, t) := if_neg h
theorem zPt_b : (zPt T t).2.1 = 0 → (zPt T t).2.2 = t + 1 ∧ ((zPt T t).1.length : Int) = 1 ∧ T.1 t = 1 := fun h => by
  by_cases a : T.1 t = 1
  · by_cases b : T.2.1 t = 0
    · rw [zPt_2 a b] at h
      exact absurd h (show ¬ (2 : Int) = 0 by decide)
    · rw [zPt_1 a b]; exact ⟨rfl, rfl, a⟩
  · rw [zPt_0 a] at h
    exact absurd h (show ¬ (1 : Int) = 0 by decide)
theorem zSg_n {c d : Int} (h : zSg T c t) (k : ¬ c = d) : ¬ zSg T d t := fun q => k (h.2.symm.trans q.2)
theorem zFl_m (h : zSg T 42 t) : zFl T (n + 1) l t = zbd (zUn T (t + 1)) (fun u => zpre [(4, 0)] (zFl T n l u)) := if_pos h
theorem zFl_d (h : zSg T 47 t) : zFl T (n + 1) l t = zbd (zPt T (t + 1)) (fun u => zFl T n l u) := by
  show (if _ then _ else _) = _
  rw [if_neg (zSg_n h (by decide)), if_pos h]
theorem zFl_p (h : zSg T 43 t) : zFl T (n + 1) l t = zpre (zLat l) (zbd (zUn T (t + 1)) (fun u => zFl T n 2 u)) := by
  show (if _ then _ else _) = _
  rw [if_neg (zSg_n h (by decide)), if_neg (zSg_n h (by decide)), if_pos h]
theorem zFl_s (h : zSg T 45 t) : zFl T (n + 1) l t = zpre (zLat l) (zbd (zUn T (t + 1)) (fun u => zFl T n 3 u)) := by
  show (if _ then _ else _) = _
  rw [if_neg (zSg_n h (by decide)), if_neg (zSg_n h (by decide)), if_neg (zSg_n h (by decide)), if_pos h]
theorem zFl_e (h1 : ¬ zSg T 42 t) (h2 : ¬ zSg T 47 t) (h3 : ¬ zSg T 43 t) (h4 : ¬ zSg T 45 t) : zFl T (n + 1) l t = (zLat l, 0, t) := by
  show (if _ then _ else _) = _
  rw [if_neg h1, if_neg h2, if_neg h3, if_neg h4]
/-- what waits comes before all but products -/
theorem zFl_l (h1 : ¬ zSg T 42 t) (h2 : ¬ zSg T 47 t) : zFl T (n + 1) l t = zpre (zLat l) (zFl T (n + 1) (-1) t) := by
  by_cases h3 : zSg T 43 t
  · rw [zFl_p h3, zFl_p h3]; rfl
  · by_cases h4 : zSg T 45 t
    · rw [zFl_s h4, zFl_s h4]; rfl
    · rw [zFl_e h1 h2 h3 h4, zFl_e h1 h2 h3 h4]
      unfold zpre zLat
      rw [if_pos rfl, List.append_nil]
end
theorem zLat_b (l : Int) : ((zLat l).length : Int) = if l = -1 then 0 else 1 := by
  unfold zLat
  split <;> rfl
-- codes in a row
noncomputable def zEl (o a : Int → Int) : List (Int × Int) → Int → Prop
  | [], _ => True
  | x :: L, s => (o s = x.1 ∧ a s = x.2) ∧ zEl o a L (s + 1)
theorem zEl_c {o a o' a' : Int → Int} : ∀ {L : List (Int × Int)} {s : Int}, zEl o a L s → (∀ i : Int, s ≤ i → i < s + (L.length : Int) → o' i = o i ∧ a' i = a i) → zEl o' a' L s
  | [], _, _, _ => trivial
  | x :: L, s, h, e => by
    rw [List.length_cons] at e
    have q := e s (Int.le_refl _) (by omega)
    exact ⟨⟨q.1.trans h.1.1, q.2.trans h.1.2⟩, zEl_c h.2 (fun i i0 i1 => e i (by omega) (by omega))⟩
theorem zEl_a {o a : Int → Int} : ∀ {L M : List (Int × Int)} {s : Int}, zEl o a L s → zEl o a M (s + (L.length : Int)) → zEl o a (L ++ M) s
  | [], M, s, _, k => by
    have : s + ((([] : List (Int × Int)).length : Nat) : Int) = s := by show s + (0 : Int) = s; omega
    rw [this] at k
    exact k
  | x :: L, M, s, h, k => by
    rw [List.length_cons] at k
    exact ⟨h.1, zEl_a h.2 (by rw [show s + 1 + (L.length : Int) = s + ((L.length + 1 : Nat) : Int) by omega]; exact k)⟩
/-- the class has put codes -/
noncomputable def zEa (L : List (Int × Int)) (g g' : zi_M) : Prop := g' 196 2 = g 196 2 + (L.length : Int) ∧ zEl (g' 197) (g' 198) L (g 196 2) ∧ ∀ i : Int, i < g 196 2 → g' 197 i = g 197 i ∧ g' 198 i = g 198 i
theorem zEa_0 {g : zi_M} : zEa [] g g := ⟨by show _ = _ + (0 : Int); omega, trivial, fun _ _ => ⟨rfl, rfl⟩⟩
theorem zEa_t {L M : List (Int × Int)} {g g1 g2 : zi_M} (h : zEa L g g1) (k : zEa M g1 g2) : zEa (L ++ M) g g2 := by
  obtain ⟨h1, h2, h3⟩ := h
  obtain ⟨k1, k2, k3⟩ := k
  refine ⟨by rw [List.length_append]; omega, zEl_a (zEl_c h2 (fun i i0 i1 => k3 i (by omega))) (by rw [← h1]; exact k2), fun i i1 => ?_⟩
  have a := h3 i i1
  have b := k3 i (by omega)
  exact ⟨b.1.trans a.1, b.2.trans a.2⟩
theorem zEa_m {L : List (Int × Int)} {g g1 g2 : zi_M} (h : zEa L g g1) (e : ∀ (a : Nat) (i : Int), 196 ≤ a → a ≤ 198 → g2 a i = g1 a i) : zEa L g g2 := by
  have r : ∀ a : Nat, 196 ≤ a → a ≤ 198 → g2 a = g1 a := fun a h1 h2 => funext (fun i => e a i h1 h2)
  unfold zEa at *
  rw [r 196 (by decide) (by decide), r 197 (by decide) (by decide), r 198 (by decide) (by decide)]
  exact h
theorem zEa_s {L : List (Int × Int)} {g g0 g1 : zi_M} (h : zEa L g0 g1) (e : ∀ (a : Nat) (i : Int), 196 ≤ a → a ≤ 198 → g0 a i = g a i) : zEa L g g1 := by
  have r : ∀ a : Nat, 196 ≤ a → a ≤ 198 → g0 a = g a := fun a h1 h2 => funext (fun i => e a i h1 h2)
  unfold zEa at *
  rw [r 196 (by decide) (by decide), r 197 (by decide) (by decide), r 198 (by decide) (by decide)] at h
  exact h
theorem zEa_1 {g g3 g5 g6 : zi_M} {x y : Int} (e3 : g3 = zi_u g 197 (g 196 2) x) (e5 : g5 = zi_u g3 198 (g3 196 2) y) (e6 : g6 = zi_u g5 196 2 (g5 196 2 + 1)) : zEa [(x, y)] g g6 := by
  have a3 : g3 196 2 = g 196 2 := by rw [e3, zi_u_ne (by decide)]
  have a5 : g5 196 2 = g 196 2 := by rw [e5, zi_u_ne (by decide), a3]
  refine ⟨by rw [e6, zi_u_eq, a5]; rfl, ⟨⟨?_, ?_⟩, trivial⟩, fun i hi => ⟨?_, ?_⟩⟩
  · rw [e6, zi_u_ne (by decide), e5, zi_u_ne (by decide), e3, zi_u_eq]
  · rw [e6, zi_u_ne (by decide), e5, a3, zi_u_eq]
  · rw [e6, zi_u_ne (by decide), e5, zi_u_ne (by decide), e3, zi_u_ni (by omega)]
  · rw [e6, zi_u_ne (by decide), e5, a3, zi_u_ni (by omega), e3, zi_u_ne (by decide)]
/-- what the class has read -/
noncomputable def zCr (T : zyT) (r : zLR) (v : Int) (g g' : zi_M) : Prop := (r.2.1 = 0 → v = 1 ∧ zyC T g' r.2.2 ∧ zEa r.1 g g') ∧ (¬ r.2.1 = 0 → v = 0 ∧ zyF T g' r.2.1 r.2.2)
theorem zCr_y {T : zyT} {L : List (Int × Int)} {t : Int} {g g' : zi_M} (c : zyC T g' t) (e : zEa L g g') : zCr T (L, 0, t) 1 g g' := ⟨fun _ => ⟨rfl, c, e⟩, fun h => absurd rfl h⟩
theorem zCr_n {T : zyT} {L : List (Int × Int)} {f t : Int} {g g' : zi_M} (hf : ¬ f = 0) (c : zyF T g' f t) : zCr T (L, f, t) 0 g g' := ⟨fun h => absurd h hf, fun _ => ⟨rfl, c⟩⟩
theorem zyC_b {T : zyT} {g : zi_M} {t : Int} (h : zyC T g t) (hE : zyE T) : 0 ≤ t ∧ t < T.2.2.2 ∧ T.2.2.2 ≤ 401 ∧ (¬ T.1 t = 4 → t ≤ 399) := by
  obtain ⟨-, ⟨-, h6, h7⟩, -⟩ := h
  have c := hE.1.2
  refine ⟨h6, h7, c, fun q => ?_⟩
  refine Classical.byContradiction (fun w => q ?_)
  rw [show t = T.2.2.2 - 1 by omega]
  exact hE.2.1
/-- how much is read: no more codes than tokens -/
theorem zFl_b {T : zyT} : ∀ (n : Nat) (l t : Int), (zFl T n l t).2.1 = 0 → t ≤ (zFl T n l t).2.2 ∧ ((zFl T n l t).1.length : Int) ≤ (zFl T n l t).2.2 - t + (if l = -1 then 0 else 1)
  | 0, l, t, h => absurd h (show ¬ (9 : Int) = 0 by decide)
  | n + 1, l, t, h => by
    by_cases h1 : zSg T 42 t
    · rw [zFl_m h1] at h ⊢
      by_cases c : (zUn T (t + 1)).2.1 = 0
      · rw [zbd_y c] at h ⊢
        have b := zUn_b c
        have i := zFl_b n l (zUn T (t + 1)).2.2 h
        show t ≤ (zFl T n l (zUn T (t + 1)).2.2).2.2 ∧ (((zUn T (t + 1)).1 ++ ([(4, 0)] ++ (zFl T n l (zUn T (t + 1)).2.2).1)).length : Int) ≤ (zFl T n l (zUn T (t + 1)).2.2).2.2 - t + _
        rw [List.length_append, List.length_append, List.length_cons, List.length_nil]
        omega
      · rw [zbd_n c] at h
        exact absurd h c
    · by_cases h2 : zSg T 47 t
      · rw [zFl_d h2] at h ⊢
        by_cases c : (zPt T (t + 1)).2.1 = 0
        · rw [zbd_y c] at h ⊢
          have b := zPt_b c
          have i := zFl_b n l (zPt T (t + 1)).2.2 h
          show t ≤ (zFl T n l (zPt T (t + 1)).2.2).2.2 ∧ (((zPt T (t + 1)).1 ++ (zFl T n l (zPt T (t + 1)).2.2).1).length : Int) ≤ (zFl T n l (zPt T (t + 1)).2.2).2.2 - t + _
          rw [List.length_append]
          omega
        · rw [zbd_n c] at h
          exact absurd h c
      · have key : ∀ k : Int, ¬ k = -1 → (zpre (zLat l) (zbd (zUn T (t + 1)) (fun u => zFl T n k u))).2.1 = 0 → t ≤ (zpre (zLat l) (zbd (zUn T (t + 1)) (fun u => zFl T n k u))).2.2 ∧ ((zpre (zLat l) (zbd (zUn T (t + 1)) (fun u => zFl T n k u))).1.length : Int) ≤ (zpre (zLat l) (zbd (zUn T (t + 1)) (fun u => zFl T n k u))).2.2 - t + (if l = -1 then 0 else 1) := fun k hk h => by
          by_cases c : (zUn T (t + 1)).2.1 = 0
          · rw [zbd_y c] at h ⊢
            have b := zUn_b c
            have i := zFl_b n k (zUn T (t + 1)).2.2 h
            rw [if_neg hk] at i
            have w := zLat_b l
            show t ≤ (zFl T n k (zUn T (t + 1)).2.2).2.2 ∧ ((zLat l ++ ((zUn T (t + 1)).1 ++ (zFl T n k (zUn T (t + 1)).2.2).1)).length : Int) ≤ (zFl T n k (zUn T (t + 1)).2.2).2.2 - t + _
            rw [List.length_append, List.length_append]
            omega
          · rw [zbd_n c] at h
            exact absurd h c
        by_cases h3 : zSg T 43 t
        · rw [zFl_p h3] at h ⊢
          exact key 2 (by decide) h
        · by_cases h4 : zSg T 45 t
          · rw [zFl_s h4] at h ⊢
            exact key 3 (by decide) h
          · rw [zFl_e h1 h2 h3 h4]
            have w := zLat_b l
            show t ≤ t ∧ ((zLat l).length : Int) ≤ t - t + _
            omega
theorem zSu_b {T : zyT} {t : Int} (h : (zSu T t).2.1 = 0) : t + 1 ≤ (zSu T t).2.2 ∧ ((zSu T t).1.length : Int) ≤ (zSu T t).2.2 - t ∧ 1 ≤ ((zSu T t).1.length : Int) := by
  unfold zSu at *
  by_cases c : (zUn T t).2.1 = 0
  · rw [zbd_y c] at h ⊢
    have b := zUn_b c
    have i := zFl_b 402 (-1) (zUn T t).2.2 h
    rw [if_pos rfl] at i
    show t + 1 ≤ (zFl T 402 (-1) (zUn T t).2.2).2.2 ∧ (((zUn T t).1 ++ (zFl T 402 (-1) (zUn T t).2.2).1).length : Int) ≤ (zFl T 402 (-1) (zUn T t).2.2).2.2 - t ∧ 1 ≤ (((zUn T t).1 ++ (zFl T 402 (-1) (zUn T t).2.2).1).length : Int)
    rw [List.length_append]
    omega
  · rw [zbd_n c] at h
    exact absurd h c
theorem zCp_b {T : zyT} {t : Int} (h : (zCp T t).2.1 = 0) : t + 3 ≤ (zCp T t).2.2 ∧ ((zCp T t).1.length : Int) ≤ (zCp T t).2.2 - t := by
  unfold zCp at *
  by_cases c : (zSu T t).2.1 = 0
  · rw [zbd_y c] at h ⊢
    have b := zSu_b c
    by_cases o : zop T (zSu T t).2.2 = -1
    · rw [if_pos o] at h
      exact absurd h (show ¬ (1 : Int) = 0 by decide)
    · rw [if_neg o] at h ⊢
      by_cases d : (zSu T ((zSu T t).2.2 + 1)).2.1 = 0
      · rw [zbd_y d]
        have b2 := zSu_b d
        show t + 3 ≤ (zSu T ((zSu T t).2.2 + 1)).2.2 ∧ (((zSu T t).1 ++ ((zSu T ((zSu T t).2.2 + 1)).1 ++ [(zop T (zSu T t).2.2, 0)])).length : Int) ≤ (zSu T ((zSu T t).2.2 + 1)).2.2 - t
        rw [List.length_append, List.length_append, List.length_cons, List.length_nil]
        omega
      · rw [zbd_n d] at h
        exact absurd h d
  · rw [zbd_n c] at h
    exact absurd h c
