-- WHAT A LAW TELLS, as each side runs it
noncomputable def zjo (h a b : Int) : Int := if h = 2 then zi_w (a + b) else if h = 3 then zi_w (a - b) else if h = 4 then zi_w (a * b) else if h = 6 then (if a < b then 1 else 0) else if h = 7 then (if a = b then 1 else 0) else if h = 8 then (if b < a then 1 else 0) else if h = 10 then zi_and a b else zi_or a b
noncomputable def zs2 (f : Int → Int → Int) : List Int → List Int
  | y :: x :: t => f x y :: t
  | s => s
noncomputable def zs1 (f : Int → Int) : List Int → List Int
  | x :: t => f x :: t
  | [] => []
/-- one step, the other side's way (top first) -/
noncomputable def zst1 (st nm fc : Int → Int) (i : Int) (s : List Int) : List Int :=
  zite (st i ≤ 1) (zite ((s.length : Int) < 40) (zite (st i = 0 ∨ nm i < 0 ∨ 9 ≤ nm i) (nm i) (fc (nm i)) :: s) s)
    (zite (st i = 5) (zite (nm i = 0) s (zs1 (fun x => Int.tdiv x (nm i)) s)) (zite (st i = 9) (zs1 (fun x => zi_w (1 - x)) s) (zs2 (zjo (st i)) s)))
noncomputable def zstn (st nm fc : Int → Int) : Nat → Int → List Int → List Int
  | 0, _, s => s
  | k + 1, i, s => zstn st nm fc k (i + 1) (zst1 st nm fc i s)
noncomputable def zbot : List Int → Int
  | [] => 0
  | [x] => x
  | _ :: y :: t => zbot (y :: t)
noncomputable def zwo (st nm fc : Int → Int) (a b : Int) : Int := zbot (zstn st nm fc (b - a).toNat a [])
/-- the first line of a kind that is so -/
noncomputable def zln1 (K W B : Int → Int) (ev : Int → Int → Int) (kd : Int) : Nat → Int → Int
  | 0, _ => -1
  | k + 1, i => zite (K i = kd ∧ (B i ≤ W i ∨ ¬ ev (W i) (B i) = 0)) i (zln1 K W B ev kd k (i + 1))
noncomputable def ztl1 (n : Int) (K Fr W B : Int → Int) (ev : Int → Int → Int) (kd df most : Int) : Int := max 0 (min (zite (zln1 K W B ev kd n.toNat 0 = -1) df (ev (Fr (zln1 K W B ev kd n.toNat 0)) (W (zln1 K W B ev kd n.toNat 0)))) most)
noncomputable def zfct (A B C f : Int → Int) (p w : Int) : Int → Int := fun n => if n = 0 then A p else if n = 1 then B p else if n = 2 then C p else if n = 3 then f (6 + p) else if n = 4 then f 3 else if n = 5 then f (26 + p) else if n = 6 then f (16 + p) else if n = 7 then w else f 0
/-- what the law says by kind, spout, word and row -/
noncomputable def zLc (g : zi_M) (r : Nat) (kd p w : Int) (f : Int → Int) : Int :=
  ztl1 (g 20 7) (g 23) (g 24) (g 25) (g 26) (zwo (g 21) (g 22) (zfct (g (r + 1)) (g (r + 2)) (g (r + 3)) f p w)) kd (if kd = 0 then 2 else if kd = 1 then f 3 else zi_w (20 * f 3)) (if kd = 2 then 1000 else 9)
theorem zLc_c {g g' : zi_M} {r : Nat} (e0 : g' 20 7 = g 20 7) (e : ∀ (a : Nat) (i : Int), (21 ≤ a ∧ a ≤ 26) ∨ (r + 1 ≤ a ∧ a ≤ r + 3) → g' a i = g a i) : zLc g' r = zLc g r := by
  have h : ∀ a : Nat, (21 ≤ a ∧ a ≤ 26) ∨ (r + 1 ≤ a ∧ a ≤ r + 3) → g' a = g a := fun a q => funext fun i => e a i q
  unfold zLc
  rw [e0, h 21 (by omega), h 22 (by omega), h 23 (by omega), h 24 (by omega), h 25 (by omega), h 26 (by omega), h (r + 1) (by omega), h (r + 2) (by omega), h (r + 3) (by omega)]
-- the stack in the memory
theorem zbot_q {g : zi_M} {a : Nat} : ∀ {s : List Int}, zql g a s → ¬ s = [] → zbot s = g a 0
  | [], _, h => absurd rfl h
  | [x], h, _ => h.1.symm
  | x :: y :: t, h, _ => zbot_q (s := y :: t) h.2 (by simp)
theorem zql_p {g g' : zi_M} {a : Nat} {s : List Int} {v : Int} (h : zql g a s) (e : g' = zi_u g a (s.length : Int) v) : zql g' a (v :: s) := by
  refine ⟨by rw [e]; exact zi_u_eq, zql_c h (fun i i0 i1 => by rw [e]; exact zi_u_ni (by omega))⟩
theorem zql_t {g g' : zi_M} {a : Nat} {x v : Int} {s : List Int} (h : zql g a (x :: s)) (e : g' = zi_u g a (s.length : Int) v) : zql g' a (v :: s) := zql_p h.2 e
noncomputable def zwI (st nm fc : Int → Int) (b : Int) (g : zi_M) (top i R : Int) : Prop := ∃ s : List Int, zql g 27 s ∧ (s.length : Int) = top ∧ zbot (zstn st nm fc (b - i).toNat i s) = R
theorem zwI_0 {st nm fc : Int → Int} {a b : Int} {g : zi_M} : zwI st nm fc b g 0 a (zwo st nm fc a b) := ⟨[], trivial, rfl, rfl⟩
theorem zstn_s {st nm fc : Int → Int} {b i : Int} {s : List Int} (h : i < b) : zstn st nm fc (b - i).toNat i s = zstn st nm fc (b - (i + 1)).toNat (i + 1) (zst1 st nm fc i s) := by
  rw [show (b - i).toNat = (b - (i + 1)).toNat + 1 by omega]
  rfl
theorem zwI_st {st nm fc : Int → Int} {b i top top' R : Int} {g g' : zi_M} (hb : i < b) (h : zwI st nm fc b g top i R) (k : ∀ s : List Int, zql g 27 s → (s.length : Int) = top → zql g' 27 (zst1 st nm fc i s) ∧ ((zst1 st nm fc i s).length : Int) = top') : zwI st nm fc b g' top' (i + 1) R := by
  obtain ⟨s, h1, h2, h3⟩ := h
  obtain ⟨k1, k2⟩ := k s h1 h2
  rw [zstn_s hb] at h3
  exact ⟨_, k1, k2, h3⟩
section
variable {st nm fc : Int → Int} {b i top R : Int} {g g' : zi_M}
/-- put -/
theorem zwI_p {v : Int} (hb : i < b) (h : zwI st nm fc b g top i R) (c : st i ≤ 1) (t : top < 40) (hv : v = zite (st i = 0 ∨ nm i < 0 ∨ 9 ≤ nm i) (nm i) (fc (nm i))) (e : g' = zi_u g 27 top v) : zwI st nm fc b g' (top + 1) (i + 1) R :=
  zwI_st hb h (fun s s1 s2 => by
    unfold zst1
    rw [zite_p c, zite_p (by omega), ← hv]
    exact ⟨zql_p s1 (by rw [s2]; exact e), by rw [List.length_cons]; omega⟩)
theorem zwI_pn (hb : i < b) (h : zwI st nm fc b g top i R) (c : st i ≤ 1) (t : 40 ≤ top) : zwI st nm fc b g top (i + 1) R :=
  zwI_st hb h (fun s s1 s2 => by
    unfold zst1
    rw [zite_p c, zite_n (by omega)]
    exact ⟨s1, s2⟩)
/-- a part -/
theorem zwI_d (hb : i < b) (h : zwI st nm fc b g top i R) (c : st i = 5) (t : 0 < top) (z : ¬ nm i = 0) (e : g' = zi_u g 27 (top - 1) (Int.tdiv (g 27 (top - 1)) (nm i))) : zwI st nm fc b g' top (i + 1) R :=
  zwI_st hb h (fun s s1 s2 => by
    unfold zst1
    rw [zite_n (by omega), zite_p c, zite_n z]
    cases s with
    | nil => simp at s2; omega
    | cons x q =>
      rw [List.length_cons] at s2
      have e1 : top - 1 = (q.length : Int) := by omega
      rw [e1] at e
      exact ⟨zql_t s1 (by rw [e, s1.1]), by show ((_ :: q).length : Int) = top; rw [List.length_cons]; omega⟩)
theorem zwI_dn (hb : i < b) (h : zwI st nm fc b g top i R) (c : st i = 5) (t : top ≤ 0 ∨ nm i = 0) : zwI st nm fc b g top (i + 1) R :=
  zwI_st hb h (fun s s1 s2 => by
    unfold zst1
    rw [zite_n (by omega), zite_p c]
    by_cases z : nm i = 0
    · rw [zite_p z]; exact ⟨s1, s2⟩
    · rw [zite_n z]
      cases s with
      | nil => exact ⟨trivial, s2⟩
      | cons x q => rw [List.length_cons] at s2; omega)
/-- turned -/
theorem zwI_n (hb : i < b) (h : zwI st nm fc b g top i R) (c : st i = 9) (t : 0 < top) (e : g' = zi_u g 27 (top - 1) (zi_w (1 - g 27 (top - 1)))) : zwI st nm fc b g' top (i + 1) R :=
  zwI_st hb h (fun s s1 s2 => by
    unfold zst1
    rw [zite_n (by omega), zite_n (by omega), zite_p c]
    cases s with
    | nil => simp at s2; omega
    | cons x q =>
      rw [List.length_cons] at s2
      have e1 : top - 1 = (q.length : Int) := by omega
      rw [e1] at e
      exact ⟨zql_t s1 (by rw [e, s1.1]), by show ((_ :: q).length : Int) = top; rw [List.length_cons]; omega⟩)
theorem zwI_nn (hb : i < b) (h : zwI st nm fc b g top i R) (c : st i = 9) (t : top ≤ 0) : zwI st nm fc b g top (i + 1) R :=
  zwI_st hb h (fun s s1 s2 => by
    unfold zst1
    rw [zite_n (by omega), zite_n (by omega), zite_p c]
    cases s with
    | nil => exact ⟨trivial, s2⟩
    | cons x q => rw [List.length_cons] at s2; omega)
/-- two joined -/
theorem zwI_j {v : Int} (hb : i < b) (h : zwI st nm fc b g top i R) (c : 1 < st i) (c5 : ¬ st i = 5) (c9 : ¬ st i = 9) (t : 1 < top) (hv : v = zjo (st i) (g 27 (top + -1 - 1)) (g 27 (top + -1))) (e : g' = zi_u g 27 (top + -1 - 1) v) : zwI st nm fc b g' (top + -1) (i + 1) R :=
  zwI_st hb h (fun s s1 s2 => by
    unfold zst1
    rw [zite_n (by omega), zite_n c5, zite_n c9]
    cases s with
    | nil => simp at s2; omega
    | cons y q =>
      cases q with
      | nil => simp at s2; omega
      | cons x q =>
        rw [List.length_cons, List.length_cons] at s2
        have e1 : top + -1 - 1 = (q.length : Int) := by omega
        have e2 : top + -1 = ((x :: q).length : Int) := by rw [List.length_cons]; omega
        rw [e1] at e hv
        rw [e2, s1.1, s1.2.1] at hv
        refine ⟨?_, by show ((_ :: q).length : Int) = top + -1; rw [List.length_cons]; omega⟩
        show zql g' 27 (zjo (st i) x y :: q)
        rw [← hv]
        exact zql_p s1.2.2 e)
theorem zwI_jn (hb : i < b) (h : zwI st nm fc b g top i R) (c : 1 < st i) (c5 : ¬ st i = 5) (c9 : ¬ st i = 9) (t : top ≤ 1) : zwI st nm fc b g top (i + 1) R :=
  zwI_st hb h (fun s s1 s2 => by
    unfold zst1
    rw [zite_n (by omega), zite_n c5, zite_n c9]
    cases s with
    | nil => exact ⟨trivial, s2⟩
    | cons y q =>
      cases q with
      | nil => exact ⟨s1, s2⟩
      | cons x q => rw [List.length_cons, List.length_cons] at s2; omega)
/-- the end -/
theorem zwI_x (h : zwI st nm fc b g top i R) (hb : b ≤ i) : (0 < top → g 27 0 = R) ∧ (top ≤ 0 → 0 = R) := by
  obtain ⟨s, h1, h2, h3⟩ := h
  rw [show (b - i).toNat = 0 by omega] at h3
  have h3' : zbot s = R := h3
  refine ⟨fun t => ?_, fun t => ?_⟩
  · rw [← h3']
    exact (zbot_q h1 (fun e => by rw [e] at h2; simp at h2; omega)).symm
  · cases s with
    | nil => exact h3'
    | cons x q => rw [List.length_cons] at h2; omega
end
theorem zwu_r {g g' : zi_M} {t v : Int} (e : g' = zi_u g 27 t v) : g' 21 = g 21 ∧ g' 22 = g 22 ∧ g' 28 = g 28 := by
  rw [e]
  exact ⟨zi_u_row (by decide), zi_u_row (by decide), zi_u_row (by decide)⟩
noncomputable def zwJ (b : Int) (g : zi_M) (top i R : Int) : Prop := zwI (g 21) (g 22) (g 28) b g top i R
section
variable {b i top R v : Int} {g g' : zi_M}
theorem zwJ_p1 (hb : i < b) (h : zwJ b g top i R) (c : g 21 i ≤ 1) (t : top < 40) (q : g 21 i = 0 ∨ g 22 i < 0 ∨ 9 ≤ g 22 i) (e : g' = zi_u g 27 top (g 22 i)) : zwJ b g' (top + 1) (i + 1) R := by
  unfold zwJ at *
  rw [(zwu_r e).1, (zwu_r e).2.1, (zwu_r e).2.2]
  exact zwI_p hb h c t (zite_p q).symm e
theorem zwJ_p2 (hb : i < b) (h : zwJ b g top i R) (c : g 21 i ≤ 1) (t : top < 40) (q0 : ¬ g 21 i = 0) (q1 : 0 ≤ g 22 i) (q2 : g 22 i < 9) (e : g' = zi_u g 27 top (g 28 (g 22 i))) : zwJ b g' (top + 1) (i + 1) R := by
  unfold zwJ at *
  rw [(zwu_r e).1, (zwu_r e).2.1, (zwu_r e).2.2]
  exact zwI_p hb h c t (zite_n (by omega)).symm e
theorem zwJ_pn (hb : i < b) (h : zwJ b g top i R) (c : g 21 i ≤ 1) (t : 40 ≤ top) : zwJ b g top (i + 1) R := zwI_pn hb h c t
theorem zwJ_d (hb : i < b) (h : zwJ b g top i R) (c : g 21 i = 5) (t : 0 < top) (z : ¬ g 22 i = 0) (e : g' = zi_u g 27 (top - 1) (Int.tdiv (g 27 (top - 1)) (g 22 i))) : zwJ b g' top (i + 1) R := by
  unfold zwJ at *
  rw [(zwu_r e).1, (zwu_r e).2.1, (zwu_r e).2.2]
  exact zwI_d hb h c t z e
theorem zwJ_dn (hb : i < b) (h : zwJ b g top i R) (c : g 21 i = 5) (t : top ≤ 0 ∨ g 22 i = 0) : zwJ b g top (i + 1) R := zwI_dn hb h c t
theorem zwJ_n (hb : i < b) (h : zwJ b g top i R) (c : g 21 i = 9) (t : 0 < top) (e : g' = zi_u g 27 (top - 1) (zi_w (1 - g 27 (top - 1)))) : zwJ b g' top (i + 1) R := by
  unfold zwJ at *
  rw [(zwu_r e).1, (zwu_r e).2.1, (zwu_r e).2.2]
  exact zwI_n hb h c t e
theorem zwJ_nn (hb : i < b) (h : zwJ b g top i R) (c : g 21 i = 9) (t : top ≤ 0) : zwJ b g top (i + 1) R := zwI_nn hb h c t
theorem zwJ_j (hb : i < b) (h : zwJ b g top i R) (c : 1 < g 21 i) (c5 : ¬ g 21 i = 5) (c9 : ¬ g 21 i = 9) (t : 1 < top) (hv : v = zjo (g 21 i) (g 27 (top + -1 - 1)) (g 27 (top + -1))) (e : g' = zi_u g 27 (top + -1 - 1) v) : zwJ b g' (top + -1) (i + 1) R := by
  unfold zwJ at *
  rw [(zwu_r e).1, (zwu_r e).2.1, (zwu_r e).2.2]
  exact zwI_j hb h c c5 c9 t hv e
theorem zwJ_jn (hb : i < b) (h : zwJ b g top i R) (c : 1 < g 21 i) (c5 : ¬ g 21 i = 5) (c9 : ¬ g 21 i = 9) (t : top ≤ 1) : zwJ b g top (i + 1) R := zwI_jn hb h c c5 c9 t
theorem zwJ_0 {a : Int} : zwJ b g 0 a (zwo (g 21) (g 22) (g 28) a b) := zwI_0
theorem zwJ_x (h : zwJ b g top i R) (hb : b ≤ i) : (0 < top → g 27 0 = R) ∧ (top ≤ 0 → 0 = R) := zwI_x h hb
end
/-- facts beyond the ninth are never asked -/
theorem zstn_c {st nm fc fc' : Int → Int} (e : ∀ n : Int, 0 ≤ n → n < 9 → fc' n = fc n) : ∀ (k : Nat) (i : Int) (s : List Int), zstn st nm fc' k i s = zstn st nm fc k i s
  | 0, _, _ => rfl
  | k + 1, i, s => by
    show zstn st nm fc' k (i + 1) (zst1 st nm fc' i s) = zstn st nm fc k (i + 1) (zst1 st nm fc i s)
    rw [show zst1 st nm fc' i s = zst1 st nm fc i s by
      unfold zst1
      by_cases q : st i = 0 ∨ nm i < 0 ∨ 9 ≤ nm i
      · rw [zite_p q, zite_p q]
      · rw [zite_n q, zite_n q, e (nm i) (by omega) (by omega)]]
    exact zstn_c e k (i + 1) _
theorem zwo_c {st nm fc fc' : Int → Int} {a b : Int} (e : ∀ n : Int, 0 ≤ n → n < 9 → fc' n = fc n) : zwo st nm fc' a b = zwo st nm fc a b := by
  unfold zwo
  rw [zstn_c e]
/-- facts gathered -/
theorem zfc_of {r : Nat} (hr : zs_sh r = some (10, 20)) {p w : Int} (hp : 0 ≤ p ∧ p < 10) {g g2 g3 g4 g5 g6 g7 g8 g9 g10 : zi_M} (e2 : g2 = zi_u g 28 0 (g (r + 1) p)) (e3 : g3 = zi_u g2 28 1 (g2 (r + 2) p)) (e4 : g4 = zi_u g3 28 2 (g3 (r + 3) p)) (e5 : g5 = zi_u g4 28 3 (g4 (r + 4) p)) (e6 : g6 = zi_u g5 28 4 (g5 r 14)) (e7 : g7 = zi_u g6 28 5 (g6 (r + 6) p)) (e8 : g8 = zi_u g7 28 6 (g7 (r + 5) p)) (e9 : g9 = zi_u g8 28 7 w) (e10 : g10 = zi_u g9 28 8 (g9 r 17)) :
    ∀ T n : Int, 0 ≤ n → n < 9 → g10 28 n = zfct (g (r + 1)) (g (r + 2)) (g (r + 3)) (zVC T r g) p w n := by
  intro T n n0 n9
  have hb := zs_wb hr
  have o : ∀ (a : Nat) (i : Int), a ≠ 28 → g9 a i = g a i ∧ g8 a i = g a i ∧ g7 a i = g a i ∧ g6 a i = g a i ∧ g5 a i = g a i ∧ g4 a i = g a i ∧ g3 a i = g a i ∧ g2 a i = g a i := by
    intro a i ha
    have x2 : g2 a i = g a i := by rw [e2]; exact zi_u_ne ha
    have x3 : g3 a i = g a i := by rw [e3, zi_u_ne ha]; exact x2
    have x4 : g4 a i = g a i := by rw [e4, zi_u_ne ha]; exact x3
    have x5 : g5 a i = g a i := by rw [e5, zi_u_ne ha]; exact x4
    have x6 : g6 a i = g a i := by rw [e6, zi_u_ne ha]; exact x5
    have x7 : g7 a i = g a i := by rw [e7, zi_u_ne ha]; exact x6
    have x8 : g8 a i = g a i := by rw [e8, zi_u_ne ha]; exact x7
    have x9 : g9 a i = g a i := by rw [e9, zi_u_ne ha]; exact x8
    exact ⟨x9, x8, x7, x6, x5, x4, x3, x2⟩
  obtain ⟨v0, v1, v2, v3, v4, v5, vm, vd, vh, -⟩ := zVC_rd (T := T) (r := r) (g := g)
  unfold zfct
  rw [vm p hp.1 hp.2, v3, vh p hp.1 hp.2, vd p hp.1 hp.2, v0]
  by_cases c8 : n = 8
  · rw [c8, e10, zi_u_eq, (o r 17 (by omega)).1]
    rfl
  · rw [e10, zi_u_ni c8]
    by_cases c7 : n = 7
    · rw [c7, e9, zi_u_eq]
      rfl
    · rw [e9, zi_u_ni c7]
      by_cases c6 : n = 6
      · rw [c6, e8, zi_u_eq, (o (r + 5) p (by omega)).2.2.1]
        rfl
      · rw [e8, zi_u_ni c6]
        by_cases c5 : n = 5
        · rw [c5, e7, zi_u_eq, (o (r + 6) p (by omega)).2.2.2.1]
          rfl
        · rw [e7, zi_u_ni c5]
          by_cases c4 : n = 4
          · rw [c4, e6, zi_u_eq, (o r 14 (by omega)).2.2.2.2.1]
            rfl
          · rw [e6, zi_u_ni c4]
            by_cases c3 : n = 3
            · rw [c3, e5, zi_u_eq, (o (r + 4) p (by omega)).2.2.2.2.2.1]
              rfl
            · rw [e5, zi_u_ni c3]
              by_cases c2 : n = 2
              · rw [c2, e4, zi_u_eq, (o (r + 3) p (by omega)).2.2.2.2.2.2.1]
                rfl
              · rw [e4, zi_u_ni c2]
                by_cases c1 : n = 1
                · rw [c1, e3, zi_u_eq, (o (r + 2) p (by omega)).2.2.2.2.2.2.2]
                  rfl
                · have c0 : n = 0 := by omega
                  rw [e3, zi_u_ni c1, c0, e2, zi_u_eq]
                  rfl
noncomputable def zlr (g : zi_M) (kd i : Int) : Int := zln1 (g 23) (g 25) (g 26) (zwo (g 21) (g 22) (g 28)) kd (g 20 7 - i).toNat i
theorem zlr_s {g : zi_M} {kd i : Int} (h : i < g 20 7) : zlr g kd i = zite (g 23 i = kd ∧ (g 26 i ≤ g 25 i ∨ ¬ zwo (g 21) (g 22) (g 28) (g 25 i) (g 26 i) = 0)) i (zlr g kd (i + 1)) := by
  unfold zlr
  rw [show (g 20 7 - i).toNat = (g 20 7 - (i + 1)).toNat + 1 by omega]
  rfl
theorem zlr_e {g : zi_M} {kd i : Int} (h : g 20 7 ≤ i) : zlr g kd i = -1 := by
  unfold zlr
  rw [show (g 20 7 - i).toNat = 0 by omega]
  rfl
theorem zwJ_g1 {k a R : Int} (h : (0 < k → a = R) ∧ (k ≤ 0 → 0 = R)) (c : 0 < k) : a = R := h.1 c
theorem zwJ_g2 {k a R : Int} (h : (0 < k → a = R) ∧ (k ≤ 0 → 0 = R)) (c : k ≤ 0) : 0 = R := h.2 c
