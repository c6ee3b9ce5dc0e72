-- THE LAW: its lines
abbrev zLi : Type := Int × List (Int × Int) × List (Int × Int)
abbrev zLA : Type := List zLi × Int × Int
noncomputable def zWhn (T : zyT) (u : Int) : zLR := if T.1 u = 2 ∧ T.2.1 u = 3 then zCnd T (u + 1) else ([], 0, u)
noncomputable def zcat (L : List zLi) (r : zLA) : zLA := (L ++ r.1, r.2.1, r.2.2)
/-- lines from token t on; k have been read -/
noncomputable def zLn (T : zyT) : Nat → Int → Int → zLA
  | 0, _, t => ([], 9, t)
  | n + 1, k, t => if T.1 t = 4 then ([], 0, t) else if ¬ (T.1 t = 2 ∧ 0 ≤ T.2.1 t ∧ T.2.1 t ≤ 2) then ([], 1, t) else if 16 ≤ k then ([], 3, t)
    else if ¬ (zSu T (t + 1)).2.1 = 0 then ([], (zSu T (t + 1)).2.1, (zSu T (t + 1)).2.2)
    else if ¬ (zWhn T (zSu T (t + 1)).2.2).2.1 = 0 then ([], (zWhn T (zSu T (t + 1)).2.2).2.1, (zWhn T (zSu T (t + 1)).2.2).2.2)
    else if ¬ zSg T 59 (zWhn T (zSu T (t + 1)).2.2).2.2 then ([], 1, (zWhn T (zSu T (t + 1)).2.2).2.2)
    else zcat [(T.2.1 t, (zSu T (t + 1)).1, (zWhn T (zSu T (t + 1)).2.2).1)] (zLn T n (k + 1) ((zWhn T (zSu T (t + 1)).2.2).2.2 + 1))
noncomputable def zLaw (T : zyT) : zLA := zLn T 402 0 0
theorem zcat_p {L M : List zLi} {r : zLA} : zcat L (zcat M r) = zcat (L ++ M) r := by unfold zcat; rw [List.append_assoc]
section
variable {T : zyT} {n : Nat} {k t : Int}
theorem zLn_e (h : T.1 t = 4) : zLn T (n + 1) k t = ([], 0, t) := if_pos h
theorem zLn_1 (h : ¬ T.1 t = 4) (c : ¬ (T.1 t = 2 ∧ 0 ≤ T.2.1 t ∧ T.2.1 t ≤ 2)) : zLn T (n + 1) k t = ([], 1, t) := by
  show (if _ then _ else _) = _
  rw [if_neg h, if_pos c]
theorem zLn_3 (c : T.1 t = 2 ∧ 0 ≤ T.2.1 t ∧ T.2.1 t ≤ 2) (h : 16 ≤ k) : zLn T (n + 1) k t = ([], 3, t) := by
  show (if _ then _ else _) = _
  rw [if_neg (by omega), if_neg (fun q => q c), if_pos h]
theorem zLn_s (c : T.1 t = 2 ∧ 0 ≤ T.2.1 t ∧ T.2.1 t ≤ 2) (h : ¬ 16 ≤ k) (s : ¬ (zSu T (t + 1)).2.1 = 0) : zLn T (n + 1) k t = ([], (zSu T (t + 1)).2.1, (zSu T (t + 1)).2.2) := by
  show (if _ then _ else _) = _
  rw [if_neg (by omega), if_neg (fun q => q c), if_neg h, if_pos s]
theorem zLn_w (c : T.1 t = 2 ∧ 0 ≤ T.2.1 t ∧ T.2.1 t ≤ 2) (h : ¬ 16 ≤ k) (s : (zSu T (t + 1)).2.1 = 0) (w : ¬ (zWhn T (zSu T (t + 1)).2.2).2.1 = 0) : zLn T (n + 1) k t = ([], (zWhn T (zSu T (t + 1)).2.2).2.1, (zWhn T (zSu T (t + 1)).2.2).2.2) := by
  show (if _ then _ else _) = _
  rw [if_neg (by omega), if_neg (fun q => q c), if_neg h, if_neg (fun q => q s), if_pos w]
theorem zLn_n (c : T.1 t = 2 ∧ 0 ≤ T.2.1 t ∧ T.2.1 t ≤ 2) (h : ¬ 16 ≤ k) (s : (zSu T (t + 1)).2.1 = 0) (w : (zWhn T (zSu T (t + 1)).2.2).2.1 = 0) (e : ¬ zSg T 59 (zWhn T (zSu T (t + 1)).2.2).2.2) : zLn T (n + 1) k t = ([], 1, (zWhn T (zSu T (t + 1)).2.2).2.2) := by
  show (if _ then _ else _) = _
  rw [if_neg (by omega), if_neg (fun q => q c), if_neg h, if_neg (fun q => q s), if_neg (fun q => q w), if_pos e]
theorem zLn_y (c : T.1 t = 2 ∧ 0 ≤ T.2.1 t ∧ T.2.1 t ≤ 2) (h : ¬ 16 ≤ k) (s : (zSu T (t + 1)).2.1 = 0) (w : (zWhn T (zSu T (t + 1)).2.2).2.1 = 0) (e : zSg T 59 (zWhn T (zSu T (t + 1)).2.2).2.2) : zLn T (n + 1) k t = zcat [(T.2.1 t, (zSu T (t + 1)).1, (zWhn T (zSu T (t + 1)).2.2).1)] (zLn T n (k + 1) ((zWhn T (zSu T (t + 1)).2.2).2.2 + 1)) := by
  show (if _ then _ else _) = _
  rw [if_neg (by omega), if_neg (fun q => q c), if_neg h, if_neg (fun q => q s), if_neg (fun q => q w), if_neg (fun q => q e)]
end
/-- lines in rows: kinds, from, when, behind; codes -/
noncomputable def zLs (o a kd fr wh bh : Int → Int) : List zLi → Int → Int → Int → Prop
  | [], _, s, e => s = e
  | x :: L, k, s, e => (kd k = x.1 ∧ fr k = s ∧ wh k = s + (x.2.1.length : Int) ∧ bh k = s + (x.2.1.length : Int) + (x.2.2.length : Int) ∧ zEl o a (x.2.1 ++ x.2.2) s) ∧ zLs o a kd fr wh bh L (k + 1) (s + (x.2.1.length : Int) + (x.2.2.length : Int)) e
theorem zLs_le {o a kd fr wh bh : Int → Int} : ∀ {L : List zLi} {k s e : Int}, zLs o a kd fr wh bh L k s e → s ≤ e
  | [], _, _, _, h => Int.le_of_eq h
  | x :: L, k, s, e, h => by
    have := zLs_le h.2
    omega
theorem zLs_c {o a kd fr wh bh o' a' kd' fr' wh' bh' : Int → Int} : ∀ {L : List zLi} {k s e : Int}, zLs o a kd fr wh bh L k s e → (∀ i : Int, s ≤ i → i < e → o' i = o i ∧ a' i = a i) → (∀ i : Int, k ≤ i → i < k + (L.length : Int) → kd' i = kd i ∧ fr' i = fr i ∧ wh' i = wh i ∧ bh' i = bh i) → zLs o' a' kd' fr' wh' bh' L k s e
  | [], _, _, _, h, _, _ => h
  | x :: L, k, s, e, h, c, r => by
    have le := zLs_le h.2
    rw [List.length_cons] at r
    obtain ⟨r1, r2, r3, r4⟩ := r k (Int.le_refl _) (by omega)
    refine ⟨⟨r1.trans h.1.1, r2.trans h.1.2.1, r3.trans h.1.2.2.1, r4.trans h.1.2.2.2.1, zEl_c h.1.2.2.2.2 (fun i i0 i1 => c i i0 (by rw [List.length_append] at i1; omega))⟩, zLs_c h.2 (fun i i0 i1 => c i (by omega) i1) (fun i i0 i1 => r i (by omega) (by omega))⟩
theorem zLs_a {o a kd fr wh bh : Int → Int} {x : zLi} {e' : Int} : ∀ {L : List zLi} {k s e : Int}, zLs o a kd fr wh bh L k s e → zLs o a kd fr wh bh [x] (k + (L.length : Int)) e e' → zLs o a kd fr wh bh (L ++ [x]) k s e'
  | [], k, s, e, h, q => by
    have h' : s = e := h
    rw [h']
    have : k + ((([] : List zLi).length : Nat) : Int) = k := by show k + (0 : Int) = k; omega
    rw [this] at q
    exact q
  | y :: L, k, s, e, h, q => ⟨h.1, zLs_a h.2 (by rw [List.length_cons] at q; rw [show k + 1 + (L.length : Int) = k + ((L.length + 1 : Nat) : Int) by omega]; exact q)⟩
/-- how much a condition is: no more codes than tokens -/
theorem zCd_b {T : zyT} : ∀ (n : Nat) (d : Int) (P : List Int) (t : Int), (zCd T n d P t).2.1 = 0 → t ≤ (zCd T n d P t).2.2 ∧ ((zCd T n d P t).1.length : Int) ≤ (zCd T n d P t).2.2 - t + (P.length : Int)
  | 0, d, P, t, h => absurd h (show ¬ (9 : Int) = 0 by decide)
  | n + 1, d, P, t, h => by
    have key : ∀ (L : List (Int × Int)) (d' : Int) (P' : List Int), (zCd T (n + 1) d P t) = zpre L (zCd T n d' P' (t + 1)) → (L.length : Int) + (P'.length : Int) ≤ (P.length : Int) + 1 → t ≤ (zCd T (n + 1) d P t).2.2 ∧ ((zCd T (n + 1) d P t).1.length : Int) ≤ (zCd T (n + 1) d P t).2.2 - t + (P.length : Int) := fun L d' P' e hl => by
      rw [e] at h ⊢
      have i := zCd_b n d' P' (t + 1) h
      show t ≤ (zCd T n d' P' (t + 1)).2.2 ∧ ((L ++ (zCd T n d' P' (t + 1)).1).length : Int) ≤ (zCd T n d' P' (t + 1)).2.2 - t + _
      rw [List.length_append]
      omega
    by_cases hd : d = 1
    · subst hd
      by_cases ho : zOp T t
      · by_cases h8 : 8 ≤ zl_of 6 0 P
        · rw [zCd_8 ho h8] at h
          exact absurd h (show ¬ (3 : Int) = 0 by decide)
        · exact key [] 1 _ (zCd_o ho h8) (by rw [List.length_cons, List.length_nil]; omega)
      · rw [zCd_c ho] at h ⊢
        by_cases c : (zCp T t).2.1 = 0
        · rw [zbd_y c] at h ⊢
          have b := zCp_b c
          have i := zCd_b n 0 (zsnP P) (zCp T t).2.2 h
          have l := zsn_l P
          show t ≤ (zCd T n 0 (zsnP P) (zCp T t).2.2).2.2 ∧ (((zCp T t).1 ++ (zsnL P ++ (zCd T n 0 (zsnP P) (zCp T t).2.2).1)).length : Int) ≤ (zCd T n 0 (zsnP P) (zCp T t).2.2).2.2 - t + _
          rw [List.length_append, List.length_append]
          omega
        · rw [zbd_n c] at h
          exact absurd h c
    · have e0 : zCd T (n + 1) d P t = zCd T (n + 1) 0 P t := by
        show (if d = 1 then _ else _) = (if (0 : Int) = 1 then _ else _)
        rw [if_neg hd, if_neg (show ¬ (0 : Int) = 1 by decide)]
      by_cases ha : T.1 t = 2 ∧ (T.2.1 t = 5 ∨ T.2.1 t = 4)
      · have l := zsb_l (T.2.1 t) P
        exact key _ 1 _ (e0.trans (zCd_a ha)) (by rw [List.length_cons]; omega)
      · have l := zsb_l 4 P
        by_cases c : zl_of 0 0 P = 0
        · rw [e0, zCd_e ha c]
          show t ≤ t ∧ ((zsbL 4 P).length : Int) ≤ t - t + _
          omega
        · by_cases s : zSg T 41 t
          · have l2 := zsn_l (zsbP 4 P).tail
            have l3 : ((zsbP 4 P).tail.length : Int) ≤ (zsbP 4 P).length := by rw [List.length_tail]; omega
            exact key _ 0 _ (e0.trans (zCd_p c s)) (by rw [List.length_append]; omega)
          · rw [e0, zCd_1 ha c s] at h
            exact absurd h (show ¬ (1 : Int) = 0 by decide)
theorem zCnd_b {T : zyT} {t : Int} (h : (zCnd T t).2.1 = 0) : t ≤ (zCnd T t).2.2 ∧ ((zCnd T t).1.length : Int) ≤ (zCnd T t).2.2 - t := by
  have b := zCd_b 402 1 [] t h
  rw [show ((([] : List Int).length : Nat) : Int) = 0 from rfl] at b
  exact ⟨b.1, by have := b.2; unfold zCnd; omega⟩
/-- the class's draft of a law -/
noncomputable def zLd_ (g : zi_M) (L : List zLi) (e : Int) : Prop := zLs (g 197) (g 198) (g 199) (g 200) (g 201) (g 202) L 0 0 e
/-- a line is put into the draft -/
noncomputable def zAld (kd a b : Int) (g1 g10 : zi_M) : Prop := g1 196 7 < 16 → g10 196 7 = g1 196 7 + 1 ∧ g10 199 (g1 196 7) = kd ∧ g10 200 (g1 196 7) = a ∧ g10 201 (g1 196 7) = b ∧ g10 202 (g1 196 7) = g1 196 2 ∧ ∀ i : Int, ¬ i = g1 196 7 → g10 199 i = g1 199 i ∧ g10 200 i = g1 200 i ∧ g10 201 i = g1 201 i ∧ g10 202 i = g1 202 i
theorem zAld_of {g g3 g5 g7 g9 g10 : zi_M} {l1 l2 l3 : Int} (e3 : g3 = zi_u g 199 (g 196 7) l1) (e5 : g5 = zi_u g3 200 (g3 196 7) l2) (e7 : g7 = zi_u g5 201 (g5 196 7) l3) (e9 : g9 = zi_u g7 202 (g7 196 7) (g7 196 2)) (e10 : g10 = zi_u g9 196 7 ((g9 196 7) + 1)) : g10 196 7 = g 196 7 + 1 ∧ g10 199 (g 196 7) = l1 ∧ g10 200 (g 196 7) = l2 ∧ g10 201 (g 196 7) = l3 ∧ g10 202 (g 196 7) = g 196 2 ∧ ∀ i : Int, ¬ i = g 196 7 → g10 199 i = g 199 i ∧ g10 200 i = g 200 i ∧ g10 201 i = g 201 i ∧ g10 202 i = g 202 i := by
  have a3 : g3 196 7 = g 196 7 := by rw [e3]; exact zi_u_ne (by decide)
  have a5 : g5 196 7 = g 196 7 := by rw [e5, zi_u_ne (by decide), a3]
  have a7 : g7 196 7 = g 196 7 := by rw [e7, zi_u_ne (by decide), a5]
  have a9 : g9 196 7 = g 196 7 := by rw [e9, zi_u_ne (by decide), a7]
  have b7 : g7 196 2 = g 196 2 := by rw [e7, zi_u_ne (by decide), e5, zi_u_ne (by decide), e3, zi_u_ne (by decide)]
  refine ⟨by rw [e10, zi_u_eq, a9], ?_, ?_, ?_, ?_, fun i hi => ⟨?_, ?_, ?_, ?_⟩⟩
  · rw [e10, zi_u_ne (by decide), e9, zi_u_ne (by decide), e7, zi_u_ne (by decide), e5, zi_u_ne (by decide), e3, zi_u_eq]
  · rw [e10, zi_u_ne (by decide), e9, zi_u_ne (by decide), e7, zi_u_ne (by decide), e5, a3, zi_u_eq]
  · rw [e10, zi_u_ne (by decide), e9, zi_u_ne (by decide), e7, a5, zi_u_eq]
  · rw [e10, zi_u_ne (by decide), e9, a7, zi_u_eq, b7]
  · rw [e10, zi_u_ne (by decide), e9, zi_u_ne (by decide), e7, zi_u_ne (by decide), e5, zi_u_ne (by decide), e3, zi_u_ni hi]
  · rw [e10, zi_u_ne (by decide), e9, zi_u_ne (by decide), e7, zi_u_ne (by decide), e5, a3, zi_u_ni hi, e3, zi_u_ne (by decide)]
  · rw [e10, zi_u_ne (by decide), e9, zi_u_ne (by decide), e7, a5, zi_u_ni hi, e5, zi_u_ne (by decide), e3, zi_u_ne (by decide)]
  · rw [e10, zi_u_ne (by decide), e9, a7, zi_u_ni hi, e7, zi_u_ne (by decide), e5, zi_u_ne (by decide), e3, zi_u_ne (by decide)]
theorem zAld_n {g : zi_M} {l1 l2 l3 : Int} (h : 16 ≤ g 196 7) : zAld l1 l2 l3 g g := fun q => by exfalso; omega
theorem zAld_y {g g3 g5 g7 g9 g10 : zi_M} {l1 l2 l3 : Int} (e3 : g3 = zi_u g 199 (g 196 7) l1) (e5 : g5 = zi_u g3 200 (g3 196 7) l2) (e7 : g7 = zi_u g5 201 (g5 196 7) l3) (e9 : g9 = zi_u g7 202 (g7 196 7) (g7 196 2)) (e10 : g10 = zi_u g9 196 7 ((g9 196 7) + 1)) : zAld l1 l2 l3 g g10 := fun _ => zAld_of e3 e5 e7 e9 e10
/-- k lines have been read by the class -/
noncomputable def zLwl (k : Int) (g0 g : zi_M) : Prop := ∀ T : zyT, zyC T g0 0 → zyE T → ∃ (t : Int) (n : Nat) (L : List zLi), zyC T g t ∧ zLd_ g L (g 196 2) ∧ (L.length : Int) = k ∧ g 196 7 = k ∧ zLaw T = zcat L (zLn T n k t) ∧ T.2.2.2 - t < n ∧ g 196 2 ≤ t ∧ k ≤ t ∧ k ≤ 16
/-- a line whose end is due -/
noncomputable def zLwj (k kd a b : Int) (g0 g : zi_M) : Prop := ∀ T : zyT, zyC T g0 0 → zyE T → ∃ (t : Int) (n : Nat) (L : List zLi), zLd_ g L a ∧ (L.length : Int) = k ∧ g 196 7 = k ∧ zLaw T = zcat L (zLn T (n + 1) k t) ∧ T.2.2.2 - t < ((n + 1 : Nat) : Int) ∧ k ≤ t ∧ k < 16 ∧ (T.1 t = 2 ∧ 0 ≤ T.2.1 t ∧ T.2.1 t ≤ 2) ∧ kd = T.2.1 t ∧ (zSu T (t + 1)).2.1 = 0 ∧ (zWhn T (zSu T (t + 1)).2.2).2.1 = 0 ∧ zyC T g (zWhn T (zSu T (t + 1)).2.2).2.2 ∧ zEl (g 197) (g 198) ((zSu T (t + 1)).1 ++ (zWhn T (zSu T (t + 1)).2.2).1) a ∧ b = a + ((zSu T (t + 1)).1.length : Int) ∧ g 196 2 = b + ((zWhn T (zSu T (t + 1)).2.2).1.length : Int) ∧ g 196 2 ≤ (zWhn T (zSu T (t + 1)).2.2).2.2 ∧ t + 2 ≤ (zWhn T (zSu T (t + 1)).2.2).2.2
noncomputable def zLwf (v : Int) (g0 g : zi_M) : Prop := ∀ T : zyT, zyC T g0 0 → zyE T → ((zLaw T).2.1 = 0 → v = 1 ∧ zLd_ g (zLaw T).1 (g 196 2) ∧ ((zLaw T).1.length : Int) = g 196 7 ∧ g 191 5 = 0 ∧ g 191 6 = -1) ∧ (¬ (zLaw T).2.1 = 0 → v = 0 ∧ zyF T g (zLaw T).2.1 (zLaw T).2.2)
section
variable {g0 g g1 g2 g3 g13 g16 g19 g30 g33 : zi_M} {v v5 v8 v12 v15 v18 k kd a b w : Int}
theorem zLwf_n {T : zyT} {L : List zLi} {e t : Int} (h : zLaw T = (L, e, t)) (he : ¬ e = 0) (hv : v = 0) (f : zyF T g e t) : ((zLaw T).2.1 = 0 → v = 1 ∧ zLd_ g (zLaw T).1 (g 196 2) ∧ ((zLaw T).1.length : Int) = g 196 7 ∧ g 191 5 = 0 ∧ g 191 6 = -1) ∧ (¬ (zLaw T).2.1 = 0 → v = 0 ∧ zyF T g (zLaw T).2.1 (zLaw T).2.2) := by
  rw [h]
  exact ⟨fun q => absurd q he, fun _ => ⟨hv, f⟩⟩
theorem zLwl_0 (e : ∀ (a : Nat) (i : Int), 191 ≤ a → a ≤ 194 → g1 a i = g a i) (e2 : g1 196 2 = 0) (e7 : g1 196 7 = 0) : zLwl 0 g g1 := fun T hC hE => by
  have b := zyC_b hC hE
  refine ⟨0, 402, [], zyC_m hC e, ?_, rfl, e7, rfl, by omega, by omega, by omega, by decide⟩
  show (0 : Int) = g1 196 2
  omega
/-- the next fuel -/
theorem zLwl_n {T : zyT} {t : Int} {n : Nat} (c : zyC T g t) (h : T.2.2.2 - t < n) : ∃ m : Nat, n = m + 1 := ⟨n - 1, by have := c.2.1.2.2; omega⟩
theorem zLwl_e (h : zLwl k g0 g) (b1 : g 191 4 < g 191 3 → ¬ g 192 (g 191 4) = 4 → v5 = 0) (c : ¬ v5 = 0) : zLwf 1 g0 g := fun T hC hE => by
  obtain ⟨t, n, L, k1, k2, k3, k4, k5, k6, k7, k8, k9⟩ := h T hC hE
  obtain ⟨m, rfl⟩ := zLwl_n k1 k6
  have a := zyC_a k1
  rw [a.1] at b1
  have e4 : T.1 t = 4 := Classical.byContradiction (fun q => c (b1 a.2.2.2 q))
  rw [zLn_e e4] at k5
  unfold zcat at k5
  rw [List.append_nil] at k5
  rw [k5]
  exact ⟨fun _ => ⟨rfl, k2, by rw [k3, k4], k1.2.2⟩, fun q => absurd rfl q⟩
theorem zLwl_x (h : zLwl k g0 g) (c : 16 < k) : zLwf 1 g0 g := fun T hC hE => by
  obtain ⟨t, n, L, k1, k2, k3, k4, k5, k6, k7, k8, k9⟩ := h T hC hE
  exfalso
  omega
theorem zLwl_1 (h : zLwl k g0 g) (b2 : g 191 4 < g 191 3 → g 192 (g 191 4) = 4 → v5 = 1) (c : v5 = 0) (d3 : g 191 4 < g 191 3 → g 192 (g 191 4) = 2 → v8 = g 193 (g 191 4)) (cc : v8 < 0 ∨ 2 < v8) (r : ∀ (T : zyT) (t : Int), zyC T g t → zyF T g1 1 t) (hv : v = 0) : zLwf v g0 g1 := fun T hC hE => by
  obtain ⟨t, n, L, k1, k2, k3, k4, k5, k6, k7, k8, k9⟩ := h T hC hE
  obtain ⟨m, rfl⟩ := zLwl_n k1 k6
  have a := zyC_a k1
  rw [a.1] at b2 d3
  rw [a.2.1] at d3
  rw [zLn_1 (fun q => by have := b2 a.2.2.2 q; omega) (fun q => by have := d3 a.2.2.2 q.1; omega)] at k5
  exact zLwf_n (e := 1) k5 (by decide) hv (r T t k1)
/-- a line begins -/
theorem zLwl_h (h : zLwl k g0 g) (d2 : g 191 4 < g 191 3 → ¬ g 192 (g 191 4) = 2 → v8 = -1) (d3 : g 191 4 < g 191 3 → g 192 (g 191 4) = 2 → v8 = g 193 (g 191 4)) (c0 : 0 ≤ v8) (c2 : v8 ≤ 2) : ∀ T : zyT, zyC T g0 0 → zyE T → ∃ (t : Int) (m : Nat) (L : List zLi), zyC T g t ∧ zLd_ g L (g 196 2) ∧ (L.length : Int) = k ∧ g 196 7 = k ∧ zLaw T = zcat L (zLn T (m + 1) k t) ∧ T.2.2.2 - t < ((m + 1 : Nat) : Int) ∧ g 196 2 ≤ t ∧ k ≤ t ∧ (T.1 t = 2 ∧ 0 ≤ T.2.1 t ∧ T.2.1 t ≤ 2) ∧ v8 = T.2.1 t := fun T hC hE => by
  obtain ⟨t, n, L, k1, k2, k3, k4, k5, k6, k7, k8, k9⟩ := h T hC hE
  obtain ⟨m, rfl⟩ := zLwl_n k1 k6
  have a := zyC_a k1
  rw [a.1] at d2 d3
  rw [a.2.1] at d3
  have e1 : T.1 t = 2 := Classical.byContradiction (fun q => by have := d2 a.2.2.2 q; omega)
  have e2 := d3 a.2.2.2 e1
  exact ⟨t, m, L, k1, k2, k3, k4, k5, k6, k7, k8, ⟨e1, by omega, by omega⟩, e2⟩
theorem zLwl_t (h : zLwl k g0 g) (d2 : g 191 4 < g 191 3 → ¬ g 192 (g 191 4) = 2 → v8 = -1) (d3 : g 191 4 < g 191 3 → g 192 (g 191 4) = 2 → v8 = g 193 (g 191 4)) (c0 : 0 ≤ v8) (c2 : v8 ≤ 2) (tk : ∀ (T : zyT) (t : Int), zyC T g t → zyE T → zyS T g13 t (zyL T v8 k t) ∧ (zyL T v8 k t = 0 → v12 = 1) ∧ (¬ zyL T v8 k t = 0 → v12 = 0)) (c : v12 = 0) : zLwf 0 g0 g13 := fun T hC hE => by
  obtain ⟨t, m, L, k1, k2, k3, k4, k5, k6, k7, k8, k9, k10⟩ := zLwl_h h d2 d3 c0 c2 T hC hE
  obtain ⟨y1, y2, y3⟩ := tk T t k1 hE
  have nk : ¬ k < 16 := fun q => by
    have := y2 (zyL_0.2 ⟨⟨k9.1, k10.symm⟩, q⟩)
    omega
  have e3 := zyL_3 (T := T) (j := v8) (n := k) (t := t) ⟨k9.1, k10.symm⟩ nk
  rw [zLn_3 k9 (by omega)] at k5
  have f := y1.2 (by rw [e3]; decide)
  rw [e3] at f
  exact zLwf_n (e := 3) k5 (by decide) rfl f
/-- behind its first word -/
theorem zLwl_g (h : zLwl k g0 g) (d2 : g 191 4 < g 191 3 → ¬ g 192 (g 191 4) = 2 → v8 = -1) (d3 : g 191 4 < g 191 3 → g 192 (g 191 4) = 2 → v8 = g 193 (g 191 4)) (c0 : 0 ≤ v8) (c2 : v8 ≤ 2) (tk : ∀ (T : zyT) (t : Int), zyC T g t → zyE T → zyS T g13 t (zyL T v8 k t) ∧ (zyL T v8 k t = 0 → v12 = 1) ∧ (¬ zyL T v8 k t = 0 → v12 = 0)) (F13 : zk_fr fr_Tokens_takeLineStart g g13) (c : ¬ v12 = 0) : ∀ T : zyT, zyC T g0 0 → zyE T → ∃ (t : Int) (m : Nat) (L : List zLi), zyC T g13 (t + 1) ∧ zLd_ g L (g 196 2) ∧ (L.length : Int) = k ∧ g 196 7 = k ∧ zLaw T = zcat L (zLn T (m + 1) k t) ∧ T.2.2.2 - t < ((m + 1 : Nat) : Int) ∧ g 196 2 ≤ t ∧ k ≤ t ∧ (T.1 t = 2 ∧ 0 ≤ T.2.1 t ∧ T.2.1 t ≤ 2) ∧ v8 = T.2.1 t ∧ k < 16 ∧ g13 196 2 = g 196 2 := fun T hC hE => by
  obtain ⟨t, m, L, k1, k2, k3, k4, k5, k6, k7, k8, k9, k10⟩ := zLwl_h h d2 d3 c0 c2 T hC hE
  obtain ⟨y1, y2, y3⟩ := tk T t k1 hE
  have z : zyL T v8 k t = 0 := Classical.byContradiction (fun q => c (y3 q))
  exact ⟨t, m, L, y1.1 z, k2, k3, k4, k5, k6, k7, k8, k9, k10, (zyL_0.1 z).2, F13 196 2 (fun q => by unfold fr_Tokens_takeLineStart at q; omega)⟩
theorem zLwl_s (h : zLwl k g0 g) (d2 : g 191 4 < g 191 3 → ¬ g 192 (g 191 4) = 2 → v8 = -1) (d3 : g 191 4 < g 191 3 → g 192 (g 191 4) = 2 → v8 = g 193 (g 191 4)) (c0 : 0 ≤ v8) (c2 : v8 ≤ 2) (tk : ∀ (T : zyT) (t : Int), zyC T g t → zyE T → zyS T g13 t (zyL T v8 k t) ∧ (zyL T v8 k t = 0 → v12 = 1) ∧ (¬ zyL T v8 k t = 0 → v12 = 0)) (F13 : zk_fr fr_Tokens_takeLineStart g g13) (c : ¬ v12 = 0) (su : zcon zSu v15 g13 g16) (n15 : v15 = 0) : zLwf 0 g0 g16 := fun T hC hE => by
  obtain ⟨t, m, L, k1, k2, k3, k4, k5, k6, k7, k8, k9, k10, k11, k12⟩ := zLwl_g h d2 d3 c0 c2 tk F13 c T hC hE
  have r := su T (t + 1) k1 hE (by omega)
  have y : ¬ (zSu T (t + 1)).2.1 = 0 := fun y => by have := (r.1 y).1; omega
  rw [zLn_s k9 (by omega) y] at k5
  exact zLwf_n k5 y rfl (r.2 y).2
/-- what the sum leaves -/
theorem zLwl_m {T : zyT} {t : Int} {L : List zLi} (k2 : zLd_ g L (g 196 2)) (F13 : zk_fr fr_Tokens_takeLineStart g g13) (F16 : zk_fr fr_LawReader_sum g13 g16) (e : zEa (zSu T (t + 1)).1 g13 g16) : zLd_ g16 L (g 196 2) ∧ zEl (g16 197) (g16 198) (zSu T (t + 1)).1 (g 196 2) ∧ g16 196 7 = g 196 7 := by
  have n13 : g13 196 2 = g 196 2 := F13 196 2 (fun q => by unfold fr_Tokens_takeLineStart at q; omega)
  have f : ∀ (a : Nat) (i : Int), (199 ≤ a ∧ a ≤ 202) ∨ (a = 196 ∧ i = 7) → g16 a i = g a i := fun a i h => by rw [F16 a i (fun q => by unfold fr_LawReader_sum at q; omega), F13 a i (fun q => by unfold fr_Tokens_takeLineStart at q; omega)]
  obtain ⟨e1, e2, e3⟩ := e
  rw [n13] at e2 e3
  refine ⟨zLs_c k2 (fun i i0 i1 => ?_) (fun i i0 i1 => ⟨f 199 i (by omega), f 200 i (by omega), f 201 i (by omega), f 202 i (by omega)⟩), e2, f 196 7 (by omega)⟩
  have q := e3 i i1
  rw [q.1, q.2]
  exact ⟨F13 197 i (fun q => by unfold fr_Tokens_takeLineStart at q; omega), F13 198 i (fun q => by unfold fr_Tokens_takeLineStart at q; omega)⟩
theorem zLwj_1 (h : zLwl k g0 g) (d2 : g 191 4 < g 191 3 → ¬ g 192 (g 191 4) = 2 → v8 = -1) (d3 : g 191 4 < g 191 3 → g 192 (g 191 4) = 2 → v8 = g 193 (g 191 4)) (c0 : 0 ≤ v8) (c2 : v8 ≤ 2) (tk : ∀ (T : zyT) (t : Int), zyC T g t → zyE T → zyS T g13 t (zyL T v8 k t) ∧ (zyL T v8 k t = 0 → v12 = 1) ∧ (¬ zyL T v8 k t = 0 → v12 = 0)) (F13 : zk_fr fr_Tokens_takeLineStart g g13) (c : ¬ v12 = 0) (su : zcon zSu v15 g13 g16) (F16 : zk_fr fr_LawReader_sum g13 g16) (n15 : ¬ v15 = 0) (w3 : g16 191 4 < g16 191 3 → g16 192 (g16 191 4) = 2 → v18 = g16 193 (g16 191 4)) (n18 : ¬ v18 = 3) : zLwj k v8 (g 196 2) (g16 196 2) g0 g16 := fun T hC hE => by
  obtain ⟨t, m, L, k1, k2, k3, k4, k5, k6, k7, k8, k9, k10, k11, k12⟩ := zLwl_g h d2 d3 c0 c2 tk F13 c T hC hE
  have r := su T (t + 1) k1 hE (by omega)
  have y : (zSu T (t + 1)).2.1 = 0 := Classical.byContradiction (fun y => n15 (r.2 y).1)
  obtain ⟨_, r2, r3⟩ := r.1 y
  have b := zSu_b y
  have n16 := zEa_len r3
  obtain ⟨m1, m2, m3⟩ := zLwl_m k2 F13 F16 r3
  have a := zyC_a r2
  rw [a.1, a.2.1] at w3
  have ew : zWhn T (zSu T (t + 1)).2.2 = ([], 0, (zSu T (t + 1)).2.2) := if_neg (fun q => n18 ((w3 a.2.2.2 q.1).trans q.2))
  refine ⟨t, m, L, m1, k3, by rw [m3]; exact k4, k5, k6, k8, k11, k9, k10, y, by rw [ew], by rw [ew]; exact r2, ?_, ?_, ?_, ?_, ?_⟩
  · rw [ew]
    show zEl _ _ ((zSu T (t + 1)).1 ++ []) _
    rw [List.append_nil]
    exact m2
  · omega
  · rw [ew]
    show g16 196 2 = g16 196 2 + (0 : Int)
    omega
  · rw [ew]
    show g16 196 2 ≤ (zSu T (t + 1)).2.2
    omega
  · rw [ew]
    show t + 2 ≤ (zSu T (t + 1)).2.2
    omega
/-- the same with a condition -/
theorem zLwj_2 (h : zLwl k g0 g) (d2 : g 191 4 < g 191 3 → ¬ g 192 (g 191 4) = 2 → v8 = -1) (d3 : g 191 4 < g 191 3 → g 192 (g 191 4) = 2 → v8 = g 193 (g 191 4)) (c0 : 0 ≤ v8) (c2 : v8 ≤ 2) (tk : ∀ (T : zyT) (t : Int), zyC T g t → zyE T → zyS T g13 t (zyL T v8 k t) ∧ (zyL T v8 k t = 0 → v12 = 1) ∧ (¬ zyL T v8 k t = 0 → v12 = 0)) (F13 : zk_fr fr_Tokens_takeLineStart g g13) (c : ¬ v12 = 0) (su : zcon zSu v15 g13 g16) (F16 : zk_fr fr_LawReader_sum g13 g16) (n15 : ¬ v15 = 0) (w2 : g16 191 4 < g16 191 3 → ¬ g16 192 (g16 191 4) = 2 → v18 = -1) (w3 : g16 191 4 < g16 191 3 → g16 192 (g16 191 4) = 2 → v18 = g16 193 (g16 191 4)) (n18 : v18 = 3) (s : zstp g16 g30) (F30 : zk_fr fr_Tokens_step g16 g30) (cd : zcon zCnd w g30 g33) (F33 : zk_fr fr_LawReader_conditions g30 g33) : (¬ w = 0 → zLwj k v8 (g 196 2) (g16 196 2) g0 g33) ∧ (w = 0 → zLwf 0 g0 g33) := by
  have X : ∀ T : zyT, zyC T g0 0 → zyE T → ∃ (t : Int) (m : Nat) (L : List zLi), zLd_ g16 L (g 196 2) ∧ (L.length : Int) = k ∧ g16 196 7 = k ∧ zLaw T = zcat L (zLn T (m + 1) k t) ∧ T.2.2.2 - t < ((m + 1 : Nat) : Int) ∧ k ≤ t ∧ k < 16 ∧ (T.1 t = 2 ∧ 0 ≤ T.2.1 t ∧ T.2.1 t ≤ 2) ∧ v8 = T.2.1 t ∧ (zSu T (t + 1)).2.1 = 0 ∧ zEl (g16 197) (g16 198) (zSu T (t + 1)).1 (g 196 2) ∧ g16 196 2 = g 196 2 + ((zSu T (t + 1)).1.length : Int) ∧ zWhn T (zSu T (t + 1)).2.2 = zCnd T ((zSu T (t + 1)).2.2 + 1) ∧ zyC T g30 ((zSu T (t + 1)).2.2 + 1) ∧ g30 196 2 = g16 196 2 ∧ g16 196 2 ≤ (zSu T (t + 1)).2.2 ∧ t + 2 ≤ (zSu T (t + 1)).2.2 := fun T hC hE => by
    obtain ⟨t, m, L, k1, k2, k3, k4, k5, k6, k7, k8, k9, k10, k11, k12⟩ := zLwl_g h d2 d3 c0 c2 tk F13 c T hC hE
    have r := su T (t + 1) k1 hE (by omega)
    have y : (zSu T (t + 1)).2.1 = 0 := Classical.byContradiction (fun y => n15 (r.2 y).1)
    obtain ⟨_, r2, r3⟩ := r.1 y
    have b := zSu_b y
    have n16 := zEa_len r3
    obtain ⟨m1, m2, m3⟩ := zLwl_m k2 F13 F16 r3
    have a := zyC_a r2
    rw [a.1] at w2 w3
    rw [a.2.1] at w3
    have e1 : T.1 (zSu T (t + 1)).2.2 = 2 := Classical.byContradiction (fun q => by have := w2 a.2.2.2 q; omega)
    have e2 := w3 a.2.2.2 e1
    have ew : zWhn T (zSu T (t + 1)).2.2 = zCnd T ((zSu T (t + 1)).2.2 + 1) := if_pos ⟨e1, by omega⟩
    exact ⟨t, m, L, m1, k3, by rw [m3]; exact k4, k5, k6, k8, k11, k9, k10, y, m2, by omega, ew, s T _ r2 hE (by omega), zsf_196 F30 196 2 (by decide) (by decide), by omega, by omega⟩
  refine ⟨fun nw T hC hE => ?_, fun nw T hC hE => ?_⟩
  · obtain ⟨t, m, L, m1, k3, k4, k5, k6, k8, k11, k9, k10, y, m2, n16, ew, c30, n30, b1, b2⟩ := X T hC hE
    have r := cd T _ c30 hE (by omega)
    have z : (zCnd T ((zSu T (t + 1)).2.2 + 1)).2.1 = 0 := Classical.byContradiction (fun z => nw (r.2 z).1)
    obtain ⟨_, r2, r3⟩ := r.1 z
    obtain ⟨e1, e2, e3⟩ := zEa_s r3 (zsf_196 F30)
    have f : ∀ (a : Nat) (i : Int), (199 ≤ a ∧ a ≤ 202) ∨ (a = 196 ∧ i = 7) → g33 a i = g16 a i := fun a i h => by rw [F33 a i (fun q => by unfold fr_LawReader_conditions at q; omega), F30 a i (fun q => by unfold fr_Tokens_step at q; omega)]
    have q1 := zCnd_b z
    refine ⟨t, m, L, zLs_c m1 (fun i i0 i1 => e3 i (by omega)) (fun i i0 i1 => ⟨f 199 i (by omega), f 200 i (by omega), f 201 i (by omega), f 202 i (by omega)⟩), k3, by rw [f 196 7 (by omega)]; exact k4, k5, k6, k8, k11, k9, k10, y, by rw [ew]; exact z, by rw [ew]; exact r2, ?_, n16, by rw [ew]; exact e1, by rw [ew]; omega, by rw [ew]; omega⟩
    rw [ew]
    exact zEl_a (zEl_c m2 (fun i i0 i1 => e3 i (by omega))) (by rw [← n16]; exact e2)
  · obtain ⟨t, m, L, m1, k3, k4, k5, k6, k8, k11, k9, k10, y, m2, n16, ew, c30, n30, b1, b2⟩ := X T hC hE
    have r := cd T _ c30 hE (by omega)
    have z : ¬ (zCnd T ((zSu T (t + 1)).2.2 + 1)).2.1 = 0 := fun z => by have := (r.1 z).1; omega
    rw [zLn_w k9 (by omega) y (by rw [ew]; exact z), ew] at k5
    exact zLwf_n k5 z rfl (r.2 z).2
theorem zLwj_f (h : zLwj k kd a b g0 g) (tk : ∀ (T : zyT) (t : Int), zyC T g t → zyE T → zyS T g1 t (zyK T 3 59 t) ∧ (zyK T 3 59 t = 0 → v = 1) ∧ (¬ zyK T 3 59 t = 0 → v = 0)) (c : v = 0) : zLwf 0 g0 g1 := fun T hC hE => by
  obtain ⟨t, m, L, k1, k2, k3, k4, k5, k6, k7, k8, k9, k10, k11, k12, k13, k14, k15, k16, k17⟩ := h T hC hE
  obtain ⟨y1, y2, y3⟩ := tk T _ k12 hE
  have z : ¬ zyK T 3 59 (zWhn T (zSu T (t + 1)).2.2).2.2 = 0 := fun z => by have := y2 z; omega
  have ns : ¬ zSg T 59 (zWhn T (zSu T (t + 1)).2.2).2.2 := fun q => z (zyK_0.2 q)
  rw [zLn_n k8 (by omega) k10 k11 ns] at k4
  have f := y1.2 z
  rw [zyK_1 ns] at f
  exact zLwf_n (e := 1) k4 (by decide) rfl f
theorem zLwj_y {g10 : zi_M} (h : zLwj k kd a b g0 g) (tk : ∀ (T : zyT) (t : Int), zyC T g t → zyE T → zyS T g1 t (zyK T 3 59 t) ∧ (zyK T 3 59 t = 0 → v = 1) ∧ (¬ zyK T 3 59 t = 0 → v = 0)) (F1 : zk_fr fr_Tokens_take g g1) (c : ¬ v = 0) (al : zAld kd a b g1 g10) (F10 : zk_fr fr_Law_addLine g1 g10) : zLwl (k + 1) g0 g10 := fun T hC hE => by
  obtain ⟨t, m, L, k1, k2, k3, k4, k5, k6, k7, k8, k9, k10, k11, k12, k13, k14, k15, k16, k17⟩ := h T hC hE
  obtain ⟨y1, y2, y3⟩ := tk T _ k12 hE
  have z : zyK T 3 59 (zWhn T (zSu T (t + 1)).2.2).2.2 = 0 := Classical.byContradiction (fun z => c (y3 z))
  have sg := zyK_0.1 z
  rw [zLn_y k8 (by omega) k10 k11 sg, zcat_p] at k4
  have f : ∀ (a : Nat) (i : Int), 196 ≤ a → a ≤ 202 → g1 a i = g a i := fun a i h1 h2 => F1 a i (fun q => by unfold fr_Tokens_take at q; omega)
  have f10 : ∀ (a : Nat) (i : Int), (191 ≤ a ∧ a ≤ 194) ∨ a = 197 ∨ a = 198 ∨ (a = 196 ∧ i = 2) → g10 a i = g1 a i := fun a i h => F10 a i (fun q => by unfold fr_Law_addLine at q; omega)
  have e7 : g1 196 7 = k := by rw [f 196 7 (by decide) (by decide)]; exact k3
  unfold zAld at al
  rw [e7] at al
  obtain ⟨a1, a2, a3, a4, a5, a6⟩ := al k7
  have n2 : g10 196 2 = g 196 2 := by rw [f10 196 2 (by omega), f 196 2 (by decide) (by decide)]
  have n2' : g1 196 2 = g 196 2 := f 196 2 (by decide) (by decide)
  have cc : ∀ i : Int, g10 197 i = g 197 i ∧ g10 198 i = g 198 i := fun i => ⟨by rw [f10 197 i (by omega), f 197 i (by decide) (by decide)], by rw [f10 198 i (by omega), f 198 i (by decide) (by decide)]⟩
  refine ⟨(zWhn T (zSu T (t + 1)).2.2).2.2 + 1, m, L ++ [(T.2.1 t, (zSu T (t + 1)).1, (zWhn T (zSu T (t + 1)).2.2).1)], zyC_m (y1.1 z) (fun a i h1 h2 => f10 a i (by omega)), zLs_a (e := a) (zLs_c k1 (fun i _ _ => cc i) (fun i i0 i1 => ?_)) ?_, by rw [List.length_append, List.length_cons, List.length_nil]; omega, a1, k4, by omega, by omega, by omega, by omega⟩
  · have q := a6 i (by omega)
    rw [q.1, q.2.1, q.2.2.1, q.2.2.2]
    exact ⟨f 199 i (by decide) (by decide), f 200 i (by decide) (by decide), f 201 i (by decide) (by decide), f 202 i (by decide) (by decide)⟩
  · rw [show (0 : Int) + (L.length : Int) = k by omega]
    refine ⟨⟨by rw [a2]; exact k9, a3, by rw [a4]; exact k14, ?_, zEl_c k13 (fun i _ _ => cc i)⟩, ?_⟩
    · rw [a5, n2', k15, k14]
    · show a + ((zSu T (t + 1)).1.length : Int) + ((zWhn T (zSu T (t + 1)).2.2).1.length : Int) = g10 196 2
      rw [n2, k15, k14]
end
