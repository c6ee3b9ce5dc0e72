-- THE LAW: both run the same codes to the same numbers
noncomputable def zru1 (fc : Int → Int) : List (Int × Int) → List Int → List Int
  | [], s => s
  | x :: L, s => zru1 fc L (zst1 (fun _ => x.1) (fun _ => x.2) fc 0 s)
noncomputable def zru2 (fc : Int → Int) : List (Int × Int) → List Int → List Int
  | [], s => s
  | x :: L, s => zru2 fc L (zst2 (fun _ => x.1) (fun _ => x.2) fc 0 s)
theorem zru1_of {st nm fc : Int → Int} : ∀ (L : List (Int × Int)) (i : Int) (s : List Int), zEl st nm L i → zstn st nm fc L.length i s = zru1 fc L s
  | [], _, _, _ => rfl
  | x :: L, i, s, h => by
    show zstn st nm fc L.length (i + 1) (zst1 st nm fc i s) = zru1 fc L (zst1 (fun _ => x.1) (fun _ => x.2) fc 0 s)
    rw [zru1_of L (i + 1) _ h.2]
    have e : zst1 st nm fc i s = zst1 (fun _ => x.1) (fun _ => x.2) fc 0 s := by
      unfold zst1
      rw [h.1.1, h.1.2]
    rw [e]
theorem zru2_of {st nm fc : Int → Int} : ∀ (L : List (Int × Int)) (i : Int) (s : List Int), zEl st nm L i → zsn2 st nm fc L.length i s = zru2 fc L s
  | [], _, _, _ => rfl
  | x :: L, i, s, h => by
    show zsn2 st nm fc L.length (i + 1) (zst2 st nm fc i s) = zru2 fc L (zst2 (fun _ => x.1) (fun _ => x.2) fc 0 s)
    rw [zru2_of L (i + 1) _ h.2]
    have e : zst2 st nm fc i s = zst2 (fun _ => x.1) (fun _ => x.2) fc 0 s := by
      unfold zst2
      rw [h.1.1, h.1.2]
    rw [e]
theorem zru2_a {fc : Int → Int} : ∀ (L M : List (Int × Int)) (s : List Int), zru2 fc (L ++ M) s = zru2 fc M (zru2 fc L s)
  | [], _, _ => rfl
  | x :: L, M, s => zru2_a L M _
/-- what lies on the stack is of its kind -/
noncomputable def zms : List Bool → List Int → Prop
  | [], [] => True
  | b :: τ, x :: s => (b = true → x = 0 ∨ x = 1) ∧ zms τ s
  | _, _ => False
theorem zms_l : ∀ {τ : List Bool} {s : List Int}, zms τ s → s.length = τ.length
  | [], [], _ => rfl
  | b :: τ, x :: s, h => by rw [List.length_cons, List.length_cons, zms_l h.2]
  | [], x :: s, h => False.elim h
  | b :: τ, [], h => False.elim h
theorem zms_1 {b : Bool} {τ : List Bool} {s : List Int} (h : zms (b :: τ) s) : ∃ (x : Int) (t : List Int), s = x :: t ∧ (b = true → x = 0 ∨ x = 1) ∧ zms τ t := by
  cases s with
  | nil => exact False.elim h
  | cons x t => exact ⟨x, t, rfl, h.1, h.2⟩
theorem zbo {a b : Int} (ha : a = 0 ∨ a = 1) (hb : b = 0 ∨ b = 1) : zi_and a b = zi_w (a * b) ∧ zi_or a b = (if 0 < zi_w (a + b) then 1 else 0) ∧ (zi_w (a * b) = 0 ∨ zi_w (a * b) = 1) := by
  rcases ha with rfl | rfl <;> rcases hb with rfl | rfl <;> decide +kernel
theorem zbn {a : Int} (ha : a = 0 ∨ a = 1) : zi_w (1 - a) = 0 ∨ zi_w (1 - a) = 1 := by
  rcases ha with rfl | rfl <;> decide +kernel
theorem zb01 {p : Prop} [Decidable p] : (if p then (1 : Int) else 0) = 0 ∨ (if p then (1 : Int) else 0) = 1 := by
  by_cases h : p
  · rw [if_pos h]; exact Or.inr rfl
  · rw [if_neg h]; exact Or.inl rfl
section
variable {fc : Int → Int}
theorem zst1_u {h n : Int} {s : List Int} : zst1 (fun _ => h) (fun _ => n) fc 0 s = zite (h ≤ 1) (zite ((s.length : Int) < 40) (zite (h = 0 ∨ n < 0 ∨ 9 ≤ n) n (fc n) :: s) s) (zite (h = 5) (zite (n = 0) s (zs1 (fun x => Int.tdiv x n) s)) (zite (h = 9) (zs1 (fun x => zi_w (1 - x)) s) (zs2 (zjo h) s))) := rfl
theorem zst2_u {h n : Int} {s : List Int} : zst2 (fun _ => h) (fun _ => n) fc 0 s = zite (h = 0) (n :: s) (zite (h = 1) (fc n :: s) (zite (h = 9) (zs1 (fun x => zi_w (1 - x)) s) (zs2 (zto h) s))) := rfl
theorem zst1_o {h n : Int} {s : List Int} (a : ¬ h ≤ 1) (b : ¬ h = 5) (c : ¬ h = 9) : zst1 (fun _ => h) (fun _ => n) fc 0 s = zs2 (zjo h) s := by
  rw [zst1_u]
  rw [zite_n a, zite_n b, zite_n c]
theorem zst2_o {h n : Int} {s : List Int} (a : ¬ h ≤ 1) (c : ¬ h = 9) : zst2 (fun _ => h) (fun _ => n) fc 0 s = zs2 (zto h) s := by
  rw [zst2_u]
  rw [zite_n (by omega), zite_n (by omega), zite_n c]
theorem zru_1 {x : Int × Int} {τ τ1 : List Bool} {s : List Int} (h : zw1 x τ τ1) (m : zms τ s) (ok : x.1 = 1 → 0 ≤ x.2 ∧ x.2 ≤ 8) : zru2 fc (if x.1 = 5 then [(0, x.2), (5, 0)] else [x]) s = zst1 (fun _ => x.1) (fun _ => x.2) fc 0 s ∧ zms τ1 (zst1 (fun _ => x.1) (fun _ => x.2) fc 0 s) := by
  have ln := zms_l m
  rcases h with ⟨h, d, e⟩ | ⟨h, σ, e, e1⟩ | ⟨h, z, σ, e, e1⟩ | ⟨h, σ, e, e1⟩ | ⟨h, σ, e, e1⟩ | ⟨h, σ, e, e1⟩
  · rw [if_neg (by omega), e]
    show zst2 (fun _ => x.1) (fun _ => x.2) fc 0 s = _ ∧ _
    rcases h with h | h
    · have q : zst1 (fun _ => x.1) (fun _ => x.2) fc 0 s = x.2 :: s := by
        rw [zst1_u]
        rw [zite_p (by omega), zite_p (by omega), zite_p (Or.inl h)]
      have r : zst2 (fun _ => x.1) (fun _ => x.2) fc 0 s = x.2 :: s := by
        rw [zst2_u]
        rw [zite_p h]
      rw [q, r]
      exact ⟨rfl, fun w => (by cases w), m⟩
    · have k := ok h
      have q : zst1 (fun _ => x.1) (fun _ => x.2) fc 0 s = fc x.2 :: s := by
        rw [zst1_u]
        rw [zite_p (by omega), zite_p (by omega), zite_n (by omega)]
      have r : zst2 (fun _ => x.1) (fun _ => x.2) fc 0 s = fc x.2 :: s := by
        rw [zst2_u]
        rw [zite_n (by omega), zite_p h]
      rw [q, r]
      exact ⟨rfl, fun w => (by cases w), m⟩
  · rw [if_neg (by omega), e1]
    rw [e] at m
    obtain ⟨y, s1, es, m1, m2⟩ := zms_1 m
    obtain ⟨w, s2, es2, m3, m4⟩ := zms_1 m2
    subst es es2
    show zst2 (fun _ => x.1) (fun _ => x.2) fc 0 _ = _ ∧ _
    rw [zst1_o (by omega) (by omega) (by omega), zst2_o (by omega) (by omega)]
    refine ⟨?_, fun q => (by cases q), m4⟩
    show zto x.1 w y :: s2 = zjo x.1 w y :: s2
    have e2 : zto x.1 w y = zjo x.1 w y := by
      unfold zto zjo
      rcases h with h | h | h <;> rw [h] <;> rfl
    rw [e2]
  · rw [if_pos h, e1, e]
    rw [e] at m
    obtain ⟨y, s1, es, m1, m2⟩ := zms_1 m
    subst es
    have q : zst1 (fun _ => x.1) (fun _ => x.2) fc 0 (y :: s1) = Int.tdiv y x.2 :: s1 := by
      rw [zst1_u]
      rw [zite_n (by omega), zite_p h, zite_n z]
      rfl
    rw [q]
    refine ⟨?_, fun q => (by cases q), m2⟩
    show zst2 (fun _ => 5) (fun _ => 0) fc 0 (zst2 (fun _ => 0) (fun _ => x.2) fc 0 (y :: s1)) = _
    have r : zst2 (fun _ => 0) (fun _ => x.2) fc 0 (y :: s1) = x.2 :: y :: s1 := by
      rw [zst2_u]
      rw [zite_p rfl]
    rw [r, zst2_o (by decide) (by decide)]
    show zto 5 y x.2 :: s1 = _
    rfl
  · rw [if_neg (by omega), e1]
    rw [e] at m
    obtain ⟨y, s1, es, m1, m2⟩ := zms_1 m
    obtain ⟨w, s2, es2, m3, m4⟩ := zms_1 m2
    subst es es2
    show zst2 (fun _ => x.1) (fun _ => x.2) fc 0 _ = _ ∧ _
    rw [zst1_o (by omega) (by omega) (by omega), zst2_o (by omega) (by omega)]
    have e2 : zto x.1 w y = zjo x.1 w y ∧ (zjo x.1 w y = 0 ∨ zjo x.1 w y = 1) := by
      unfold zto zjo
      rcases h with h | h | h <;> rw [h]
      · exact ⟨rfl, zb01 (p := w < y)⟩
      · exact ⟨rfl, zb01 (p := w = y)⟩
      · exact ⟨rfl, zb01 (p := y < w)⟩
    refine ⟨?_, fun _ => e2.2, m4⟩
    show zto x.1 w y :: s2 = zjo x.1 w y :: s2
    rw [e2.1]
  · rw [if_neg (by omega), e1, e]
    rw [e] at m
    obtain ⟨y, s1, es, m1, m2⟩ := zms_1 m
    subst es
    have q : zst1 (fun _ => x.1) (fun _ => x.2) fc 0 (y :: s1) = zi_w (1 - y) :: s1 := by
      rw [zst1_u]
      rw [zite_n (by omega), zite_n (by omega), zite_p h]
      rfl
    have r : zst2 (fun _ => x.1) (fun _ => x.2) fc 0 (y :: s1) = zi_w (1 - y) :: s1 := by
      rw [zst2_u]
      rw [zite_n (by omega), zite_n (by omega), zite_p h]
      rfl
    show zst2 (fun _ => x.1) (fun _ => x.2) fc 0 _ = _ ∧ _
    rw [q, r]
    exact ⟨rfl, fun _ => zbn (m1 rfl), m2⟩
  · rw [if_neg (by omega), e1]
    rw [e] at m
    obtain ⟨y, s1, es, m1, m2⟩ := zms_1 m
    obtain ⟨w, s2, es2, m3, m4⟩ := zms_1 m2
    subst es es2
    show zst2 (fun _ => x.1) (fun _ => x.2) fc 0 _ = _ ∧ _
    rw [zst1_o (by omega) (by omega) (by omega), zst2_o (by omega) (by omega)]
    have b := zbo (m3 rfl) (m1 rfl)
    have e2 : zto x.1 w y = zjo x.1 w y ∧ (zjo x.1 w y = 0 ∨ zjo x.1 w y = 1) := by
      unfold zto zjo
      rcases h with h | h <;> rw [h]
      · show zi_w (w * y) = zi_and w y ∧ (zi_and w y = 0 ∨ zi_and w y = 1)
        rw [b.1]
        exact ⟨rfl, b.2.2⟩
      · show (if 0 < zi_w (w + y) then (1 : Int) else 0) = zi_or w y ∧ (zi_or w y = 0 ∨ zi_or w y = 1)
        rw [b.2.1]
        exact ⟨rfl, zb01⟩
    refine ⟨?_, fun _ => e2.2, m4⟩
    show zto x.1 w y :: s2 = zjo x.1 w y :: s2
    rw [e2.1]
/-- the numbers of the facts -/
noncomputable def zfk : List (Int × Int) → Prop
  | [] => True
  | x :: L => (x.1 = 1 → 0 ≤ x.2 ∧ x.2 ≤ 8) ∧ zfk L
theorem zru_eq : ∀ (L : List (Int × Int)) (τ τ' : List Bool) (s : List Int), zwty L τ τ' → zms τ s → zfk L → zru2 fc (zex L) s = zru1 fc L s ∧ zms τ' (zru1 fc L s)
  | [], τ, τ', s, h, m, _ => by
    have e : τ = τ' := h
    rw [← e]
    exact ⟨rfl, m⟩
  | x :: L, τ, τ', s, h, m, k => by
    obtain ⟨τ1, h1, h2⟩ := h
    have q := zru_1 (fc := fc) h1 m k.1
    have r := zru_eq L τ1 τ' _ h2 q.2 k.2
    show zru2 fc ((if x.1 = 5 then [(0, x.2), (5, 0)] else [x]) ++ zex L) s = zru1 fc L (zst1 (fun _ => x.1) (fun _ => x.2) fc 0 s) ∧ _
    rw [zru2_a, q.1]
    exact r
/-- a run of one piece -/
theorem zwm_eq {o a o' a' : Int → Int} {L : List (Int × Int)} {i j i' j' : Int} {τ' : List Bool} (h : zEl o a L i) (h' : zEl o' a' (zex L) i') (e : j = i + (L.length : Int)) (e' : j' = i' + ((zex L).length : Int)) (t : zwty L [] τ') (k : zfk L) : zwo o a fc i j = zmo o' a' fc i' j' := by
  unfold zwo zmo
  rw [show (j - i).toNat = L.length by omega, show (j' - i').toNat = (zex L).length by omega, zru1_of L i [] h, zru2_of (zex L) i' [] h', (zru_eq L [] τ' [] t trivial k).1]
noncomputable def zgl : List zLi → Prop
  | [] => True
  | x :: Ls => (zwty x.2.1 [] [false] ∧ zfk x.2.1 ∧ (x.2.2 = [] ∨ zwty x.2.2 [] [true]) ∧ zfk x.2.2) ∧ zgl Ls
theorem zEl_s {o a : Int → Int} : ∀ {L M : List (Int × Int)} {s : Int}, zEl o a (L ++ M) s → zEl o a L s ∧ zEl o a M (s + (L.length : Int))
  | [], M, s, h => by
    have e : s + ((([] : List (Int × Int)).length : Nat) : Int) = s := by show s + (0 : Int) = s; omega
    rw [e]
    exact ⟨trivial, h⟩
  | x :: L, M, s, h => by
    have i := zEl_s (L := L) h.2
    rw [List.length_cons, show s + ((L.length + 1 : Nat) : Int) = s + 1 + (L.length : Int) by omega]
    exact ⟨⟨h.1, i.1⟩, i.2⟩
theorem zex_n {L : List (Int × Int)} : (L.length : Int) ≤ ((zex L).length : Int) ∧ (L = [] → zex L = []) := by
  refine ⟨?_, fun e => by rw [e]; rfl⟩
  induction L with
  | nil => exact Int.le_refl _
  | cons x t i =>
    show ((t.length + 1 : Nat) : Int) ≤ (((if x.1 = 5 then [(0, x.2), (5, 0)] else [x]) ++ zex t).length : Int)
    rw [List.length_append]
    have : 1 ≤ (if x.1 = 5 then [((0 : Int), x.2), (5, 0)] else [x]).length := by
      split
      · show 1 ≤ 2
        decide
      · exact Nat.le_refl _
    omega
theorem zln_eq {o a K F W B o' a' K' F' W' B' : Int → Int} {kd : Int} : ∀ (Ls : List zLi) (k s e s' e' : Int), 0 ≤ k → zLs o a K F W B Ls k s e → zLs o' a' K' F' W' B' (Ls.map zxl) k s' e' → zgl Ls → zln1 K W B (zwo o a fc) kd Ls.length k = zln1 K' W' B' (zmo o' a' fc) kd Ls.length k ∧ (¬ zln1 K W B (zwo o a fc) kd Ls.length k = -1 → zwo o a fc (F (zln1 K W B (zwo o a fc) kd Ls.length k)) (W (zln1 K W B (zwo o a fc) kd Ls.length k)) = zmo o' a' fc (F' (zln1 K W B (zwo o a fc) kd Ls.length k)) (W' (zln1 K W B (zwo o a fc) kd Ls.length k)))
  | [], _, _, _, _, _, _, _, _, _ => ⟨rfl, fun h => absurd rfl h⟩
  | x :: Ls, k, s, e, s', e', k0, h, h', g => by
    obtain ⟨⟨h1, h2, h3, h4, h5⟩, h6⟩ := h
    obtain ⟨⟨h1', h2', h3', h4', h5'⟩, h6'⟩ := h'
    obtain ⟨⟨g1, g2, g3, g4⟩, g5⟩ := g
    have h1'' : K' k = x.1 := h1'
    have h3'' : W' k = s' + ((zex x.2.1).length : Int) := h3'
    have h4'' : B' k = s' + ((zex x.2.1).length : Int) + ((zex x.2.2).length : Int) := h4'
    have h5'' : zEl o' a' (zex x.2.1 ++ zex x.2.2) s' := h5'
    obtain ⟨p1, p2⟩ := zEl_s h5
    obtain ⟨p1', p2'⟩ := zEl_s h5''
    have ev1 : zwo o a fc (F k) (W k) = zmo o' a' fc (F' k) (W' k) := zwm_eq (by rw [h2]; exact p1) (by rw [h2']; exact p1') (by rw [h3, h2]) (by rw [h3'', h2']) g1 g2
    have cnd : (K k = kd ∧ (B k ≤ W k ∨ ¬ zwo o a fc (W k) (B k) = 0)) ↔ (K' k = kd ∧ (B' k ≤ W' k ∨ ¬ zmo o' a' fc (W' k) (B' k) = 0)) := by
      rw [h1, h1'']
      rcases g3 with e0 | g3
      · have e1 : ((x.2.2).length : Int) = 0 := by rw [e0]; rfl
        have e2 : ((zex x.2.2).length : Int) = 0 := by rw [zex_n.2 e0]; rfl
        exact ⟨fun q => ⟨q.1, Or.inl (by omega)⟩, fun q => ⟨q.1, Or.inl (by omega)⟩⟩
      · have ev2 : zwo o a fc (W k) (B k) = zmo o' a' fc (W' k) (B' k) := zwm_eq (by rw [h3]; exact p2) (by rw [h3'']; exact p2') (by rw [h4, h3]) (by rw [h4'', h3'']) g3 g4
        have ln : ((x.2.2).length : Int) ≤ ((zex x.2.2).length : Int) := zex_n.1
        have ne : ¬ x.2.2 = [] := fun q => by
          rw [q] at g3
          have q3 : ([] : List Bool) = [true] := g3
          cases q3
        have pos : 0 < ((x.2.2).length : Int) := by
          cases q : x.2.2 with
          | nil => exact absurd q ne
          | cons y z => rw [List.length_cons]; omega
        rw [ev2]
        exact ⟨fun q => ⟨q.1, q.2.elim (fun w => by exfalso; omega) Or.inr⟩, fun q => ⟨q.1, q.2.elim (fun w => by exfalso; omega) Or.inr⟩⟩
    have i := zln_eq (kd := kd) Ls (k + 1) _ e _ e' (by omega) h6 h6' g5
    rw [List.length_cons]
    by_cases c : K k = kd ∧ (B k ≤ W k ∨ ¬ zwo o a fc (W k) (B k) = 0)
    · have r : zln1 K W B (zwo o a fc) kd (Ls.length + 1) k = k := zite_p c
      have r' : zln1 K' W' B' (zmo o' a' fc) kd (Ls.length + 1) k = k := zite_p (cnd.1 c)
      rw [r, r']
      exact ⟨rfl, fun _ => ev1⟩
    · have r : zln1 K W B (zwo o a fc) kd (Ls.length + 1) k = zln1 K W B (zwo o a fc) kd Ls.length (k + 1) := zite_n c
      have r' : zln1 K' W' B' (zmo o' a' fc) kd (Ls.length + 1) k = zln1 K' W' B' (zmo o' a' fc) kd Ls.length (k + 1) := zite_n (fun q => c (cnd.2 q))
      rw [r, r']
      exact i
/-- what the law tells -/
theorem ztl_eq {o a K F W B o' a' K' F' W' B' : Int → Int} {kd n df most s e s' e' : Int} (Ls : List zLi) (hn : n = (Ls.length : Int)) (h : zLs o a K F W B Ls 0 s e) (h' : zLs o' a' K' F' W' B' (Ls.map zxl) 0 s' e') (g : zgl Ls) : ztl1 n K F W B (zwo o a fc) kd df most = ztl1 n K' F' W' B' (zmo o' a' fc) kd df most := by
  obtain ⟨i1, i2⟩ := zln_eq (fc := fc) (kd := kd) Ls 0 s e s' e' (Int.le_refl _) h h' g
  unfold ztl1
  rw [show n.toNat = Ls.length by omega, ← i1]
  by_cases c : zln1 K W B (zwo o a fc) kd Ls.length 0 = -1
  · rw [zite_p c, zite_p c]
  · rw [zite_n c, zite_n c, i2 c]
end
