-- THE REFERENCE'S DAYS: what a law tells there
noncomputable def zto (h a b : Int) : Int := if h = 2 then zi_w (a + b) else if h = 3 then zi_w (a - b) else if h = 4 then zi_w (a * b) else if h = 5 then Int.tdiv a b else if h = 6 then (if a < b then 1 else 0) else if h = 7 then (if a = b then 1 else 0) else if h = 8 then (if b < a then 1 else 0) else if h = 10 then zi_w (a * b) else (if 0 < zi_w (a + b) then 1 else 0)
noncomputable def zst2 (op ar fc : Int → Int) (i : Int) (s : List Int) : List Int :=
  zite (op i = 0) (ar i :: s) (zite (op i = 1) (fc (ar i) :: s) (zite (op i = 9) (zs1 (fun x => zi_w (1 - x)) s) (zs2 (zto (op i)) s)))
noncomputable def zsn2 (op ar fc : Int → Int) : Nat → Int → List Int → List Int
  | 0, _, s => s
  | k + 1, i, s => zsn2 op ar fc k (i + 1) (zst2 op ar fc i s)
noncomputable def zmo (op ar fc : Int → Int) (a b : Int) : Int := zbot (zsn2 op ar fc (b - a).toNat a [])
theorem zsn2_s {op ar fc : Int → Int} {b i : Int} {s : List Int} (h : i < b) : zsn2 op ar fc (b - i).toNat i s = zsn2 op ar fc (b - (i + 1)).toNat (i + 1) (zst2 op ar fc i s) := by
  rw [show (b - i).toNat = (b - (i + 1)).toNat + 1 by omega]
  rfl
/-- no line without a number of its own -/
noncomputable def zLk (g : zi_M) : Prop := ∀ l : Int, 0 ≤ l → l < g 224 0 → g 226 l < g 227 l
noncomputable def zLm (g : zi_M) (kd p w : Int) (f : Int → Int) : Int :=
  ztl1 (g 224 0) (g 225) (g 226) (g 227) (g 228) (zmo (g 229) (g 230) (zfct (g 218) (g 219) (g 220) f p w)) kd (if kd = 0 then 2 else if kd = 1 then f 3 else zi_w (20 * f 3)) (if kd = 2 then 1000 else 9)
theorem zLm_c {g g' : zi_M} (e0 : g' 224 0 = g 224 0) (e : ∀ (a : Nat) (i : Int), (225 ≤ a ∧ a ≤ 230) ∨ (218 ≤ a ∧ a ≤ 220) → g' a i = g a i) : zLm g' = zLm g := by
  have h : ∀ a : Nat, (225 ≤ a ∧ a ≤ 230) ∨ (218 ≤ a ∧ a ≤ 220) → g' a = g a := fun a q => funext fun i => e a i q
  unfold zLm
  rw [e0, h 225 (by omega), h 226 (by omega), h 227 (by omega), h 228 (by omega), h 229 (by omega), h 230 (by omega), h 218 (by omega), h 219 (by omega), h 220 (by omega)]
theorem zLk_c {g g' : zi_M} (h : zLk g) (e0 : g' 224 0 = g 224 0) (e : ∀ (a : Nat) (i : Int), (a = 226 ∨ a = 227) → g' a i = g a i) : zLk g' := fun l l0 l1 => by
  rw [e 226 l (Or.inl rfl), e 227 l (Or.inr rfl)]
  exact h l l0 (by omega)
theorem zsn2_c {op ar fc fc' : Int → Int} : ∀ (k : Nat) (i : Int) (s : List Int), (∀ j : Int, i ≤ j → j < i + k → op j = 1 → fc' (ar j) = fc (ar j)) → zsn2 op ar fc' k i s = zsn2 op ar fc k i s
  | 0, _, _, _ => rfl
  | k + 1, i, s, e => by
    show zsn2 op ar fc' k (i + 1) (zst2 op ar fc' i s) = zsn2 op ar fc k (i + 1) (zst2 op ar fc i s)
    rw [show zst2 op ar fc' i s = zst2 op ar fc i s by
      unfold zst2
      by_cases o : op i = 1
      · rw [e i (Int.le_refl _) (by omega) o]
      · rw [zite_n o, zite_n o]]
    exact zsn2_c k (i + 1) _ (fun j a b => e j (by omega) (by omega))
-- the row there
theorem zVM_hd {T : Int} {g : zi_M} {p i : Int} (hp : 0 ≤ p ∧ p ≤ 9) (hi : 0 ≤ i ∧ i < 20) : zVM T g (36 + 20 * p + i) = g 215 (36 + 20 * p + i) := zVM_r ⟨by omega, by omega⟩ (by omega)
theorem zVM_hc {T : Int} {g : zi_M} {p : Int} (hp : 0 ≤ p ∧ p ≤ 9) : zVM T g (26 + p) = g 215 (26 + p) := zVM_r ⟨by omega, by omega⟩ (by omega)
theorem zVM_c {T : Int} {g g' : zi_M} (e : ∀ (a : Nat) (i : Int), (a = 215 ∨ a = 221 ∨ a = 237 ∨ a = 238 ∨ (a = 214 ∧ i = 43)) → g' a i = g a i) : zVM T g' = zVM T g := funext fun k => by
  unfold zVM
  by_cases d : zdm T k
  · rw [zite_p d, zite_p d]
    refine e _ _ ?_
    unfold zdm at d
    rcases zma_cases k with q | q | q | q | q | q | q | q | q | q
    all_goals first | omega | (rw [q.1]; exact Or.inr (Or.inr (Or.inr (Or.inr ⟨by decide, by decide⟩))))
  · rw [zite_n d, zite_n d]
noncomputable def zMS (g : zi_M) (p n s : Int) : Prop := ∀ T : Int, s = zhs (zVM T g) (36 + 20 * p) n.toNat
theorem zMS_0 {g : zi_M} {p : Int} : zMS g p 0 0 := fun _ => rfl
theorem zMS_s {g : zi_M} {p n s v : Int} (h : zMS g p n s) (e : v = g 215 (36 + 20 * p + n)) (hp : 0 ≤ p ∧ p ≤ 9) (h0 : 0 ≤ n) (h1 : n < 20) : zMS g p (n + 1) (zi_or s (zi_shl 1 v)) := fun T => by
  have w := h T
  rw [show (n + 1).toNat = n.toNat + 1 by omega]
  show _ = zi_or (zhs (zVM T g) (36 + 20 * p) n.toNat) (zi_shl 1 (zVM T g (36 + 20 * p + ((n.toNat : Nat) : Int))))
  rw [← w, show ((n.toNat : Nat) : Int) = n by omega, zVM_hd hp ⟨h0, h1⟩, e]
noncomputable def zMF (g : zi_M) (p s : Int) : Prop := ∀ T : Int, s = zhs (zVM T g) (36 + 20 * p) (zVM T g (26 + p)).toNat
theorem zMS_x {g : zi_M} {p n s : Int} (h : zMS g p n s) (hp : 0 ≤ p ∧ p ≤ 9) (e : n = g 215 (26 + p)) : zMF g p s := fun T => by
  rw [zVM_hc hp, ← e]
  exact h T
noncomputable def zMk (p w : Int) (g g' : zi_M) (v : Int) : Prop := ∀ T : Int, (zInq (zVM T g) p w → v = 1 ∧ zVM T g' = zInr (zVM T g) p w) ∧ (¬ zInq (zVM T g) p w → v = 0 ∧ zVM T g' = zVM T g)
theorem zMk_a {g : zi_M} {p w : Int} (hp : 0 ≤ p ∧ p ≤ 9) (c : g 215 (26 + p) = 20) : zMk p w g g 0 := fun T => ⟨fun q => by
  have := q.1
  rw [zVM_hc hp] at this
  omega, fun _ => ⟨rfl, rfl⟩⟩
theorem zMk_c {g : zi_M} {p w s v : Int} (h : zMF g p s) (t : ¬ zi_and (zi_shr s w) 1 = 1 → v = 0) (c : ¬ v = 0) : zMk p w g g 0 := fun T => ⟨fun z => by
  have := z.2
  rw [← h T] at this
  exact absurd (t this) c, fun _ => ⟨rfl, rfl⟩⟩
theorem zMk_b {g g7 g8 : zi_M} {p w s v : Int} (h : zMF g p s) (hp : 0 ≤ p ∧ p ≤ 9) (t : zi_and (zi_shr s w) 1 = 1 → v = 1) (c : v = 0) (c2 : ¬ g 215 (26 + p) = 20) (b : 0 ≤ g 215 (26 + p) ∧ g 215 (26 + p) ≤ 20) (e7 : g7 = zi_u g 215 (36 + 20 * p + g 215 (26 + p)) w) (e8 : g8 = zi_u g7 215 (26 + p) (g7 215 (26 + p) + 1)) : zMk p w g g8 1 := fun T => by
  have yes : zInq (zVM T g) p w := ⟨by rw [zVM_hc hp]; omega, by rw [← h T]; exact fun z => by have := t z; omega⟩
  refine ⟨fun _ => ⟨rfl, ?_⟩, fun n => absurd yes n⟩
  rw [e8, zN_row ⟨by omega, by omega⟩ (by omega), show g7 215 (26 + p) = g 215 (26 + p) by rw [e7]; exact zi_u_ni (by omega), e7, zN_row ⟨by omega, by omega⟩ (by omega)]
  unfold zInr
  rw [zVM_hc hp]
noncomputable def zMw (a b c : Int) (g g' : zi_M) : Prop := ∀ T : Int, zVM T g' = zNt (g 214 5) (zVM T g) a b c
theorem zMw_a {g : zi_M} {a b c : Int} (h : ¬ g 214 5 = 0) : zMw a b c g g := fun T => by
  unfold zNt
  rw [zite_n (fun z => h z.1)]
theorem zMw_b {g : zi_M} {a b c : Int} (h : g 215 2 = 150) : zMw a b c g g := fun T => by
  unfold zNt
  rw [zite_n]
  rintro ⟨-, z⟩
  rw [zVM_r ⟨by decide, by decide⟩ (by omega)] at z
  omega
theorem zMw_c {g g4 g6 g8 g10 g11 : zi_M} {a b c : Int} (h : g 214 5 = 0) (h2 : ¬ g 215 2 = 150) (h3 : 0 ≤ g 215 2 ∧ g 215 2 ≤ 150) (e4 : g4 = zi_u g 221 (4 * g 215 2) (g 215 0)) (e6 : g6 = zi_u g4 221 (4 * g 215 2 + 1) a) (e8 : g8 = zi_u g6 221 (4 * g 215 2 + 2) b) (e10 : g10 = zi_u g8 221 (4 * g 215 2 + 3) c) (e11 : g11 = zi_u g10 215 2 (g10 215 2 + 1)) : zMw a b c g g11 := fun T => by
  have x2 : g10 215 2 = g 215 2 := by rw [e10, zi_u_ne (by decide), e8, zi_u_ne (by decide), e6, zi_u_ne (by decide), e4, zi_u_ne (by decide)]
  have v0 : zVM T g 0 = g 215 0 := zVM_r ⟨by decide, by decide⟩ (by omega)
  have v2 : zVM T g 2 = g 215 2 := zVM_r ⟨by decide, by decide⟩ (by omega)
  unfold zNt zNb
  rw [zite_p ⟨h, by rw [v2]; omega⟩, v2, v0, e11, zN_row ⟨by decide, by decide⟩ (by omega), x2, e10, zN_bk ⟨by omega, by omega⟩, e8, zN_bk ⟨by omega, by omega⟩, e6, zN_bk ⟨by omega, by omega⟩, e4, zN_bk ⟨by omega, by omega⟩]
  rw [show (1000 : Int) + (4 * g 215 2 + 1) = 1001 + 4 * g 215 2 by omega, show (1000 : Int) + (4 * g 215 2 + 2) = 1002 + 4 * g 215 2 by omega, show (1000 : Int) + (4 * g 215 2 + 3) = 1003 + 4 * g 215 2 by omega]
-- what is heard of one who sits there
noncomputable def zNI (p t : Int) (g0 g : zi_M) (m n w : Int) : Prop := ∀ T : Int, zls (g0 214 5) p (g0 215 (236 + t)) (16 - w).toNat w (m - n) (zVM T g) = zls (g0 214 5) p (g0 215 (236 + t)) 16 0 (zLm g0 0 p 0 (zVM T g0)) (zVM T g0)
theorem zNI_0 {p t v : Int} {g g2 : zi_M} (F : zk_fr fr_M_hearsOf g g2) (hv : zLk g → ∀ T : Int, v = zLm g 0 p 0 (zVM T g)) : zLk g → zNI p t g g2 v 0 0 := fun k T => by
  rw [zVM_c (g := g) (fun a i h => F a i (fun w => by unfold fr_M_hearsOf at w; omega)), hv k T, Int.sub_zero, Int.sub_zero]
  rfl
theorem zNI_a {p t m n w v : Int} {g0 g : zi_M} (h : zLk g0 → zNI p t g0 g m n w) (hw : w < 16) (e : g 215 (236 + t) = g0 215 (236 + t)) (b : zi_and (zi_shr (g 215 (236 + t)) w) 1 = 1 → v = 1) (c : v = 0) : zLk g0 → zNI p t g0 g m n (w + 1) := fun q T => by
  have z := h q T
  rw [e] at b
  rw [zls_st hw, zite_n (fun y => by have := b y.2.1; omega)] at z
  exact z
theorem zNI_b {p t m n w v : Int} {g0 g g7 : zi_M} (h : zLk g0 → zNI p t g0 g m n w) (hw : w < 16) (k : zMk p w g g7 v) (c : v = 0) : zLk g0 → zNI p t g0 g7 m n (w + 1) := fun q T => by
  have z := h q T
  obtain ⟨k1, k2⟩ := k T
  have nq : ¬ zInq (zVM T g) p w := fun y => by have := (k1 y).1; omega
  rw [zls_st hw, zite_n (fun y => nq y.2.2)] at z
  rw [(k2 nq).2]
  exact z
theorem zNI_c {p t m n w v u : Int} {g0 g g7 g10 : zi_M} (h : zLk g0 → zNI p t g0 g m n w) (hw : w < 16) (hn : n < m) (e : g 215 (236 + t) = g0 215 (236 + t)) (b : ¬ zi_and (zi_shr (g 215 (236 + t)) w) 1 = 1 → u = 0) (cu : ¬ u = 0) (k : zMk p w g g7 v) (c : ¬ v = 0) (W : zMw 0 p w g7 g10) (e5 : g7 214 5 = g0 214 5) : zLk g0 → zNI p t g0 g10 m (n + 1) (w + 1) := fun q T => by
  have z := h q T
  obtain ⟨k1, k2⟩ := k T
  rw [e] at b
  have bit : zi_and (zi_shr (g0 215 (236 + t)) w) 1 = 1 := Classical.byContradiction (fun y => cu (b y))
  have yq : zInq (zVM T g) p w := Classical.byContradiction (fun y => c (k2 y).1)
  rw [zls_st hw, zite_p ⟨by omega, bit, yq⟩] at z
  rw [W T, (k1 yq).2, e5, show m - (n + 1) = m - n - 1 by omega]
  exact z
noncomputable def zNF (p t : Int) (g0 g : zi_M) : Prop := ∀ T : Int, zVM T g = zls (g0 214 5) p (g0 215 (236 + t)) 16 0 (zLm g0 0 p 0 (zVM T g0)) (zVM T g0)
theorem zNI_x {p t m n w : Int} {g0 g : zi_M} (h : zLk g0 → zNI p t g0 g m n w) (c : 16 ≤ w ∨ m ≤ n) : zLk g0 → zNF p t g0 g := fun q T => by
  rw [← h q T]
  rcases c with c | c
  · rw [show (16 - w).toNat = 0 by omega]
    rfl
  · exact (zls_0 _ _ _ _ (by omega)).symm
-- the stack there
noncomputable def zrI (op ar fc : Int → Int) (b : Int) (g : zi_M) (top i R : Int) : Prop := ∃ s : List Int, zql g 236 s ∧ (s.length : Int) = top ∧ zbot (zsn2 op ar fc (b - i).toNat i s) = R
theorem zrI_0 {op ar fc : Int → Int} {a b : Int} {g : zi_M} : zrI op ar fc b g 0 a (zmo op ar fc a b) := ⟨[], trivial, rfl, rfl⟩
section
variable {op ar fc : Int → Int} {b i top top' R v : Int} {g g' : zi_M}
theorem zrI_st (hb : i < b) (h : zrI op ar fc b g top i R) (k : ∀ s : List Int, zql g 236 s → (s.length : Int) = top → zql g' 236 (zst2 op ar fc i s) ∧ ((zst2 op ar fc i s).length : Int) = top') : zrI op ar fc b g' top' (i + 1) R := by
  obtain ⟨s, h1, h2, h3⟩ := h
  obtain ⟨k1, k2⟩ := k s h1 h2
  rw [zsn2_s hb] at h3
  exact ⟨_, k1, k2, h3⟩
theorem zrI_p0 (hb : i < b) (h : zrI op ar fc b g top i R) (c : op i = 0) (e : g' = zi_u g 236 top (ar i)) : zrI op ar fc b g' (top + 1) (i + 1) R :=
  zrI_st hb h (fun s s1 s2 => by
    unfold zst2
    rw [zite_p c]
    exact ⟨zql_p s1 (by rw [s2]; exact e), by rw [List.length_cons]; omega⟩)
theorem zrI_p1 (hb : i < b) (h : zrI op ar fc b g top i R) (c : op i = 1) (e : g' = zi_u g 236 top (fc (ar i))) : zrI op ar fc b g' (top + 1) (i + 1) R :=
  zrI_st hb h (fun s s1 s2 => by
    unfold zst2
    rw [zite_n (by omega), zite_p c]
    exact ⟨zql_p s1 (by rw [s2]; exact e), by rw [List.length_cons]; omega⟩)
theorem zrI_n (hb : i < b) (h : zrI op ar fc b g top i R) (c : op i = 9) (t : 0 < top) (e : g' = zi_u g 236 (top - 1) (zi_w (1 - g 236 (top - 1)))) : zrI op ar fc b g' top (i + 1) R :=
  zrI_st hb h (fun s s1 s2 => by
    unfold zst2
    rw [zite_n (by omega), zite_n (by omega), zite_p c]
    cases s with
    | nil => simp at s2; omega
    | cons x q =>
      rw [List.length_cons] at s2
      have e1 : top - 1 = (q.length : Int) := by omega
      rw [e1] at e
      exact ⟨zql_t s1 (by rw [e, s1.1]), by show ((_ :: q).length : Int) = top; rw [List.length_cons]; omega⟩)
theorem zrI_j (hb : i < b) (h : zrI op ar fc b g top i R) (c0 : ¬ op i = 0) (c1 : ¬ op i = 1) (c9 : ¬ op i = 9) (t : 1 < top) (hv : v = zto (op i) (g 236 (top - 1 - 1)) (g 236 (top - 1))) (e : g' = zi_u g 236 (top - 1 - 1) v) : zrI op ar fc b g' (top - 1) (i + 1) R :=
  zrI_st hb h (fun s s1 s2 => by
    unfold zst2
    rw [zite_n c0, zite_n c1, zite_n c9]
    cases s with
    | nil => simp at s2; omega
    | cons y q =>
      cases q with
      | nil => simp at s2; omega
      | cons x q =>
        rw [List.length_cons, List.length_cons] at s2
        have e1 : top - 1 - 1 = (q.length : Int) := by omega
        have e2 : top - 1 = ((x :: q).length : Int) := by rw [List.length_cons]; omega
        rw [e1] at e hv
        rw [e2, s1.1, s1.2.1] at hv
        refine ⟨?_, by show ((_ :: q).length : Int) = top - 1; rw [List.length_cons]; omega⟩
        show zql g' 236 (zto (op i) x y :: q)
        rw [← hv]
        exact zql_p s1.2.2 e)
theorem zrI_x (h : zrI op ar fc b g top i R) (hb : b ≤ i) (t : 0 < top) : g 236 0 = R := by
  obtain ⟨s, h1, h2, h3⟩ := h
  rw [show (b - i).toNat = 0 by omega] at h3
  have h3' : zbot s = R := h3
  rw [← h3']
  exact (zbot_q h1 (fun e => by rw [e] at h2; simp at h2; omega)).symm
end
-- the first line that is so
noncomputable def zmr (g : zi_M) (kd i : Int) : Int := zln1 (g 225) (g 227) (g 228) (zmo (g 229) (g 230) (g 235)) kd (g 224 0 - i).toNat i
theorem zmr_s {g : zi_M} {kd i : Int} (h : i < g 224 0) : zmr g kd i = zite (g 225 i = kd ∧ (g 228 i ≤ g 227 i ∨ ¬ zmo (g 229) (g 230) (g 235) (g 227 i) (g 228 i) = 0)) i (zmr g kd (i + 1)) := by
  unfold zmr
  rw [show (g 224 0 - i).toNat = (g 224 0 - (i + 1)).toNat + 1 by omega]
  rfl
theorem zmr_e {g : zi_M} {kd i : Int} (h : zmr g kd i = zmr g kd 0) (hi : g 224 0 ≤ i) : zmr g kd 0 = -1 := by
  rw [← h]
  unfold zmr
  rw [show (g 224 0 - i).toNat = 0 by omega]
  rfl
theorem zmr_f {g g' : zi_M} (F : zk_fr fr_M_runs g g') : zmr g' = zmr g := by
  have h : ∀ a : Nat, ¬ a = 236 → g' a = g a := fun a q => funext fun i => F a i (fun w => q (by unfold fr_M_runs at w; exact w))
  unfold zmr
  rw [h 224 (by decide), h 225 (by decide), h 227 (by decide), h 228 (by decide), h 229 (by decide), h 230 (by decide), h 235 (by decide)]
theorem zmr_a {g : zi_M} {kd i : Int} (h : zmr g kd i = zmr g kd 0) (hi : i < g 224 0) (c : ¬ g 225 i = kd) : zmr g kd (i + 1) = zmr g kd 0 := by
  rw [← h, zmr_s hi, zite_n (fun z => c z.1)]
theorem zmr_b {g g' : zi_M} {kd i v : Int} (h : zmr g kd i = zmr g kd 0) (hi : i < g 224 0) (ne : ¬ g 227 i = g 228 i) (le : g 227 i ≤ g 228 i) (hv : g 227 i < g 228 i → v = zmo (g 229) (g 230) (g 235) (g 227 i) (g 228 i)) (z : v = 0) (F : zk_fr fr_M_runs g g') : zmr g' kd (i + 1) = zmr g' kd 0 := by
  rw [zmr_f F, ← h, zmr_s hi, zite_n]
  rintro ⟨-, w | w⟩
  · omega
  · exact w ((hv (by omega)).symm.trans z)
theorem zmr_x {g : zi_M} {kd i : Int} (h : zmr g kd i = zmr g kd 0) (hi : i < g 224 0) (c : g 225 i = kd) (e : g 227 i = g 228 i) : zmr g kd 0 = i := by
  rw [← h, zmr_s hi, zite_p ⟨c, Or.inl (by omega)⟩]
theorem zmr_y {g g' : zi_M} {kd i v : Int} (h : zmr g kd i = zmr g kd 0) (hi : i < g 224 0) (c : g 225 i = kd) (ne : ¬ g 227 i = g 228 i) (le : g 227 i ≤ g 228 i) (hv : g 227 i < g 228 i → v = zmo (g 229) (g 230) (g 235) (g 227 i) (g 228 i)) (z : ¬ v = 0) (F : zk_fr fr_M_runs g g') : zmr g' kd 0 = i := by
  rw [zmr_f F, ← h, zmr_s hi, zite_p ⟨c, Or.inr (fun w => z ((hv (by omega)).trans w))⟩]
noncomputable def zlw (g : zi_M) (kd df most : Int) : Int := ztl1 (g 224 0) (g 225) (g 226) (g 227) (g 228) (zmo (g 229) (g 230) (g 235)) kd df most
theorem zlw_u {g : zi_M} {kd df most : Int} : zlw g kd df most = max 0 (min (zite (zmr g kd 0 = -1) df (zmo (g 229) (g 230) (g 235) (g 226 (zmr g kd 0)) (g 227 (zmr g kd 0)))) most) := by
  unfold zlw ztl1 zmr
  rw [Int.sub_zero]
theorem zlr_rows {g g' : zi_M} (F : zk_fr fr_M_lineOf g g') : ∀ a : Nat, ¬ a = 236 → g' a = g a := fun a q => funext fun i => F a i (fun w => q (by unfold fr_M_lineOf at w; exact w))
theorem zlw_b {g g2 : zi_M} {kd df most v w : Int} (hv : zmr g2 kd 0 = v) (F : zk_fr fr_M_lineOf g g2) (c : v = -1) (m : 0 ≤ most) (h1 : 0 ≤ df → df ≤ most → w = df) (h2 : 0 ≤ df → most < df → w = most) (h3 : df < 0 → w = 0) : zLk g → w = zlw g kd df most := fun _ => by
  have r := zlr_rows F
  have e : zmr g2 = zmr g := by unfold zmr; rw [r 224 (by decide), r 225 (by decide), r 227 (by decide), r 228 (by decide), r 229 (by decide), r 230 (by decide), r 235 (by decide)]
  rw [e] at hv
  rw [zlw_u, hv, zite_p c]
  omega
theorem zlw_a {g g2 : zi_M} {kd df most v u w : Int} (hv : zmr g2 kd 0 = v) (F : zk_fr fr_M_lineOf g g2) (c : ¬ v = -1) (v0 : -1 ≤ v) (vb : ¬ v = -1 → v < g2 224 0) (hu : g2 226 v < g2 227 v → u = zmo (g2 229) (g2 230) (g2 235) (g2 226 v) (g2 227 v)) (m : 0 ≤ most) (h1 : 0 ≤ u → u ≤ most → w = u) (h2 : 0 ≤ u → most < u → w = most) (h3 : u < 0 → w = 0) : zLk g → w = zlw g kd df most := fun k => by
  have r := zlr_rows F
  have e : zmr g2 = zmr g := by unfold zmr; rw [r 224 (by decide), r 225 (by decide), r 227 (by decide), r 228 (by decide), r 229 (by decide), r 230 (by decide), r 235 (by decide)]
  rw [e] at hv
  have vb' := vb c
  rw [r 224 (by decide)] at vb'
  rw [r 226 (by decide), r 227 (by decide), r 229 (by decide), r 230 (by decide), r 235 (by decide)] at hu
  have hu' := hu (k v (by omega) vb')
  rw [zlw_u, hv, zite_n c, ← hu']
  omega
/-- facts there -/
theorem zfm_of {p w : Int} (hp : 0 ≤ p ∧ p ≤ 9) {g g2 g3 g4 g6 g7 g9 g11 g12 g13 : zi_M} (e2 : g2 = zi_u g 235 0 (g 218 p)) (e3 : g3 = zi_u g2 235 1 (g2 219 p)) (e4 : g4 = zi_u g3 235 2 (g3 220 p)) (e6 : g6 = zi_u g4 235 3 (g4 215 (6 + p))) (e7 : g7 = zi_u g6 235 4 (g6 215 3)) (e9 : g9 = zi_u g7 235 5 (g7 215 (26 + p))) (e11 : g11 = zi_u g9 235 6 (g9 215 (16 + p))) (e12 : g12 = zi_u g11 235 7 w) (e13 : g13 = zi_u g12 235 8 (g12 215 0)) :
    ∀ T n : Int, 0 ≤ n → n < 9 → g13 235 n = zfct (g 218) (g 219) (g 220) (zVM T g) p w n := by
  intro T n n0 n9
  have o : ∀ (a : Nat) (i : Int), a ≠ 235 → g12 a i = g a i ∧ g11 a i = g a i ∧ g9 a i = g a i ∧ g7 a i = g a i ∧ g6 a i = g a i ∧ g4 a i = g a i ∧ g3 a i = g a i ∧ g2 a i = g a i := by
    intro a i ha
    have x2 : g2 a i = g a i := by rw [e2]; exact zi_u_ne ha
    have x3 : g3 a i = g a i := by rw [e3, zi_u_ne ha]; exact x2
    have x4 : g4 a i = g a i := by rw [e4, zi_u_ne ha]; exact x3
    have x6 : g6 a i = g a i := by rw [e6, zi_u_ne ha]; exact x4
    have x7 : g7 a i = g a i := by rw [e7, zi_u_ne ha]; exact x6
    have x9 : g9 a i = g a i := by rw [e9, zi_u_ne ha]; exact x7
    have x11 : g11 a i = g a i := by rw [e11, zi_u_ne ha]; exact x9
    have x12 : g12 a i = g a i := by rw [e12, zi_u_ne ha]; exact x11
    exact ⟨x12, x11, x9, x7, x6, x4, x3, x2⟩
  unfold zfct
  rw [zVM_r (T := T) (g := g) (i := 6 + p) ⟨by omega, by omega⟩ (by omega), zVM_r (T := T) (g := g) (i := 3) ⟨by decide, by decide⟩ (by omega), zVM_r (T := T) (g := g) (i := 26 + p) ⟨by omega, by omega⟩ (by omega), zVM_r (T := T) (g := g) (i := 16 + p) ⟨by omega, by omega⟩ (by omega), zVM_r (T := T) (g := g) (i := 0) ⟨by decide, by decide⟩ (by omega)]
  by_cases c8 : n = 8
  · rw [c8, e13, zi_u_eq, (o 215 0 (by decide)).1]
    rfl
  · rw [e13, zi_u_ni c8]
    by_cases c7 : n = 7
    · rw [c7, e12, zi_u_eq]
      rfl
    · rw [e12, zi_u_ni c7]
      by_cases c6 : n = 6
      · rw [c6, e11, zi_u_eq, (o 215 (16 + p) (by decide)).2.2.1]
        rfl
      · rw [e11, zi_u_ni c6]
        by_cases c5 : n = 5
        · rw [c5, e9, zi_u_eq, (o 215 (26 + p) (by decide)).2.2.2.1]
          rfl
        · rw [e9, zi_u_ni c5]
          by_cases c4 : n = 4
          · rw [c4, e7, zi_u_eq, (o 215 3 (by decide)).2.2.2.2.1]
            rfl
          · rw [e7, zi_u_ni c4]
            by_cases c3 : n = 3
            · rw [c3, e6, zi_u_eq, (o 215 (6 + p) (by decide)).2.2.2.2.2.1]
              rfl
            · rw [e6, zi_u_ni c3]
              by_cases c2 : n = 2
              · rw [c2, e4, zi_u_eq, (o 220 p (by decide)).2.2.2.2.2.2.1]
                rfl
              · rw [e4, zi_u_ni c2]
                by_cases c1 : n = 1
                · rw [c1, e3, zi_u_eq, (o 219 p (by decide)).2.2.2.2.2.2.2]
                  rfl
                · have c0 : n = 0 := by omega
                  rw [e3, zi_u_ni c1, c0, e2, zi_u_eq]
                  rfl
/-- a law asked -/
theorem zmo_c {op ar fc fc' : Int → Int} {a b : Int} (hs : zj_seg op ar a (b - a).toNat) (e : ∀ n : Int, 0 ≤ n → n < 9 → fc' n = fc n) : zmo op ar fc' a b = zmo op ar fc a b := by
  unfold zmo
  rw [zsn2_c]
  intro j j0 j1 o
  have h := hs (j - a).toNat (by omega)
  unfold zj_one at h
  rw [show a + (((j - a).toNat : Nat) : Int) = j by omega] at h
  have := h.2.1 o
  exact e _ this.1 (by omega)
theorem zln1_c {K W B : Int → Int} {ev ev' : Int → Int → Int} {kd : Int} : ∀ (k : Nat) (i : Int), (∀ j : Int, i ≤ j → j < i + k → ev' (W j) (B j) = ev (W j) (B j)) → zln1 K W B ev' kd k i = zln1 K W B ev kd k i
  | 0, _, _ => rfl
  | k + 1, i, e => by
    show zite _ i (zln1 K W B ev' kd k (i + 1)) = zite _ i (zln1 K W B ev kd k (i + 1))
    rw [e i (Int.le_refl _) (by omega), zln1_c k (i + 1) (fun j a b => e j (by omega) (by omega))]
theorem zln1_r {K W B : Int → Int} {ev : Int → Int → Int} {kd : Int} : ∀ (k : Nat) (i : Int), zln1 K W B ev kd k i = -1 ∨ (i ≤ zln1 K W B ev kd k i ∧ zln1 K W B ev kd k i < i + k)
  | 0, _ => Or.inl rfl
  | k + 1, i => by
    show zite _ i (zln1 K W B ev kd k (i + 1)) = -1 ∨ (i ≤ zite _ i (zln1 K W B ev kd k (i + 1)) ∧ zite _ i (zln1 K W B ev kd k (i + 1)) < _)
    by_cases q : K i = kd ∧ (B i ≤ W i ∨ ¬ ev (W i) (B i) = 0)
    · rw [zite_p q]
      right
      omega
    · rw [zite_n q]
      rcases zln1_r (K := K) (W := W) (B := B) (ev := ev) (kd := kd) k (i + 1) with h | h
      · exact Or.inl h
      · right
        omega
theorem zLm_v {g g2 : zi_M} {kd p w T v df ms : Int} {f : Int → Int} (I : zk_I g) (F : zk_fr fr_M_asks g g2) (hf : ∀ n : Int, 0 ≤ n → n < 9 → g2 235 n = zfct (g 218) (g 219) (g 220) f p w n) (hv : zLk g2 → v = zlw g2 kd df ms) (hd : df = if kd = 0 then 2 else if kd = 1 then f 3 else zi_w (20 * f 3)) (hm : ms = if kd = 2 then 1000 else 9) : zLk g → v = zLm g kd p w f := fun k => by
  have r : ∀ a : Nat, ¬ a = 235 → g2 a = g a := fun a q => funext fun i => F a i (fun w => q (by unfold fr_M_asks at w; exact w))
  have v' := hv (fun l l0 l1 => by rw [r 226 (by decide), r 227 (by decide)]; rw [r 224 (by decide)] at l1; exact k l l0 l1)
  rw [v']
  unfold zlw zLm
  rw [r 224 (by decide), r 225 (by decide), r 226 (by decide), r 227 (by decide), r 228 (by decide), r 229 (by decide), r 230 (by decide), ← hd, ← hm]
  have b16 : 0 ≤ g 224 0 ∧ g 224 0 ≤ 16 := I.1 224 0
  have law := I.2.law
  unfold ztl1
  have e1 : zln1 (g 225) (g 227) (g 228) (zmo (g 229) (g 230) (g2 235)) kd (g 224 0).toNat 0 = zln1 (g 225) (g 227) (g 228) (zmo (g 229) (g 230) (zfct (g 218) (g 219) (g 220) f p w)) kd (g 224 0).toNat 0 :=
    zln1_c _ _ (fun j j0 j1 => zmo_c (law j j0 (by omega)).2.2 hf)
  rw [e1]
  rcases zln1_r (K := g 225) (W := g 227) (B := g 228) (ev := zmo (g 229) (g 230) (zfct (g 218) (g 219) (g 220) f p w)) (kd := kd) (g 224 0).toNat 0 with h | h
  · rw [h, zite_p rfl, zite_p rfl]
  · rw [zite_n (by omega), zite_n (by omega), zmo_c (law _ h.1 (by omega)).2.1 hf]
theorem zMr_3 {g g2 : zi_M} (F : zk_fr fr_M_asks g g2) : g2 215 3 = g 215 3 := F 215 3 (fun w => by unfold fr_M_asks at w; omega)
