-- RAIN, the reference
theorem zMd_of {g g1 : zi_M} {l : Int} (e : g1 = zi_u g 215 1 (zi_w (1664525 * g 215 1 + 1013904223))) : ∀ T : Int, zVM T g1 = zup (zVM T g) 1 (zi_w (1664525 * zVM T g 1 + 1013904223)) ∧ Int.tmod (zi_ush (g1 215 1) 8) l = Int.tmod (zi_ush (zVM T g1 1) 8) l := fun T => by
  have v1 : zVM T g 1 = g 215 1 := zVM_r ⟨by decide, by decide⟩ (by omega)
  have w1 : zVM T g1 1 = g1 215 1 := zVM_r ⟨by decide, by decide⟩ (by omega)
  rw [w1, v1, e, zN_row ⟨by decide, by decide⟩ (by omega)]
  exact ⟨rfl, rfl⟩
/-- up to the slip: s tells whether it slips -/
noncomputable def zAs (p w : Int) (g0 g : zi_M) (s : Int) : Prop := zLk g0 → ∀ T : Int, zVM T g = zsd (g0 214 5) (zVM T g0) ∧ (zsq (g0 214 5) (zLm g0 2 p w (zVM T g0)) (zsd (g0 214 5) (zVM T g0)) → s = 1) ∧ (¬ zsq (g0 214 5) (zLm g0 2 p w (zVM T g0)) (zsd (g0 214 5) (zVM T g0)) → s = 0)
theorem zAs_v {p w : Int} {g0 g2 : zi_M} (F : zk_fr fr_M_slipOf g0 g2) : (∀ T : Int, zVM T g2 = zVM T g0) ∧ g2 214 5 = g0 214 5 := ⟨fun T => zVM_c (fun a i h => F a i (fun w => by unfold fr_M_slipOf at w; omega)), F 214 5 (fun w => by unfold fr_M_slipOf at w; omega)⟩
theorem zAs_a {p w v1 v5 : Int} {g0 g2 g6 : zi_M} (F : zk_fr fr_M_slipOf g0 g2) (hv : zLk g0 → ∀ T : Int, v1 = zLm g0 2 p w (zVM T g0)) (c : g2 214 5 = 0) (d : ∀ T : Int, zVM T g6 = zup (zVM T g2) 1 (zi_w (1664525 * zVM T g2 1 + 1013904223)) ∧ v5 = Int.tmod (zi_ush (zVM T g6 1) 8) 1000) (q : v1 ≤ v5) : zAs p w g0 g6 0 := fun k T => by
  obtain ⟨e1, e2⟩ := zAs_v (p := p) (w := w) F
  obtain ⟨d1, d2⟩ := d T
  rw [e1 T] at d1
  have z : zVM T g6 = zsd (g0 214 5) (zVM T g0) := by unfold zsd; rw [zite_p (by rw [← e2]; exact c), d1]
  refine ⟨z, ?_, fun _ => rfl⟩
  rintro (⟨-, x⟩ | ⟨x, -⟩)
  · rw [← z, ← d2, ← hv k T] at x; omega
  · exact absurd (by rw [← e2]; exact c) x
theorem zAs_b {p w v1 v5 : Int} {g0 g2 g6 : zi_M} (F : zk_fr fr_M_slipOf g0 g2) (hv : zLk g0 → ∀ T : Int, v1 = zLm g0 2 p w (zVM T g0)) (c : g2 214 5 = 0) (d : ∀ T : Int, zVM T g6 = zup (zVM T g2) 1 (zi_w (1664525 * zVM T g2 1 + 1013904223)) ∧ v5 = Int.tmod (zi_ush (zVM T g6 1) 8) 1000) (q : v5 < v1) : zAs p w g0 g6 1 := fun k T => by
  obtain ⟨e1, e2⟩ := zAs_v (p := p) (w := w) F
  obtain ⟨d1, d2⟩ := d T
  rw [e1 T] at d1
  have z : zVM T g6 = zsd (g0 214 5) (zVM T g0) := by unfold zsd; rw [zite_p (by rw [← e2]; exact c), d1]
  refine ⟨z, fun _ => rfl, fun n => absurd (Or.inl ⟨by rw [← e2]; exact c, ?_⟩) n⟩
  rw [← z, ← d2, ← hv k T]
  exact q
theorem zAs_c {p w v1 : Int} {g0 g2 : zi_M} (F : zk_fr fr_M_slipOf g0 g2) (hv : zLk g0 → ∀ T : Int, v1 = zLm g0 2 p w (zVM T g0)) (c : ¬ g2 214 5 = 0) (q : 2 * v1 < 1000) : zAs p w g0 g2 0 := fun k T => by
  obtain ⟨e1, e2⟩ := zAs_v (p := p) (w := w) F
  have hk := hv k T
  refine ⟨by unfold zsd; rw [zite_n (by rw [← e2]; exact c), e1 T], ?_, fun _ => rfl⟩
  rintro (⟨x, -⟩ | ⟨-, x⟩)
  · exact absurd x (by rw [← e2]; exact c)
  · omega
theorem zAs_d {p w v1 : Int} {g0 g2 : zi_M} (F : zk_fr fr_M_slipOf g0 g2) (hv : zLk g0 → ∀ T : Int, v1 = zLm g0 2 p w (zVM T g0)) (c : ¬ g2 214 5 = 0) (q : 1000 ≤ 2 * v1) : zAs p w g0 g2 1 := fun k T => by
  obtain ⟨e1, e2⟩ := zAs_v (p := p) (w := w) F
  have hk := hv k T
  exact ⟨by unfold zsd; rw [zite_n (by rw [← e2]; exact c), e1 T], fun _ => rfl, fun n => absurd (Or.inr ⟨by rw [← e2]; exact c, by omega⟩) n⟩
noncomputable def zAF (p w : Int) (g0 g : zi_M) (v : Int) : Prop := zLk g0 → ∀ T : Int, v = zsw (g0 214 5) (zLm g0 2 p w (zVM T g0)) w (zVM T g0) ∧ zVM T g = zsf (g0 214 5) (zLm g0 2 p w (zVM T g0)) (zVM T g0)
theorem zAF_n0 {p w s : Int} {g0 g : zi_M} (h : zAs p w g0 g s) (c : s = 0) : zAF p w g0 g w := fun k T => by
  obtain ⟨a, b, d⟩ := h k T
  have n : ¬ zsq (g0 214 5) (zLm g0 2 p w (zVM T g0)) (zsd (g0 214 5) (zVM T g0)) := fun z => by have := b z; omega
  unfold zsw zsf
  rw [zite_n n, zite_n n]
  exact ⟨rfl, a⟩
theorem zAF_y0 {p w s : Int} {g0 g g11 : zi_M} (h : zAs p w g0 g s) (c : ¬ s = 0) (e : g11 = zi_u g 215 5 (zi_w (g 215 5 + 1))) : zAF p w g0 g11 (Int.tmod (w + 1) 16) := fun k T => by
  obtain ⟨a, b, d⟩ := h k T
  have y : zsq (g0 214 5) (zLm g0 2 p w (zVM T g0)) (zsd (g0 214 5) (zVM T g0)) := Classical.byContradiction (fun z => c (d z))
  have v5 : zVM T g 5 = g 215 5 := zVM_r ⟨by decide, by decide⟩ (by omega)
  unfold zsw zsf
  rw [zite_p y, zite_p y, e, zN_row ⟨by decide, by decide⟩ (by omega), ← v5, a]
  exact ⟨rfl, rfl⟩
theorem zAF_n {p w s v : Int} {g0 g : zi_M} (h : zAs p w g0 g s) (c : s = 0) (ev : v = w) : zAF p w g0 g v := by
  rw [ev]
  exact zAF_n0 h c
theorem zAF_y {p w s v : Int} {g0 g g11 : zi_M} (h : zAs p w g0 g s) (c : ¬ s = 0) (e : g11 = zi_u g 215 5 (zi_w (g 215 5 + 1))) (ev : v = Int.tmod (w + 1) 16) : zAF p w g0 g11 v := by
  rw [ev]
  exact zAF_y0 h c e
-- both orders come to the same
theorem zup_c {f : Int → Int} {a b v w : Int} (h : ¬ a = b) : zup (zup f a v) b w = zup (zup f b w) a v := funext fun k => by
  by_cases p : k = a
  · rw [p, zup_n h, zup_e, zup_e]
  · rw [zup_n p]
    by_cases q : k = b
    · rw [q, zup_e, zup_e]
    · rw [zup_n q, zup_n q, zup_n p]
theorem zdf_u {p k v : Int} {f : Int → Int} (hp : 0 ≤ p ∧ p ≤ 9) (hk : k < 26 ∨ 236 ≤ k) (hc : f (26 + p) ≤ 20) : zdf p (zup f k v) = zup (zdf p f) k v := funext fun j => by
  unfold zdf
  rw [zup_n (f := f) (a := k) (v := v) (i := 26 + p) (by omega)]
  by_cases q : 36 + 20 * p ≤ j ∧ j < 36 + 20 * p + f (26 + p) - 1
  · rw [zite_p q, zup_n (by omega), zup_n (by omega), zite_p q]
  · rw [zite_n q]
    by_cases e : j = k
    · rw [e, zup_e, zup_e, zite_n (by omega)]
    · rw [zup_n e, zup_n e, zite_n q]
theorem zdf_o {p k : Int} {f : Int → Int} (hp : 0 ≤ p ∧ p ≤ 9) (hk : k < 26 ∨ 236 ≤ k) (hc : f (26 + p) ≤ 20) : zdf p f k = f k := by
  unfold zdf
  rw [zite_n (by omega), zite_n (by omega)]
theorem zjr_o {p w : Int} {f : Int → Int} : ∀ (n : Nat) (k : Int), n ≤ 6 → (k < 258 ∨ 264 ≤ k) → zjr p w n f k = f k
  | 0, _, _, _ => rfl
  | n + 1, k, hn, hk => by
    show (zite (α := Int → Int) _ _ _) k = _
    have ih := zjr_o (p := p) (w := w) (f := f) n
    by_cases q : zjr p w n f (252 + (n : Int)) = p + 1
    · rw [zite_p q, zup_n (by omega)]
      exact ih k (by omega) hk
    · rw [zite_n q]
      exact ih k (by omega) hk
theorem zdf_j {p q w : Int} {f : Int → Int} (hp : 0 ≤ p ∧ p ≤ 9) (hc : f (26 + p) ≤ 20) : ∀ n : Nat, n ≤ 6 → zdf p (zjr q w n f) = zjr q w n (zdf p f)
  | 0, _ => rfl
  | n + 1, hn => by
    have ih := zdf_j (q := q) (w := w) hp hc n (by omega)
    have o1 := zjr_o (p := q) (w := w) (f := f) n (26 + p) (by omega) (by omega)
    show zdf p (zite _ _ _) = zite _ _ _
    rw [← ih, zdf_o (f := zjr q w n f) hp (by omega) (by rw [o1]; exact hc), zdf_o (f := zjr q w n f) (k := 258 + (n : Int)) hp (by omega) (by rw [o1]; exact hc)]
    by_cases z : zjr q w n f (252 + (n : Int)) = q + 1
    · rw [zite_p z, zite_p z, zdf_u hp (by omega) (by rw [o1]; exact hc)]
    · rw [zite_n z, zite_n z]
theorem zNb_c {f : Int → Int} {a b c k v : Int} (hk : k < 1000 ∨ 2000 ≤ k) (h2 : 0 ≤ f 2 ∧ f 2 < 150) (k2 : ¬ k = 2) (k0 : ¬ k = 0) : zNb (zup f k v) a b c = zup (zNb f a b c) k v := by
  unfold zNb
  rw [zup_n (f := f) (i := 2) (fun e => k2 e.symm), zup_n (f := f) (i := 0) (fun e => k0 e.symm)]
  rw [zup_c (f := f) (a := k) (b := 1000 + 4 * f 2) (by omega), zup_c (a := k) (b := 1001 + 4 * f 2) (by omega), zup_c (a := k) (b := 1002 + 4 * f 2) (by omega), zup_c (a := k) (b := 1003 + 4 * f 2) (by omega)]
theorem zNt_c {th : Int} {f : Int → Int} {a b c k v : Int} (hk : k < 1000 ∨ 2000 ≤ k) (h2 : 0 ≤ f 2) (k2 : ¬ k = 2) (k0 : ¬ k = 0) : zNt th (zup f k v) a b c = zup (zNt th f a b c) k v := by
  have e2 : zup f k v 2 = f 2 := zup_n (fun e => k2 e.symm)
  unfold zNt
  rw [e2]
  by_cases q : th = 0 ∧ f 2 < 150
  · rw [zite_p q, zite_p q, zNb_c hk ⟨h2, q.2⟩ k2 k0, zup_c k2]
  · rw [zite_n q, zite_n q]
theorem zup_26 {x : Int → Int} {p k v : Int} (h : x (26 + p) ≤ 20) (hp : 0 ≤ p ∧ p ≤ 9) (hk : k < 26 ∨ 236 ≤ k) : zup x k v (26 + p) ≤ 20 := by rw [zup_n (by omega)]; exact h
theorem zdf_N {th p a b c : Int} {f : Int → Int} (hp : 0 ≤ p ∧ p ≤ 9) (hc : f (26 + p) ≤ 20) (h2 : 0 ≤ f 2) : zdf p (zNt th f a b c) = zNt th (zdf p f) a b c := by
  have e2 : zdf p f 2 = f 2 := zdf_o hp (by decide) hc
  have e0 : zdf p f 0 = f 0 := zdf_o hp (by decide) hc
  unfold zNt
  rw [e2]
  by_cases q : th = 0 ∧ f 2 < 150
  · rw [zite_p q, zite_p q]
    unfold zNb
    have c1 := zup_26 (k := 1000 + 4 * f 2) (v := f 0) hc hp (by omega)
    have c2 := zup_26 (k := 1001 + 4 * f 2) (v := a) c1 hp (by omega)
    have c3 := zup_26 (k := 1002 + 4 * f 2) (v := b) c2 hp (by omega)
    have c4 := zup_26 (k := 1003 + 4 * f 2) (v := c) c3 hp (by omega)
    rw [e2, e0, zdf_u hp (by decide) c4, zdf_u hp (by omega) c3, zdf_u hp (by omega) c2, zdf_u hp (by omega) c1, zdf_u hp (by omega) hc]
  · rw [zite_n q, zite_n q]
theorem zjr_N {th a b c q w : Int} {f : Int → Int} (h2 : 0 ≤ f 2) : ∀ n : Nat, n ≤ 6 → zjr q w n (zNt th f a b c) = zNt th (zjr q w n f) a b c
  | 0, _ => rfl
  | n + 1, hn => by
    have ih := zjr_N (th := th) (a := a) (b := b) (c := c) (q := q) (w := w) h2 n (by omega)
    have o2 : zjr q w n f 2 = f 2 := zjr_o n 2 (by omega) (by decide)
    have h2' : 0 ≤ zjr q w n f 2 := by rw [o2]; exact h2
    show zite _ _ _ = zNt th (zite _ _ _) a b c
    rw [ih, zNt_o (by omega) (by omega) h2', zNt_o (k := 258 + (n : Int)) (by omega) (by omega) h2']
    by_cases z : zjr q w n f (252 + (n : Int)) = q + 1
    · rw [zite_p z, zite_p z, zNt_c (by omega) h2' (by omega) (by omega)]
    · rw [zite_n z, zite_n z]
theorem zwt_d {i w p : Int} {f : Int → Int} (hp : 0 ≤ p ∧ p ≤ 9) (hc : f (26 + p) ≤ 20) (h0 : 0 ≤ f 2000) : zdf p (zwt i w f) = zwt i w (zdf p f) := by
  have e : zdf p f 2000 = f 2000 := zdf_o hp (by decide) hc
  unfold zwt
  rw [e]
  by_cases q : ¬ i = -1 ∧ f 2000 < 90
  · rw [zite_p q, zite_p q]
    have c1 := zup_26 (k := 2101 + f 2000) (v := w) hc hp (by omega)
    have c2 := zup_26 (k := 2001 + f 2000) (v := i) c1 hp (by omega)
    rw [zdf_u hp (by decide) c2, zdf_u hp (by omega) c1, zdf_u hp (by omega) hc]
  · rw [zite_n q, zite_n q]
/-- the reference's order -/
theorem zsb_m {th i p w : Int} {f : Int → Int} (hp : 0 ≤ p ∧ p ≤ 9) (hc : f (26 + p) ≤ 20) (h2 : 0 ≤ f 2) (h0 : 0 ≤ f 2000) : zsb th i p w f = zwt i w (zjr p w 6 (zNt th (zup (zdf p f) 4 (zi_w (zdf p f 4 + 1))) 1 p w)) := by
  have e4 : zdf p f 4 = f 4 := zdf_o hp (by decide) hc
  have f2 : ∀ v : Int, zup f 4 v 2 = f 2 := fun v => zup_n (by decide)
  have fc : ∀ v : Int, zup f 4 v (26 + p) = f (26 + p) := fun v => zup_n (by omega)
  have fw : ∀ v : Int, zup f 4 v 2000 = f 2000 := fun v => zup_n (by decide)
  unfold zsb
  rw [← zjr_N (by rw [f2]; exact h2) 6 (Nat.le_refl _)]
  have j2 : ∀ x : Int → Int, zjr p w 6 x 2000 = x 2000 := fun x => zjr_o 6 2000 (Nat.le_refl _) (by decide)
  have jc : ∀ x : Int → Int, zjr p w 6 x (26 + p) = x (26 + p) := fun x => zjr_o 6 (26 + p) (Nat.le_refl _) (by omega)
  have nc : ∀ v : Int, zNt th (zup f 4 v) 1 p w (26 + p) = f (26 + p) := fun v => by rw [zNt_o (by omega) (by omega) (by rw [f2]; exact h2), fc]
  have nw : ∀ v : Int, zNt th (zup f 4 v) 1 p w 2000 = f 2000 := fun v => by rw [zNt_w (by decide) (by rw [f2]; exact h2), fw]
  rw [zwt_d hp (by rw [jc, nc]; exact hc) (by rw [j2, nw]; exact h0), zdf_j hp (by rw [nc]; exact hc) 6 (Nat.le_refl _), zdf_N hp (by rw [fc]; exact hc) (by rw [f2]; exact h2), zdf_u hp (by decide) hc, e4]
