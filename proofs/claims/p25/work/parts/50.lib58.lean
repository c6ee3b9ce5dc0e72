-- a wet day, the other side
noncomputable def zGv (r : Nat) (g : zi_M) : Prop := ∀ i : Int, 0 ≤ i → i ≤ 9 → g 29 i < g r 8
noncomputable def zWv (r : Nat) (g0 g : zi_M) : Prop := ∀ j : Int, 0 ≤ j → j < g 177 2 → g 179 j < g0 r 8
/-- what a wet day leaves alone -/
noncomputable def zWfr (r : Nat) (g0 g : zi_M) : Prop := (∀ (a : Nat) (i : Int), (21 ≤ a ∧ a ≤ 26) ∨ a = 29 ∨ (r + 1 ≤ a ∧ a ≤ r + 4) → g a i = g0 a i) ∧ g 20 7 = g0 20 7 ∧ g r 0 = g0 r 0 ∧ g r 8 = g0 r 8 ∧ g r 14 = g0 r 14
theorem zWfr_l {r : Nat} {g0 g : zi_M} (f : zWfr r g0 g) : zLc g r = zLc g0 r := zLc_c f.2.1 (fun a i q => f.1 a i (by omega))
theorem zWfr_g {r : Nat} {g0 g : zi_M} (f : zWfr r g0 g) : zeg g = zeg g0 := funext fun p => zeg_c (fun i => f.1 29 i (by omega)) p
/-- words of one: n said of those that are to be -/
noncomputable def zWn (r : Nat) (p n : Int) (g0 g : zi_M) : Prop := ∀ T : Int, zVC T r g = zsn (g0 r 0) (zLc g0 r) (zeg g0) p n.toNat (zwp (g0 r 0) (zLc g0 r) (zeg g0) p.toNat (zup (zVC T r g0) 2000 0))
noncomputable def zWp (r : Nat) (p : Int) (g0 g : zi_M) : Prop := ∀ T : Int, zVC T r g = zwp (g0 r 0) (zLc g0 r) (zeg g0) p.toNat (zup (zVC T r g0) 2000 0)
/-- how many are to be said -/
noncomputable def zWm (r : Nat) (p m : Int) (g0 : zi_M) : Prop := ∀ T : Int, zsk (zwp (g0 r 0) (zLc g0 r) (zeg g0) p.toNat (zup (zVC T r g0) 2000 0)) p ∧ m = min (zLc g0 r 1 p 0 (zwp (g0 r 0) (zLc g0 r) (zeg g0) p.toNat (zup (zVC T r g0) 2000 0))) (zwp (g0 r 0) (zLc g0 r) (zeg g0) p.toNat (zup (zVC T r g0) 2000 0) (26 + p))
theorem zWp_0 {r : Nat} {g g1 : zi_M} (hr : zs_sh r = some (10, 20)) (e : g1 = zi_u g 177 2 0) : zWp r 0 g g1 := fun T => by
  rw [e, zV_wn (zs_wb hr)]
  rfl
theorem zWp_n {r : Nat} {g0 g : zi_M} {p v : Int} (h : zWp r p g0 g) (f : zWfr r g0 g) (hp : 0 ≤ p ∧ p ≤ 9) (y : (g (r + 4) p = 0 → v = 1) ∧ (¬ g (r + 4) p = 0 → g (r + 4) p = 1 → 5 ≤ g r 14 → v = 1)) (c : v = 0) : zWp r (p + 1) g0 g := fun T => by
  have e := h T
  obtain ⟨-, -, -, v3, -, -, vm, -⟩ := zVC_rd (T := T) (r := r) (g := g)
  rw [show (p + 1).toNat = p.toNat + 1 by omega]
  show _ = zite _ _ _
  rw [← e, show ((p.toNat : Nat) : Int) = p by omega, zite_n]
  rintro (q | ⟨q1, q2⟩)
  · rw [vm p hp.1 (by omega)] at q
    have := y.1 q
    omega
  · rw [vm p hp.1 (by omega)] at q1
    rw [v3] at q2
    have := y.2 (by omega) q1 q2
    omega
theorem zWn_0 {r : Nat} {g0 g g8 : zi_M} {p : Int} (hr : zs_sh r = some (10, 20)) (h : zWp r p g0 g) (F : zk_fr (fr_Law_tells r) g g8) : zWn r p 0 g0 g8 := fun T => by
  have hb := zs_wb hr
  rw [zVC_c (fun a i h => F a i (fun w => by unfold fr_Law_tells at w; omega)), h T]
  rfl
theorem zWm_0 {r : Nat} {g0 g g8 : zi_M} {p v v7 : Int} (hr : zs_sh r = some (10, 20)) (h : zWp r p g0 g) (f : zWfr r g0 g) (hp : 0 ≤ p ∧ p ≤ 9) (y : (¬ g (r + 4) p = 0 → ¬ g (r + 4) p = 1 → v = 0) ∧ (¬ g (r + 4) p = 0 → g (r + 4) p = 1 → g r 14 < 5 → v = 0)) (c : ¬ v = 0) (F : zk_fr (fr_Law_tells r) g g8) (hv : ∀ T : Int, v7 = zLc g r 1 p 0 (zVC T r g)) : zWm r p (min v7 (g8 (r + 6) p)) g0 := fun T => by
  have hb := zs_wb hr
  have e := h T
  obtain ⟨-, -, -, v3, -, -, vm, -⟩ := zVC_rd (T := T) (r := r) (g := g)
  rw [← e]
  refine ⟨?_, ?_⟩
  · unfold zsk
    rw [vm p hp.1 (by omega), v3]
    refine Classical.byContradiction (fun n => c ?_)
    by_cases q0 : g (r + 4) p = 0
    · exact absurd (Or.inl q0) n
    · by_cases q1 : g (r + 4) p = 1
      · exact y.2 q0 q1 (by omega)
      · exact y.1 q0 q1
  · rw [zVC_hc hp, ← zWfr_l f, ← hv T, F (r + 6) p (fun w => by unfold fr_Law_tells at w; omega)]
theorem zWn_s {r : Nat} {g0 g g16 : zi_M} {p n m : Int} (h : zWn r p n g0 g) (f : zWfr r g0 g) (n0 : 0 ≤ n) (hs : p < g0 r 8) (c : 1 ≤ g (r + 6) p) (k : zSF r p g g16) : zWn r p (n + 1) g0 g16 := fun T => by
  rw [k (by rw [f.2.2.2.1]; exact hs) c T, h T, f.2.2.1, zWfr_l f, zWfr_g f, show (n + 1).toNat = n.toNat + 1 by omega]
  rfl
theorem zWn_x {r : Nat} {g0 g : zi_M} {p n m : Int} (h : zWn r p n g0 g) (hm : zWm r p m g0) (hp : 0 ≤ p ∧ p ≤ 9) (c : n = m ∨ (n = 0 ∧ m ≤ 0)) : zWp r (p + 1) g0 g := fun T => by
  obtain ⟨a, b⟩ := hm T
  rw [h T, show (p + 1).toNat = p.toNat + 1 by omega]
  show _ = zite _ _ _
  rw [show ((p.toNat : Nat) : Int) = p by omega, zite_p a, ← b, show n.toNat = m.toNat by omega]
-- led on
noncomputable def zWl (r : Nat) (i : Int) (g0 g : zi_M) : Prop := zWv r g0 g0 → ∀ T : Int, zVC T r g = zlD (g0 r 0) i.toNat (zVC T r g0)
theorem zWl_0 {r : Nat} {g : zi_M} : zWl r 0 g g := fun _ _ => rfl
noncomputable def zLfr (r : Nat) (g0 g : zi_M) : Prop := (∀ (a : Nat) (i : Int), (177 ≤ a ∧ a ≤ 179) ∨ (r + 1 ≤ a ∧ a ≤ r + 4) → g a i = g0 a i) ∧ g r 0 = g0 r 0 ∧ g r 8 = g0 r 8
theorem zLfr_of {r : Nat} (hr : zs_sh r = some (10, 20)) {g0 g : zi_M} (F : zk_fr (fr_DayRun_leadOn r) g0 g) : zLfr r g0 g := by
  have hb := zs_wb hr
  exact ⟨fun a i h => F a i (fun w => by unfold fr_DayRun_leadOn at w; omega), F r 0 (fun w => by unfold fr_DayRun_leadOn at w; omega), F r 8 (fun w => by unfold fr_DayRun_leadOn at w; omega)⟩
theorem zWl_e {r : Nat} {g0 g : zi_M} {i T : Int} (f : zLfr r g0 g) (n0 : 0 ≤ i) (n1 : i < 90) : zVC T r g (2001 + i) = g 179 i ∧ zVC T r g (2101 + i) = g 178 i := ⟨(zVC_rw (T := T) (r := r) (g := g)).2.1 i n0 n1, (zVC_rw (T := T) (r := r) (g := g)).2.2 i n0 n1⟩
theorem zWl_a {r : Nat} {g0 g : zi_M} {i : Int} (h : zWl r i g0 g) (f : zLfr r g0 g) (n0 : 0 ≤ i) (n1 : i < 90) (b : 0 ≤ g 179 i ∧ g 179 i ≤ 9) (c : g (r + 4) (g 179 i) = 2) : zWl r (i + 1) g0 g := fun v T => by
  have e := h v T
  obtain ⟨x1, x2⟩ := zWl_e (T := T) f n0 n1
  have vm := (zVC_rd (T := T) (r := r) (g := g)).2.2.2.2.2.2.1 (g 179 i) b.1 (by omega)
  rw [show (i + 1).toNat = i.toNat + 1 by omega]
  show _ = zite _ _ _
  rw [← e, show ((i.toNat : Nat) : Int) = i by omega, x1, zite_n]
  rintro ⟨q, -⟩
  exact q (by rw [vm]; exact c)
theorem zWl_b {r : Nat} {g0 g g7 : zi_M} {i v6 : Int} (h : zWl r i g0 g) (f : zLfr r g0 g) (n0 : 0 ≤ i) (n1 : i < 90) (hc : i < g 177 2) (b : 0 ≤ g 179 i ∧ g 179 i ≤ 9) (c : ¬ g (r + 4) (g 179 i) = 2) (k : zTi r (g 179 i) (g 178 i) g g7 v6) (z : v6 = 0) : zWl r (i + 1) g0 g7 := fun v T => by
  have e := h v T
  obtain ⟨x1, x2⟩ := zWl_e (T := T) f n0 n1
  have w := v i n0 (by rw [← f.1 177 2 (by omega)]; exact hc)
  obtain ⟨k1, k2⟩ := k (by rw [f.2.2, f.1 179 i (by omega)]; exact w) T
  have nq : ¬ zInq (zVC T r g) (g 179 i) (g 178 i) := fun y => by have := (k1 y).1; omega
  rw [(k2 nq).2, show (i + 1).toNat = i.toNat + 1 by omega]
  show _ = zite _ _ _
  rw [← e, show ((i.toNat : Nat) : Int) = i by omega, x1, x2, zite_n (fun q => nq q.2)]
theorem zWl_c {r : Nat} {g0 g g7 g10 : zi_M} {i v6 : Int} (h : zWl r i g0 g) (f : zLfr r g0 g) (n0 : 0 ≤ i) (n1 : i < 90) (hc : i < g 177 2) (b : 0 ≤ g 179 i ∧ g 179 i ≤ 9) (c : ¬ g (r + 4) (g 179 i) = 2) (k : zTi r (g 179 i) (g 178 i) g g7 v6) (z : ¬ v6 = 0) (f7 : zLfr r g0 g7) (W : zBw r 2 (g 179 i) (g7 178 i) g7 g10) : zWl r (i + 1) g0 g10 := fun v T => by
  have e := h v T
  obtain ⟨x1, x2⟩ := zWl_e (T := T) f n0 n1
  have w := v i n0 (by rw [← f.1 177 2 (by omega)]; exact hc)
  obtain ⟨k1, k2⟩ := k (by rw [f.2.2, f.1 179 i (by omega)]; exact w) T
  have yq : zInq (zVC T r g) (g 179 i) (g 178 i) := Classical.byContradiction (fun y => z (k2 y).1)
  have vm := (zVC_rd (T := T) (r := r) (g := g)).2.2.2.2.2.2.1 (g 179 i) b.1 (by omega)
  rw [W T, f7.2.1, (k1 yq).2, show (i + 1).toNat = i.toNat + 1 by omega, show g7 178 i = g 178 i by rw [f7.1 178 i (by omega), f.1 178 i (by omega)]]
  show _ = zite _ _ _
  rw [← e, show ((i.toNat : Nat) : Int) = i by omega, x1, x2, zite_p ⟨by rw [vm]; exact c, yq⟩]
noncomputable def zWL (r : Nat) (g0 g : zi_M) : Prop := zWv r g0 g0 → ∀ T : Int, zVC T r g = zwl (g0 r 0) (zVC T r g0)
theorem zWl_x {r : Nat} {g0 g : zi_M} {i : Int} (h : zWl r i g0 g) (e : i = g0 177 2) : zWL r g0 g := fun v T => by
  unfold zwl
  rw [(zVC_rw (T := T) (r := r) (g := g0)).1, ← e]
  exact h v T
-- what one word said leaves, on the row
theorem zsf_o {th s k : Int} {f : Int → Int} (h1 : ¬ k = 1) (h5 : ¬ k = 5) : zsf th s f k = f k := by
  have d : zsd th f k = f k := by
    unfold zsd
    by_cases q : th = 0
    · rw [zite_p q, zup_n h1]
    · rw [zite_n q]
  unfold zsf
  by_cases q : zsq th s (zsd th f)
  · rw [zite_p q, zup_n h5]; exact d
  · rw [zite_n q]; exact d
theorem zsb_y {th p w k : Int} {f : Int → Int} (hk : k < 258 ∨ 2000 ≤ k) (h4 : ¬ k = 4) (h2' : ¬ k = 2) (h2 : 0 ≤ f 2) : zNt th (zjr p w 6 (zup f 4 (zi_w (f 4 + 1)))) 1 p w k = f k := by
  have e2 : zjr p w 6 (zup f 4 (zi_w (f 4 + 1))) 2 = f 2 := by rw [zjr_o 6 2 (Nat.le_refl _) (by decide), zup_n (by decide)]
  rcases hk with hk | hk
  · rw [zNt_o h2' (by omega) (by rw [e2]; exact h2), zjr_o 6 k (Nat.le_refl _) (by omega), zup_n h4]
  · rw [zNt_w hk (by rw [e2]; exact h2), zjr_o 6 k (Nat.le_refl _) (by omega), zup_n h4]
theorem zsb_c {th i p w : Int} {f : Int → Int} (hp : 0 ≤ p ∧ p ≤ 9) (hc : f (26 + p) ≤ 20) (h2 : 0 ≤ f 2) (h0 : 0 ≤ f 2000) : zsb th i p w f (26 + p) = f (26 + p) - 1 := by
  have y := zsb_y (th := th) (p := p) (w := w) (k := 26 + p) (f := f) (by omega) (by omega) (by omega) h2
  have y0 := zsb_y (th := th) (p := p) (w := w) (k := 2000) (f := f) (by omega) (by omega) (by omega) h2
  have z : ∀ F : Int → Int, 0 ≤ F 2000 → zwt i w F (26 + p) = F (26 + p) := fun F hF => by
    unfold zwt
    by_cases q : ¬ i = -1 ∧ F 2000 < 90
    · rw [zite_p q, zup_n (by omega), zup_n (by omega), zup_n (by omega)]
    · rw [zite_n q]
  unfold zsb zdf
  rw [zite_n (by omega), zite_p rfl, z _ (by rw [y0]; exact h0), y]
theorem zsb_w {th i p w : Int} {f : Int → Int} (hp : 0 ≤ p ∧ p ≤ 9) (hc : f (26 + p) ≤ 20) (h2 : 0 ≤ f 2) (h0 : 0 ≤ f 2000) : (zsb th i p w f 2000 = f 2000 ∨ (zsb th i p w f 2000 = f 2000 + 1 ∧ zsb th i p w f (2001 + f 2000) = i)) ∧ ∀ j : Int, 0 ≤ j → j < f 2000 → j < 90 → zsb th i p w f (2001 + j) = f (2001 + j) := by
  have y := fun k (h : 2000 ≤ k) => zsb_y (th := th) (p := p) (w := w) (k := k) (f := f) (Or.inr h) (by omega) (by omega) h2
  have yc := zsb_y (th := th) (p := p) (w := w) (k := 26 + p) (f := f) (by omega) (by omega) (by omega) h2
  unfold zsb
  generalize zNt th (zjr p w 6 (zup f 4 (zi_w (f 4 + 1)))) 1 p w = F at y yc
  have o : ∀ k : Int, 236 ≤ k → zdf p (zwt i w F) k = zwt i w F k := fun k hk => by
    refine zdf_o hp (Or.inr hk) ?_
    unfold zwt
    by_cases q : ¬ i = -1 ∧ F 2000 < 90
    · rw [zite_p q, zup_n (by omega), zup_n (by rw [y 2000 (by omega)]; omega), zup_n (by rw [y 2000 (by omega)]; omega), yc]; exact hc
    · rw [zite_n q, yc]; exact hc
  have y0 := y 2000 (by omega)
  rw [o 2000 (by omega), o (2001 + f 2000) (by omega)]
  refine ⟨?_, fun j j0 j1 j9 => ?_⟩
  · unfold zwt
    by_cases q : ¬ i = -1 ∧ F 2000 < 90
    · rw [zite_p q]
      right
      refine ⟨by rw [zup_e, y0], ?_⟩
      rw [zup_n (by omega), y0, zup_e]
    · rw [zite_n q]
      exact Or.inl y0
  · rw [o (2001 + j) (by omega)]
    unfold zwt
    by_cases q : ¬ i = -1 ∧ F 2000 < 90
    · rw [zite_p q, zup_n (by omega), zup_n (by omega), zup_n (by omega)]
      exact y _ (by omega)
    · rw [zite_n q]
      exact y _ (by omega)
