-- THE OTHER SIDE'S DAYS: what each method does to the row
theorem zVC_c {T : Int} {r : Nat} {g g' : zi_M} (e : ∀ (a : Nat) (i : Int), (a = r ∨ (r + 4 ≤ a ∧ a ≤ r + 11) ∨ (15 ≤ a ∧ a ≤ 18) ∨ (177 ≤ a ∧ a ≤ 179)) → g' a i = g a i) : zVC T r g' = zVC T r g := funext fun k => by
  unfold zVC
  by_cases d : zdm T k
  · rw [zite_p d, zite_p d]
    congr 1
    refine e _ _ ?_
    unfold zdm at d
    rcases zca_cases r k with q | q | q | q | q | q | q | q | q | q | q | q | q | q | q | q | q | q | q | q | q
    all_goals omega
  · rw [zite_n d, zite_n d]
theorem zVC_hd {T : Int} {r : Nat} {g : zi_M} {p i : Int} (hp : 0 ≤ p ∧ p ≤ 9) (hi : 0 ≤ i ∧ i < 20) : zVC T r g (36 + 20 * p + i) = g (r + 7) (p * 20 + i) := by
  have h := (zVC_rd (T := T) (r := r) (g := g)).2.2.2.2.2.2.2.2.2.1 (20 * p + i) (by omega) (by omega)
  rw [show 36 + 20 * p + i = 36 + (20 * p + i) by omega, h, show 20 * p + i = p * 20 + i by omega]
theorem zVC_hc {T : Int} {r : Nat} {g : zi_M} {p : Int} (hp : 0 ≤ p ∧ p ≤ 9) : zVC T r g (26 + p) = g (r + 6) p := (zVC_rd (T := T) (r := r) (g := g)).2.2.2.2.2.2.2.2.1 p hp.1 (by omega)
-- what one has heard, as a set
noncomputable def zHS (r : Nat) (g : zi_M) (p n s : Int) : Prop := p < g r 8 → ∀ T : Int, s = zhs (zVC T r g) (36 + 20 * p) n.toNat
theorem zHS_0 {r : Nat} {g : zi_M} {p : Int} : zHS r g p 0 0 := fun _ _ => rfl
theorem zHS_s {r : Nat} {g : zi_M} {p n s v : Int} (h : zHS r g p n s) (e : 0 ≤ p → p < g r 8 → 0 ≤ n → n < 20 → v = g (r + 7) (p * 20 + n)) (hp : 0 ≤ p ∧ p ≤ 9) (h0 : 0 ≤ n) (h1 : n < 20) : zHS r g p (n + 1) (zi_or s (zi_shl 1 v)) := fun q T => by
  have w := h q T
  rw [show (n + 1).toNat = n.toNat + 1 by omega]
  show _ = zi_or (zhs (zVC T r g) (36 + 20 * p) n.toNat) (zi_shl 1 (zVC T r g (36 + 20 * p + ((n.toNat : Nat) : Int))))
  rw [← w, show ((n.toNat : Nat) : Int) = n by omega, zVC_hd hp ⟨h0, h1⟩, e hp.1 q h0 h1]
noncomputable def zHF (r : Nat) (g : zi_M) (p s : Int) : Prop := p < g r 8 → ∀ T : Int, s = zhs (zVC T r g) (36 + 20 * p) (zVC T r g (26 + p)).toNat
theorem zHS_x {r : Nat} {g : zi_M} {p n s : Int} (h : zHS r g p n s) (hp : 0 ≤ p ∧ p ≤ 9) (e : n = g (r + 6) p) : zHF r g p s := fun q T => by
  rw [zVC_hc hp, ← e]
  exact h q T
-- a word comes
noncomputable def zTi (r : Nat) (p w : Int) (g g' : zi_M) (v : Int) : Prop := p < g r 8 → ∀ T : Int, (zInq (zVC T r g) p w → v = 1 ∧ zVC T r g' = zInr (zVC T r g) p w) ∧ (¬ zInq (zVC T r g) p w → v = 0 ∧ zVC T r g' = zVC T r g)
theorem zTi_a {r : Nat} {g : zi_M} {p w : Int} (hp : 0 ≤ p ∧ p ≤ 9) (c : 20 ≤ g (r + 6) p) : zTi r p w g g 0 := fun _ T => ⟨fun q => by
  have := q.1
  rw [zVC_hc hp] at this
  omega, fun _ => ⟨rfl, rfl⟩⟩
theorem zTi_c {r : Nat} {g : zi_M} {p w s : Int} (h : zHF r g p s) (c : zi_and (zi_shr s w) 1 = 1) : zTi r p w g g 0 := fun q T => ⟨fun z => by
  have := z.2
  rw [← h q T] at this
  exact absurd c this, fun _ => ⟨rfl, rfl⟩⟩
theorem zTi_b {r : Nat} (hr : zs_sh r = some (10, 20)) {g g7 g8 : zi_M} {p w s : Int} (h : zHF r g p s) (hp : 0 ≤ p ∧ p ≤ 9) (c : ¬ zi_and (zi_shr s w) 1 = 1) (c2 : g (r + 6) p < 20) (b : 0 ≤ g (r + 6) p) (e7 : g7 = zi_u g (r + 7) (p * 20 + g (r + 6) p) w) (e8 : g8 = zi_u g7 (r + 6) p (g (r + 6) p + 1)) : zTi r p w g g8 1 := fun q T => by
  have hb := zs_wb hr
  have yes : zInq (zVC T r g) p w := ⟨by rw [zVC_hc hp]; exact c2, by rw [← h q T]; exact c⟩
  refine ⟨fun _ => ⟨rfl, ?_⟩, fun n => absurd yes n⟩
  rw [e8, zV_hc hb ⟨hp.1, by omega⟩, e7, zV_hd hb ⟨by omega, by omega⟩]
  unfold zInr
  rw [zVC_hc hp, show 36 + (p * 20 + g (r + 6) p) = 36 + 20 * p + g (r + 6) p by omega]
-- the book
noncomputable def zBw (r : Nat) (a b c : Int) (g g' : zi_M) : Prop := ∀ T : Int, zVC T r g' = zNt (g r 0) (zVC T r g) a b c
theorem zBw_a {r : Nat} {g : zi_M} {a b c : Int} (h : ¬ g r 0 = 0) : zBw r a b c g g := fun T => by
  unfold zNt
  rw [zite_n (fun z => h z.1)]
theorem zBw_b {r : Nat} {g : zi_M} {a b c : Int} (h : 150 ≤ g r 19) : zBw r a b c g g := fun T => by
  unfold zNt
  rw [zite_n]
  rintro ⟨-, z⟩
  rw [(zVC_rd (T := T) (r := r) (g := g)).2.2.1] at z
  omega
theorem zBw_c {r : Nat} (hr : zs_sh r = some (10, 20)) {g g4 g5 g6 g7 g8 : zi_M} {a b c : Int} (h : g r 0 = 0) (h2 : g r 19 < 150) (h3 : 0 ≤ g r 19) (e4 : g4 = zi_u g 15 (g r 19) (g r 17)) (e5 : g5 = zi_u g4 16 (g r 19) a) (e6 : g6 = zi_u g5 17 (g r 19) b) (e7 : g7 = zi_u g6 18 (g r 19) c) (e8 : g8 = zi_u g7 r 19 (g r 19 + 1)) : zBw r a b c g g8 := fun T => by
  have hb := zs_wb hr
  obtain ⟨v0, -, v2, -⟩ := zVC_rd (T := T) (r := r) (g := g)
  unfold zNt zNb
  rw [zite_p ⟨h, by rw [v2]; exact h2⟩, v2, v0, e8, zV_line hb, e7, zV_b3 hb ⟨h3, h2⟩, e6, zV_b2 hb ⟨h3, h2⟩, e5, zV_b1 hb ⟨h3, h2⟩, e4, zV_b0 hb ⟨h3, h2⟩]
-- what is heard of one who sits there
theorem zls_0 {th p ws : Int} : ∀ (k : Nat) (w n : Int) (f : Int → Int), n ≤ 0 → zls th p ws k w n f = f
  | 0, _, _, _, _ => rfl
  | k + 1, w, n, f, h => by
    show zite _ _ _ = f
    rw [zite_n (fun z => by have := z.1; omega)]
    exact zls_0 k (w + 1) n f h
noncomputable def zLI (r : Nat) (p ws : Int) (g0 g : zi_M) (n w : Int) : Prop := p < g0 r 8 → ∀ T : Int, zls (g0 r 0) p ws (16 - w).toNat w n (zVC T r g) = zls (g0 r 0) p ws 16 0 (zLc g0 r 0 p 0 (zVC T r g0)) (zVC T r g0)
theorem zls_st {th p ws w n : Int} {f : Int → Int} (h : w < 16) : zls th p ws (16 - w).toNat w n f = zite (0 < n ∧ zi_and (zi_shr ws w) 1 = 1 ∧ zInq f p w) (zls th p ws (16 - (w + 1)).toNat (w + 1) (n - 1) (zNt th (zInr f p w) 0 p w)) (zls th p ws (16 - (w + 1)).toNat (w + 1) n f) := by
  rw [show (16 - w).toNat = (16 - (w + 1)).toNat + 1 by omega]
  rfl
theorem zLI_0 {r : Nat} {p ws v : Int} {g g2 : zi_M} (hr : zs_sh r = some (10, 20)) (F : zk_fr (fr_Law_tells r) g g2) (hv : ∀ T : Int, v = zLc g r 0 p 0 (zVC T r g)) : zLI r p ws g g2 v 0 := fun _ T => by
  have hb := zs_wb hr
  rw [zVC_c (g := g) (fun a i h => F a i (fun w => by unfold fr_Law_tells at w; omega)), hv T]
  rfl
theorem zLI_a {r : Nat} {p ws n w : Int} {g0 g : zi_M} (h : zLI r p ws g0 g n w) (hw : w < 16) (c : ¬ zi_and (zi_shr ws w) 1 = 1) : zLI r p ws g0 g n (w + 1) := fun q T => by
  have z := h q T
  rw [zls_st hw, zite_n (fun y => c y.2.1)] at z
  exact z
theorem zLI_b {r : Nat} {p ws n w v : Int} {g0 g g7 : zi_M} (h : zLI r p ws g0 g n w) (hw : w < 16) (k : zTi r p w g g7 v) (c : v = 0) (e8 : g r 8 = g0 r 8) : zLI r p ws g0 g7 n (w + 1) := fun q T => by
  have z := h q T
  obtain ⟨k1, k2⟩ := k (by rw [e8]; exact q) T
  have nq : ¬ zInq (zVC T r g) p w := fun y => by have := (k1 y).1; omega
  rw [zls_st hw, zite_n (fun y => nq y.2.2)] at z
  rw [(k2 nq).2]
  exact z
theorem zLI_c {r : Nat} {p ws n w v : Int} {g0 g g7 g10 : zi_M} (h : zLI r p ws g0 g n w) (hw : w < 16) (hn : 0 < n) (b : zi_and (zi_shr ws w) 1 = 1) (k : zTi r p w g g7 v) (c : ¬ v = 0) (W : zBw r 0 p w g7 g10) (e8 : g r 8 = g0 r 8) (e0 : g7 r 0 = g0 r 0) : zLI r p ws g0 g10 (n + -1) (w + 1) := fun q T => by
  have z := h q T
  obtain ⟨k1, k2⟩ := k (by rw [e8]; exact q) T
  have yq : zInq (zVC T r g) p w := Classical.byContradiction (fun y => c (k2 y).1)
  rw [zls_st hw, zite_p ⟨hn, b, yq⟩] at z
  rw [W T, (k1 yq).2, e0]
  exact z
noncomputable def zLF (r : Nat) (p ws : Int) (g0 g : zi_M) : Prop := p < g0 r 8 → ∀ T : Int, zVC T r g = zls (g0 r 0) p ws 16 0 (zLc g0 r 0 p 0 (zVC T r g0)) (zVC T r g0)
theorem zLI_x {r : Nat} {p ws n w : Int} {g0 g : zi_M} (h : zLI r p ws g0 g n w) (c : 16 ≤ w ∨ n ≤ 0) : zLF r p ws g0 g := fun q T => by
  rw [← h q T]
  rcases c with c | c
  · rw [show (16 - w).toNat = 0 by omega]
    rfl
  · exact (zls_0 _ _ _ _ c).symm
-- a dry day
theorem zdT_led {th : Int} {LW : Int → Int → Int → (Int → Int) → Int} {p : Int} {f : Int → Int} {n : Nat} (h : zdT th LW p n f (6 + p) = 2) : ∀ j : Nat, zdT th LW p (n + j) f = zdT th LW p n f
  | 0 => rfl
  | j + 1 => by
    have ih := zdT_led h j
    show zite _ _ (zdT th LW p (n + j) f) = _
    rw [zite_n (fun z => z.1 (show zdT th LW p (n + j) f (6 + p) = 2 by rw [ih]; exact h))]
    exact ih
noncomputable def zDI (r : Nat) (g0 g : zi_M) (p i : Int) : Prop := zVC (g0 r 11) r g = zdT (g0 r 0) (zLc g0 r) p i.toNat (zdy (g0 r 0) (zLc g0 r) (g0 r 11).toNat p.toNat (zVC (g0 r 11) r g0))
noncomputable def zDO (r : Nat) (g0 g : zi_M) (p : Int) : Prop := zVC (g0 r 11) r g = zdy (g0 r 0) (zLc g0 r) (g0 r 11).toNat p.toNat (zVC (g0 r 11) r g0)
theorem zDO_0 {r : Nat} {g : zi_M} : zDO r g g 0 := rfl
theorem zDI_0 {r : Nat} {g0 g : zi_M} {p : Int} (h : zDO r g0 g p) : zDI r g0 g p 0 := h
/-- the frame of what a dry day leaves alone -/
noncomputable def zDfr (r : Nat) (g0 g : zi_M) : Prop := (∀ (a : Nat) (i : Int), (21 ≤ a ∧ a ≤ 26) ∨ (r + 1 ≤ a ∧ a ≤ r + 4) ∨ (r + 8 ≤ a ∧ a ≤ r + 10) → g a i = g0 a i) ∧ g 20 7 = g0 20 7 ∧ ∀ i : Int, ¬ i = 14 → ¬ i = 15 → ¬ i = 16 → ¬ i = 17 → ¬ i = 18 → ¬ i = 19 → g r i = g0 r i
theorem zDI_n {r : Nat} {g0 g : zi_M} {p i : Int} (hr : zs_sh r = some (10, 20)) (h : zDI r g0 g p i) (fr : zDfr r g0 g) (hp : 0 ≤ p ∧ p ≤ 9) (h0 : 0 ≤ i) (h1 : i < g r 11) (bt : g r 11 ≤ 8) (c : ¬ g (r + 9) i = p) : zDI r g0 g p (i + 1) := by
  have e11 : g r 11 = g0 r 11 := fr.2.2 11 (by decide) (by decide) (by decide) (by decide) (by decide) (by decide)
  unfold zDI at *
  rw [show (i + 1).toNat = i.toNat + 1 by omega]
  show _ = zite _ _ _
  rw [← h, show ((i.toNat : Nat) : Int) = i by omega, zite_n]
  rintro ⟨-, z⟩
  rw [(zVC_rd (T := g0 r 11) (r := r) (g := g)).2.2.2.2.2.2.2.2.2.2.2.1 i h0 (by omega) (by omega)] at z
  omega
theorem zDI_y {r : Nat} {g0 g g' : zi_M} {p i : Int} (hr : zs_sh r = some (10, 20)) (h : zDI r g0 g p i) (fr : zDfr r g0 g) (hp : 0 ≤ p ∧ p ≤ 9) (hs : p < g0 r 8) (h0 : 0 ≤ i) (h1 : i < g r 11) (bt : g r 11 ≤ 8) (c : g (r + 9) i = p) (m : ¬ g (r + 4) p = 2) (L : zLF r p (g (r + 8) i) g g') : zDI r g0 g' p (i + 1) := by
  have e11 : g r 11 = g0 r 11 := fr.2.2 11 (by decide) (by decide) (by decide) (by decide) (by decide) (by decide)
  have e8 : g r 8 = g0 r 8 := fr.2.2 8 (by decide) (by decide) (by decide) (by decide) (by decide) (by decide)
  have e0 : g r 0 = g0 r 0 := fr.2.2 0 (by decide) (by decide) (by decide) (by decide) (by decide) (by decide)
  have el : zLc g r = zLc g0 r := zLc_c fr.2.1 (fun a i q => fr.1 a i (by omega))
  obtain ⟨-, -, -, -, -, -, vm, -, -, -, vk, va, -⟩ := zVC_rd (T := g0 r 11) (r := r) (g := g)
  unfold zDI at *
  rw [show (i + 1).toNat = i.toNat + 1 by omega]
  show _ = zite _ _ _
  rw [← h, show ((i.toNat : Nat) : Int) = i by omega, zite_p ⟨by rw [vm p hp.1 (by omega)]; exact m, by rw [va i h0 (by omega) (by omega), c]⟩, L (by rw [e8]; exact hs) (g0 r 11), e0, el, vk i h0 (by omega)]
noncomputable def zDB (r : Nat) (g0 g : zi_M) (p : Int) : Prop := zDI r g0 g p (g0 r 11)
theorem zDI_x {r : Nat} {g0 g : zi_M} {p i : Int} (h : zDI r g0 g p i) (fr : zDfr r g0 g) (h1 : g r 11 ≤ i) (h2 : i ≤ g0 r 11) : zDB r g0 g p := by
  have e11 : g r 11 = g0 r 11 := fr.2.2 11 (by decide) (by decide) (by decide) (by decide) (by decide) (by decide)
  unfold zDB
  rw [show g0 r 11 = i by omega]
  exact h
theorem zDI_l {r : Nat} {g0 g : zi_M} {p i : Int} (h : zDI r g0 g p i) (fr : zDfr r g0 g) (hp : 0 ≤ p ∧ p ≤ 9) (h0 : 0 ≤ i) (h1 : i < g r 11) (m : g (r + 4) p = 2) : zDB r g0 g p := by
  have e11 : g r 11 = g0 r 11 := fr.2.2 11 (by decide) (by decide) (by decide) (by decide) (by decide) (by decide)
  have h' := h
  unfold zDI at h'
  have vm := (zVC_rd (T := g0 r 11) (r := r) (g := g)).2.2.2.2.2.2.1 p hp.1 (by omega)
  have led := zdT_led (th := g0 r 0) (LW := zLc g0 r) (p := p) (f := zdy (g0 r 0) (zLc g0 r) (g0 r 11).toNat p.toNat (zVC (g0 r 11) r g0)) (n := i.toNat) (by rw [← h', vm, m]) ((g0 r 11).toNat - i.toNat)
  rw [show i.toNat + ((g0 r 11).toNat - i.toNat) = (g0 r 11).toNat by omega] at led
  unfold zDB zDI
  rw [led]
  exact h'
theorem zDB_s {r : Nat} {g0 g g' : zi_M} {p : Int} (hr : zs_sh r = some (10, 20)) (h : zDB r g0 g p) (hp : 0 ≤ p ∧ p ≤ 9) (e : g' = zi_u g (r + 5) p (min (g (r + 5) p + 1) 999)) : zDO r g0 g' (p + 1) := by
  have hb := zs_wb hr
  have vd := (zVC_rd (T := g0 r 11) (r := r) (g := g)).2.2.2.2.2.2.2.1 p hp.1 (by omega)
  unfold zDB zDI at h
  unfold zDO
  rw [show (p + 1).toNat = p.toNat + 1 by omega, e, zV_dry hb ⟨hp.1, by omega⟩]
  show _ = zdp _ _ _ _ _
  unfold zdp
  rw [show ((p.toNat : Nat) : Int) = p by omega, ← h, vd]
noncomputable def zDF (r : Nat) (g0 g : zi_M) : Prop := zVC (g0 r 11) r g = zdy (g0 r 0) (zLc g0 r) (g0 r 11).toNat (g0 r 8).toNat (zVC (g0 r 11) r g0)
theorem zDO_x {r : Nat} {g0 g : zi_M} {p : Int} (h : zDO r g0 g p) (e : p = g0 r 8) : zDF r g0 g := by
  unfold zDF
  rw [← e]
  exact h
theorem zDfr_d {r : Nat} (hr : zs_sh r = some (10, 20)) {g0 g : zi_M} (F : zk_fr (fr_DayRun_passDry r) g0 g) : zDfr r g0 g := by
  have hb := zs_wb hr
  refine ⟨fun a i h => F a i (fun w => ?_), F 20 7 (fun w => ?_), fun i h1 h2 h3 h4 h5 h6 => F r i (fun w => ?_)⟩
  · unfold fr_DayRun_passDry at w; omega
  · unfold fr_DayRun_passDry at w; omega
  · unfold fr_DayRun_passDry at w; omega
theorem zDf_8 {r : Nat} (hr : zs_sh r = some (10, 20)) {g0 g : zi_M} (F : zk_fr (fr_DayRun_passDry r) g0 g) : g r 8 = g0 r 8 ∧ g r 11 = g0 r 11 := ⟨(zDfr_d hr F).2.2 8 (by decide) (by decide) (by decide) (by decide) (by decide) (by decide), (zDfr_d hr F).2.2 11 (by decide) (by decide) (by decide) (by decide) (by decide) (by decide)⟩
theorem zLf_8 {r : Nat} (hr : zs_sh r = some (10, 20)) {g0 g : zi_M} (F : zk_fr (fr_DayRun_listen r) g0 g) : g r 8 = g0 r 8 ∧ g r 0 = g0 r 0 := by
  have hb := zs_wb hr
  exact ⟨F r 8 (fun w => by unfold fr_DayRun_listen at w; omega), F r 0 (fun w => by unfold fr_DayRun_listen at w; omega)⟩
