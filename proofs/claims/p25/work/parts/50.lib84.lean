-- THE LAW, the reference: tokens, codes
noncomputable def zex : List (Int × Int) → List (Int × Int)
  | [] => []
  | x :: L => (if x.1 = 5 then [(0, x.2), (5, 0)] else [x]) ++ zex L
theorem zex_a : ∀ L M : List (Int × Int), zex (L ++ M) = zex L ++ zex M
  | [], _ => rfl
  | x :: L, M => by
    show _ ++ zex (L ++ M) = (_ ++ zex L) ++ zex M
    rw [zex_a L M, List.append_assoc]
theorem zex_1 {x y : Int} (h : ¬ x = 5) : zex [(x, y)] = [(x, y)] := by
  show (if x = 5 then _ else _) ++ [] = _
  rw [if_neg h]
  rfl
theorem zex_5 {y : Int} : zex [(5, y)] = [(0, y), (5, 0)] := by
  show (if (5 : Int) = 5 then _ else _) ++ [] = _
  rw [if_pos rfl]
  rfl
theorem zex_lat {l : Int} (h : ¬ l = 5) : zex (zLat l) = zLat l := by
  unfold zLat
  by_cases c : l = -1
  · rw [if_pos c]; rfl
  · rw [if_neg c]; exact zex_1 h
abbrev zrL : Nat := 1000000001
theorem zyk1 : zkN 1000000001 = 16 ∧ ∀ j : Int, zmp 1000000001 j = j := ⟨by decide +kernel, fun j => if_pos rfl⟩
/-- the token at which the reference stands -/
theorem zrK {T : zyT} {g : zi_M} {t : Int} (h : zyR zrL T g t) : (g 214 16 = 0 ↔ T.1 t = 4) ∧ (g 214 16 = 3 ↔ T.1 t = 1) ∧ (g 214 16 = 4 ↔ T.1 t = 3) ∧ (g 214 16 = 3 ∨ g 214 16 = 4 → g 214 17 = T.2.1 t) ∧ (∀ j : Int, 0 ≤ j → j < 16 → ((g 214 16 = 2 ∧ g 214 17 = j) ↔ (T.1 t = 2 ∧ T.2.1 t = j))) ∧ (T.1 t = 2 → 0 ≤ T.2.1 t ∧ T.2.1 t < 16) := by
  have hr : zs_str zrL := rfl
  obtain ⟨a, b, c, d, e⟩ := zyR_k hr h
  rw [zyk1.1] at e
  refine ⟨a, b, c, d, fun j j0 j1 => by have := e j j0 j1; rw [zyk1.2] at this; exact this, fun k => ?_⟩
  obtain ⟨⟨c1, ⟨i1, i2, i3⟩, h3, h4⟩, h2, -⟩ := h
  have q : t < T.2.2.2 - 1 := Classical.byContradiction (fun q => by
    rw [show T.2.2.2 - 1 = t by omega] at h4
    omega)
  rcases (i1 t h2.1 q).2.2 with ⟨-, b, -, x⟩ | ⟨-, b, -, x⟩ | ⟨-, -, x⟩
  · rcases x with ⟨-, x2⟩ | ⟨x1, -⟩
    · have w := (zKw_W hr x2).2.2.2
      rw [zyk1.1] at w
      exact w
    · exfalso; omega
  · rcases x with ⟨x1, -⟩ | ⟨x1, -⟩ <;> (exfalso; omega)
  · rcases x with ⟨x1, -⟩ | ⟨x1, -⟩ <;> (exfalso; omega)
/-- one token on -/
noncomputable def zstm (g g1 : zi_M) : Prop := ∀ (T : zyT) (t : Int), zyR zrL T g t → zyE T → ¬ T.1 t = 4 → zyR zrL T g1 (t + 1)
theorem zyR_t {T : zyT} {g : zi_M} {t : Int} (h : zyR zrL T g t) (hE : zyE T) : 0 ≤ t ∧ t < T.2.2.2 ∧ T.2.2.2 ≤ 401 ∧ (¬ T.1 t = 4 → t < T.2.2.2 - 1) := by
  refine ⟨h.2.1.1, h.2.1.2, hE.1.2, fun n => Classical.byContradiction (fun q => n ?_)⟩
  have := h.2.1.2
  rw [show t = T.2.2.2 - 1 by omega]
  exact hE.2.1
theorem zstm_of {g g1 : zi_M} (F : zk_fr fr_M_reads g g1) (k : zTn (g 222) (g 214 13) (g 214 14) (g1 214 15) (g1 214 14) (g1 214 16) (g1 214 17)) : zstm g g1 := fun T t h hE n => zyR_n h F k ((zyR_t h hE).2.2.2 n)
theorem zyR_mm {T : zyT} {g g' : zi_M} {t : Int} (h : zyR zrL T g t) (F : ∀ (a : Nat) (i : Int), a = 222 ∨ (a = 214 ∧ 13 ≤ i ∧ i ≤ 17) → g' a i = g a i) : zyR zrL T g' t := zyR_m h (fun i => F 222 i (Or.inl rfl)) (fun i h1 h2 => F 214 i (Or.inr ⟨rfl, h1, h2⟩))
/-- codes that are run are left alone -/
noncomputable def zlo (g g' : zi_M) : Prop := ∀ i : Int, i < 800 → g' 229 i = g 229 i ∧ g' 230 i = g 230 i
theorem zlo_0 {g : zi_M} : zlo g g := fun _ _ => ⟨rfl, rfl⟩
theorem zlo_t {g g1 g2 : zi_M} (h : zlo g g1) (k : zlo g1 g2) : zlo g g2 := fun i hi => ⟨(k i hi).1.trans (h i hi).1, (k i hi).2.trans (h i hi).2⟩
theorem zlo_f {g g1 : zi_M} (f : ∀ i : Int, g1 229 i = g 229 i ∧ g1 230 i = g 230 i) : zlo g g1 := fun i _ => f i
theorem zlo_x {g g1 : zi_M} (F : zk_fr fr_M_errs g g1) : zlo g g1 := fun i _ => ⟨F 229 i (by unfold fr_M_errs; omega), F 230 i (by unfold fr_M_errs; omega)⟩
/-- the reference has put codes -/
noncomputable def zEm (L : List (Int × Int)) (g g' : zi_M) : Prop := g' 214 27 = g 214 27 + (L.length : Int) ∧ zEl (zp_o g') (zp_a g') L (g 214 27) ∧ (∀ i : Int, i < 800 + g 214 27 → g' 229 i = g 229 i ∧ g' 230 i = g 230 i) ∧ zlo g g'
theorem zEm_0 {g : zi_M} : zEm [] g g := ⟨by show _ = _ + (0 : Int); omega, trivial, fun _ _ => ⟨rfl, rfl⟩, zlo_0⟩
theorem zEm_t {L M : List (Int × Int)} {g g1 g2 : zi_M} (h : zEm L g g1) (k : zEm M g1 g2) : zEm (L ++ M) g g2 := by
  obtain ⟨h1, h2, h3, h4⟩ := h
  obtain ⟨k1, k2, k3, k4⟩ := k
  refine ⟨by rw [List.length_append]; omega, zEl_a (zEl_c h2 (fun i i0 i1 => k3 (800 + i) (by omega))) (by rw [← h1]; exact k2), fun i i1 => ?_, zlo_t h4 k4⟩
  have a := h3 i i1
  have b := k3 i (by omega)
  exact ⟨b.1.trans a.1, b.2.trans a.2⟩
theorem zEm_m {L : List (Int × Int)} {g g1 g2 : zi_M} (h : zEm L g g1) (e : g2 214 27 = g1 214 27) (f : ∀ i : Int, g2 229 i = g1 229 i ∧ g2 230 i = g1 230 i) : zEm L g g2 := by
  have r1 : g2 229 = g1 229 := funext fun i => (f i).1
  have r2 : g2 230 = g1 230 := funext fun i => (f i).2
  unfold zEm zlo zp_o zp_a at *
  rw [r1, r2, e]
  exact h
theorem zEm_s {L : List (Int × Int)} {g g0 g1 : zi_M} (h : zEm L g0 g1) (e : g0 214 27 = g 214 27) (f : ∀ i : Int, g0 229 i = g 229 i ∧ g0 230 i = g 230 i) : zEm L g g1 := by
  have r1 : g0 229 = g 229 := funext fun i => (f i).1
  have r2 : g0 230 = g 230 := funext fun i => (f i).2
  unfold zEm zlo zp_o zp_a at *
  rw [r1, r2, e] at h
  exact h
theorem zEm_1 {g g' : zi_M} {x y : Int} (b : 0 ≤ g 214 27) (c : g' 214 27 = g 214 27 + 1) (o : g' 229 (800 + g 214 27) = x) (a : g' 230 (800 + g 214 27) = y) (r : ∀ i : Int, ¬ i = 800 + g 214 27 → g' 229 i = g 229 i ∧ g' 230 i = g 230 i) : zEm [(x, y)] g g' :=
  ⟨by rw [c]; rfl, ⟨⟨o, a⟩, trivial⟩, fun i hi => r i (by omega), fun i hi => r i (by omega)⟩
/-- what reading leaves alone -/
theorem zrf_c {g g1 : zi_M} (F : zk_fr fr_M_reads g g1) : g1 214 27 = g 214 27 ∧ ∀ i : Int, g1 229 i = g 229 i ∧ g1 230 i = g 230 i := ⟨F _ _ (by unfold fr_M_reads; omega), fun i => ⟨F _ _ (by unfold fr_M_reads; omega), F _ _ (by unfold fr_M_reads; omega)⟩⟩
theorem zef_t {g g1 : zi_M} (F : zk_fr fr_M_emits g g1) : ∀ (a : Nat) (i : Int), a = 222 ∨ (a = 214 ∧ 13 ≤ i ∧ i ≤ 17) → g1 a i = g a i := fun a i h => F a i (fun q => by unfold fr_M_emits at q; omega)
noncomputable def zMr (T : zyT) (r : zLR) (v : Int) (g g' : zi_M) : Prop := (r.2.1 = 0 → v = 0 ∧ zyR zrL T g' r.2.2 ∧ zEm (zex r.1) g g') ∧ (¬ r.2.1 = 0 → v = -1 ∧ zyG T g' r.2.1 r.2.2 ∧ zlo g g')
noncomputable def zmcn (R : zyT → Int → zLR) (v : Int) (g g1 : zi_M) : Prop := ∀ (T : zyT) (t : Int), zyR zrL T g t → zyE T → zMr T (R T t) v g g1
theorem zMr_y {T : zyT} {L M : List (Int × Int)} {t : Int} {g g' : zi_M} (c : zyR zrL T g' t) (e : zEm M g g') (h : M = zex L) : zMr T (L, 0, t) 0 g g' := ⟨fun _ => ⟨rfl, c, by rw [← h]; exact e⟩, fun h => absurd rfl h⟩
theorem zMr_n {T : zyT} {L : List (Int × Int)} {f t v : Int} {g g' : zi_M} (hf : ¬ f = 0) (hv : v = -1) (c : zyG T g' f t) (l : zlo g g') : zMr T (L, f, t) v g g' := ⟨fun h => absurd h hf, fun _ => ⟨hv, c, l⟩⟩
section
variable {g g0 g1 g2 g3 g5 g8 g12 g16 : zi_M} {v w x l : Int}
theorem zmu_y (hw : (w = 0 ∧ g 214 16 = 3 ∧ v = g 214 17) ∨ (w = 1 ∧ g 214 16 = 2 ∧ 7 ≤ g 214 17 ∧ g 214 17 ≤ 15 ∧ v = g 214 17 - 7)) (F5 : zk_fr fr_M_emits g g5) (em : zEm [(w, v)] g g5) (st : zstm g5 g8) (F8 : zk_fr fr_M_reads g5 g8) : zmcn zUn 0 g g8 := fun T t h hE => by
  obtain ⟨a, b, c, d, e, f⟩ := zrK h
  have r5 := zyR_mm h (zef_t F5)
  have em8 := zEm_m em (zrf_c F8).1 (zrf_c F8).2
  rcases hw with ⟨w0, k3, hv⟩ | ⟨w1, k2, k7, k15, hv⟩
  · have k := b.1 k3
    have hv2 := d (Or.inl k3)
    rw [zUn_1 k]
    refine zMr_y (st T t r5 hE (by omega)) em8 ?_
    rw [w0, zex_1 (by decide), hv, hv2]
  · have k := (e (g 214 17) (by omega) (by omega)).1 ⟨k2, rfl⟩
    rw [zUn_2 k.1 (by omega)]
    refine zMr_y (st T t r5 hE (by omega)) em8 ?_
    rw [w1, zex_1 (by decide), hv, k.2]
theorem zmu_n (n3 : ¬ g 214 16 = 3) (n2 : ¬ (g 214 16 = 2 ∧ 7 ≤ g 214 17 ∧ g 214 17 ≤ 15)) (hv : v = -1) (er : ∀ (r : Nat) (T : zyT) (t : Int), zyR r T g t → zyG T g1 1 t) (le : zlo g g1) : zmcn zUn v g g1 := fun T t h hE => by
  obtain ⟨a, b, c, d, e, f⟩ := zrK h
  rw [zUn_0 (fun q => n3 (b.2 q)) (fun q => n2 (by
    have f1 := f q.1
    have k := (e (T.2.1 t) f1.1 f1.2).2 ⟨q.1, rfl⟩
    exact ⟨k.1, by omega, by omega⟩))]
  exact zMr_n (by decide) hv (er zrL T t h) le
/-- a sign -/
theorem zrS {T : zyT} {t c : Int} (h : zyR zrL T g t) : (g 214 16 = 4 ∧ g 214 17 = c) ↔ zSg T c t := by
  obtain ⟨_, _, k, d, _, _⟩ := zrK h
  constructor
  · rintro ⟨q1, q2⟩
    exact ⟨k.1 q1, by rw [← d (Or.inr q1)]; exact q2⟩
  · rintro ⟨q1, q2⟩
    exact ⟨k.2 q1, by rw [d (Or.inr (k.2 q1))]; exact q2⟩
/-- the loop of a product -/
noncomputable def zPl_ (g0 g : zi_M) : Prop := ∀ (T : zyT) (t0 : Int), zyR zrL T g0 t0 → zyE T → ∃ (t : Int) (L : List (Int × Int)) (k : Nat), zyR zrL T g t ∧ zEm (zex L) g0 g ∧ (∀ (N : Nat) (l : Int), zbd (zUn T t0) (fun u => zFl T (N + k) l u) = zpre L (zFl T N l t)) ∧ t = t0 + 1 + 2 * (k : Int)
noncomputable def zPf_ (g0 g : zi_M) : Prop := ∀ (T : zyT) (t0 : Int), zyR zrL T g0 t0 → zyE T → ∃ (e t : Int) (k : Nat), ¬ e = 0 ∧ zyG T g e t ∧ (∀ (N : Nat) (l : Int), (zbd (zUn T t0) (fun u => zFl T (N + k) l u)).2 = (e, t)) ∧ t0 + 2 * (k : Int) ≤ T.2.2.2 ∧ zlo g0 g
noncomputable def zPe_ (e : Int) (g0 g : zi_M) : Prop := ∀ (T : zyT) (t0 : Int), zyR zrL T g0 t0 → zyE T → ∃ (t : Int) (k : Nat), zyR zrL T g t ∧ (∀ (N : Nat) (l : Int), (zbd (zUn T t0) (fun u => zFl T (N + k) l u)).2 = (e, t)) ∧ t0 + 2 * (k : Int) ≤ T.2.2.2 ∧ zlo g0 g
noncomputable def zPx_ (g0 g : zi_M) : Prop := ∀ (T : zyT) (t0 : Int), zyR zrL T g0 t0 → zyE T → ∃ (t : Int) (L : List (Int × Int)) (k : Nat), zyR zrL T g t ∧ zEm (zex L) g0 g ∧ (∀ (N : Nat) (l : Int), zbd (zUn T t0) (fun u => zFl T (N + k) l u) = zpre L (zFl T N l t)) ∧ t = t0 + 1 + 2 * (k : Int) ∧ ¬ zSg T 42 t ∧ ¬ zSg T 47 t
noncomputable def zPr_ (v : Int) (g0 g : zi_M) : Prop := (v = 0 ∧ zPx_ g0 g) ∨ (v = -1 ∧ zPf_ g0 g)
theorem zPl_0 (h : zmcn zUn v g0 g) (c : ¬ v = -1) : zPl_ g0 g := fun T t0 hR hE => by
  have r := h T t0 hR hE
  have z : (zUn T t0).2.1 = 0 := Classical.byContradiction (fun z => c (r.2 z).1)
  obtain ⟨_, r2, r3⟩ := r.1 z
  have b := zUn_b z
  refine ⟨(zUn T t0).2.2, (zUn T t0).1, 0, r2, r3, fun N l => zbd_y z, by omega⟩
theorem zPf_0 (h : zmcn zUn v g0 g) (c : v = -1) : zPf_ g0 g := fun T t0 hR hE => by
  have r := h T t0 hR hE
  have z : ¬ (zUn T t0).2.1 = 0 := fun z => by have := (r.1 z).1; omega
  have b := zyR_t hR hE
  refine ⟨_, _, 0, z, (r.2 z).2.1, fun N l => by rw [zbd_n z], by omega, (r.2 z).2.2⟩
theorem zPx_x (h : zPl_ g0 g) (n1 : ¬ (g 214 16 = 4 ∧ g 214 17 = 42)) (n2 : ¬ (g 214 16 = 4 ∧ g 214 17 = 47)) : zPx_ g0 g := fun T t0 hR hE => by
  obtain ⟨t, L, k, h1, h2, h3, h4⟩ := h T t0 hR hE
  exact ⟨t, L, k, h1, h2, h3, h4, fun q => n1 ((zrS h1).2 q), fun q => n2 ((zrS h1).2 q)⟩
/-- parting by what is no number, or by nothing -/
theorem zPe_1 (h : zPl_ g0 g) (s : g 214 16 = 4 ∧ g 214 17 = 47) (st : zstm g g12) (F12 : zk_fr fr_M_reads g g12) (c : (x = 1 ∧ ¬ g12 214 16 = 3) ∨ (x = 2 ∧ g12 214 16 = 3 ∧ g12 214 17 = 0)) : zPe_ x g0 g12 := fun T t0 hR hE => by
  obtain ⟨t, L, k, h1, h2, h3, h4⟩ := h T t0 hR hE
  have sg := (zrS h1).1 s
  have c12 := st T t h1 hE (by have := sg.1; omega)
  have b := zyR_t c12 hE
  obtain ⟨_, kb, _, d, _, _⟩ := zrK c12
  refine ⟨t + 1, k + 1, c12, fun N l => ?_, by omega, zlo_t h2.2.2.2 (zlo_f (zrf_c F12).2)⟩
  rw [show N + (k + 1) = (N + 1) + k by omega, h3 (N + 1) l, zFl_d sg, zpre_e]
  rcases c with ⟨e, q⟩ | ⟨e, q1, q2⟩
  · rw [zPt_0 (fun w => q (kb.2 w)), zbd_n (show ¬ (1 : Int) = 0 by decide), e]
  · rw [zPt_2 (kb.1 q1) (by rw [← d (Or.inl q1)]; exact q2), zbd_n (show ¬ (2 : Int) = 0 by decide), e]
theorem zPf_e (h : zPe_ x g0 g) (hx : ¬ x = 0) (er : ∀ (r : Nat) (T : zyT) (t : Int), zyR r T g t → zyG T g1 x t) (le : zlo g g1) : zPf_ g0 g1 := fun T t0 hR hE => by
  obtain ⟨t, k, h1, h2, h3, h4⟩ := h T t0 hR hE
  exact ⟨x, t, k, hx, er zrL T t h1, h2, h3, zlo_t h4 le⟩
/-- a unit behind * (or a number behind /) -/
theorem zPl_u (h : zPl_ g0 g) (s : (x = 4 ∧ g 214 16 = 4 ∧ g 214 17 = 42) ∨ (x = 5 ∧ (g 214 16 = 4 ∧ g 214 17 = 47) ∧ g12 214 16 = 3 ∧ ¬ g12 214 17 = 0)) (st : zstm g g12) (F12 : zk_fr fr_M_reads g g12) (u : zmcn zUn v g12 g16) : (v = -1 → zPf_ g0 g16) ∧ (¬ v = -1 → ∀ g5 : zi_M, zEm [(x, 0)] g16 g5 → zk_fr fr_M_emits g16 g5 → zPl_ g0 g5) := by
  refine ⟨fun c T t0 hR hE => ?_, fun c g5 em F5 T t0 hR hE => ?_⟩
  · obtain ⟨t, L, k, h1, h2, h3, h4⟩ := h T t0 hR hE
    rcases s with ⟨ex, s⟩ | ⟨ex, s, s3, s0⟩
    · have sg := (zrS h1).1 s
      have c12 := st T t h1 hE (by have := sg.1; omega)
      have b := zyR_t c12 hE
      have r := u T (t + 1) c12 hE
      have z : ¬ (zUn T (t + 1)).2.1 = 0 := fun z => by have := (r.1 z).1; omega
      refine ⟨_, _, k + 1, z, (r.2 z).2.1, fun N l => ?_, by omega, zlo_t (zlo_t h2.2.2.2 (zlo_f (zrf_c F12).2)) (r.2 z).2.2⟩
      rw [show N + (k + 1) = (N + 1) + k by omega, h3 (N + 1) l, zFl_m sg, zpre_e, zbd_n z]
    · have sg := (zrS h1).1 s
      have c12 := st T t h1 hE (by have := sg.1; omega)
      have r := u T (t + 1) c12 hE
      have kb := ((zrK c12).2.1).1 s3
      rw [zUn_1 kb] at r
      exact absurd (r.1 rfl).1 (by omega)
  · obtain ⟨t, L, k, h1, h2, h3, h4⟩ := h T t0 hR hE
    rcases s with ⟨ex, s⟩ | ⟨ex, s, s3, s0⟩
    · have sg := (zrS h1).1 s
      have c12 := st T t h1 hE (by have := sg.1; omega)
      have b := zyR_t c12 hE
      have r := u T (t + 1) c12 hE
      have z : (zUn T (t + 1)).2.1 = 0 := Classical.byContradiction (fun z => c (r.2 z).1)
      obtain ⟨_, r2, r3⟩ := r.1 z
      have bu := zUn_b z
      refine ⟨(zUn T (t + 1)).2.2, L ++ ((zUn T (t + 1)).1 ++ [(4, 0)]), k + 1, zyR_mm r2 (zef_t F5), ?_, fun N l => ?_, by omega⟩
      · rw [zex_a, zex_a, zex_1 (by decide), ← ex]
        exact zEm_t h2 (zEm_t (zEm_s r3 (zrf_c F12).1 (zrf_c F12).2) em)
      · rw [show N + (k + 1) = (N + 1) + k by omega, h3 (N + 1) l, zFl_m sg, zbd_y z, zpre_p, zpre_p, List.append_assoc]
    · have sg := (zrS h1).1 s
      have c12 := st T t h1 hE (by have := sg.1; omega)
      have b := zyR_t c12 hE
      have r := u T (t + 1) c12 hE
      obtain ⟨_, kb', _, d, _, _⟩ := zrK c12
      have kb := kb'.1 s3
      have ev := d (Or.inl s3)
      rw [zUn_1 kb] at r
      obtain ⟨_, r2, r3⟩ := r.1 rfl
      have e5 : zPt T (t + 1) = ([(5, T.2.1 (t + 1))], 0, t + 1 + 1) := zPt_1 kb (by rw [← ev]; exact s0)
      refine ⟨t + 1 + 1, L ++ [(5, T.2.1 (t + 1))], k + 1, zyR_mm r2 (zef_t F5), ?_, fun N l => ?_, by omega⟩
      · rw [zex_a, zex_5]
        have r3' : zEm [(0, T.2.1 (t + 1))] g12 g16 := by
          have q : zEm (zex [(0, T.2.1 (t + 1))]) g12 g16 := r3
          rw [zex_1 (by decide)] at q
          exact q
        rw [ex] at em
        exact zEm_t h2 (zEm_t (zEm_s r3' (zrf_c F12).1 (zrf_c F12).2) em)
      · rw [show N + (k + 1) = (N + 1) + k by omega, h3 (N + 1) l, zFl_d sg, e5, zbd_y rfl, zpre_p]
/-- the loop of a sum -/
noncomputable def zQl_ (g0 g : zi_M) : Prop := ∀ (T : zyT) (t0 : Int), zyR zrL T g0 t0 → zyE T → ∃ (t : Int) (L : List (Int × Int)) (n : Nat), zyR zrL T g t ∧ zEm (zex L) g0 g ∧ zSu T t0 = zpre L (zFl T n (-1) t) ∧ T.2.2.2 - t < n ∧ ¬ zSg T 42 t ∧ ¬ zSg T 47 t
theorem zQl_0 (h : zPr_ v g0 g) (c : ¬ v = -1) : zQl_ g0 g := fun T t0 hR hE => by
  rcases h with ⟨_, h⟩ | ⟨e, _⟩
  · obtain ⟨t, L, k, h1, h2, h3, h4, h5, h6⟩ := h T t0 hR hE
    have b := zyR_t h1 hE
    have b0 := zyR_t hR hE
    refine ⟨t, L, 402 - k, h1, h2, ?_, by omega, h5, h6⟩
    have q := h3 (402 - k) (-1)
    rw [show 402 - k + k = 402 by omega] at q
    exact q
  · exact absurd e c
theorem zQf_0 (h : zPr_ v g0 g) (c : v = -1) : zmcn zSu v g0 g := fun T t0 hR hE => by
  rcases h with ⟨e, _⟩ | ⟨_, h⟩
  · omega
  · obtain ⟨e, t, k, h1, h2, h3, h4, h5⟩ := h T t0 hR hE
    have b0 := zyR_t hR hE
    have q := h3 (402 - k) (-1)
    rw [show 402 - k + k = 402 by omega] at q
    have q' : (zSu T t0).2 = (e, t) := q
    unfold zMr
    rw [q']
    exact ⟨fun z => absurd z h1, fun _ => ⟨c, h2, h5⟩⟩
theorem zQl_x (h : zQl_ g0 g) (n1 : ¬ (g 214 16 = 4 ∧ g 214 17 = 43)) (n2 : ¬ (g 214 16 = 4 ∧ g 214 17 = 45)) : zmcn zSu 0 g0 g := fun T t0 hR hE => by
  obtain ⟨t, L, n, h1, h2, h3, h4, h5, h6⟩ := h T t0 hR hE
  have b := zyR_t h1 hE
  obtain ⟨m, rfl⟩ : ∃ m : Nat, n = m + 1 := ⟨n - 1, by omega⟩
  rw [zFl_e h5 h6 (fun q => n1 ((zrS h1).2 q)) (fun q => n2 ((zrS h1).2 q))] at h3
  have e : zSu T t0 = (L, 0, t) := by
    rw [h3]
    unfold zpre zLat
    rw [if_pos rfl, List.append_nil]
  rw [e]
  exact zMr_y h1 h2 rfl
theorem zQl_u (h : zQl_ g0 g) (s : (x = 2 ∧ g 214 16 = 4 ∧ g 214 17 = 43) ∨ (x = 3 ∧ g 214 16 = 4 ∧ g 214 17 = 45)) (st : zstm g g12) (F12 : zk_fr fr_M_reads g g12) (u : zPr_ v g12 g16) : (v = -1 → zmcn zSu (-1) g0 g16) ∧ (¬ v = -1 → ∀ g5 : zi_M, zEm [(x, 0)] g16 g5 → zk_fr fr_M_emits g16 g5 → zQl_ g0 g5) := by
  have X : ∀ (T : zyT) (t0 : Int), zyR zrL T g0 t0 → zyE T → ∃ (t : Int) (L : List (Int × Int)) (m : Nat), zyR zrL T g12 (t + 1) ∧ zEm (zex L) g0 g ∧ zSu T t0 = zpre L (zbd (zUn T (t + 1)) (fun u => zFl T m x u)) ∧ T.2.2.2 - t < ((m + 1 : Nat) : Int) ∧ 0 ≤ t ∧ T.2.2.2 ≤ 401 := fun T t0 hR hE => by
    obtain ⟨t, L, n, h1, h2, h3, h4, h5, h6⟩ := h T t0 hR hE
    have b := zyR_t h1 hE
    obtain ⟨m, rfl⟩ : ∃ m : Nat, n = m + 1 := ⟨n - 1, by omega⟩
    rcases s with ⟨ex, s⟩ | ⟨ex, s⟩
    · have sg := (zrS h1).1 s
      rw [zFl_p sg, ← ex] at h3
      exact ⟨t, L, m, st T t h1 hE (by have := sg.1; omega), h2, h3, h4, b.1, b.2.2.1⟩
    · have sg := (zrS h1).1 s
      rw [zFl_s sg, ← ex] at h3
      exact ⟨t, L, m, st T t h1 hE (by have := sg.1; omega), h2, h3, h4, b.1, b.2.2.1⟩
  have x5 : ¬ x = 5 ∧ ¬ x = -1 := by omega
  refine ⟨fun c T t0 hR hE => ?_, fun c g5 em F5 T t0 hR hE => ?_⟩
  · obtain ⟨t, L, m, c12, h2, h3, h4, b0, b1⟩ := X T t0 hR hE
    rcases u with ⟨e, _⟩ | ⟨_, u⟩
    · omega
    · obtain ⟨e, t', k, u1, u2, u3, u4, u5⟩ := u T (t + 1) c12 hE
      have bg : k ≤ m := by omega
      have q := u3 (m - k) x
      rw [show m - k + k = m by omega] at q
      have q' : (zSu T t0).2 = (e, t') := by rw [h3, zpre_e]; exact q
      unfold zMr
      rw [q']
      exact ⟨fun z => absurd z u1, fun _ => ⟨rfl, u2, zlo_t (zlo_t h2.2.2.2 (zlo_f (zrf_c F12).2)) u5⟩⟩
  · obtain ⟨t, L, m, c12, h2, h3, h4, b0, b1⟩ := X T t0 hR hE
    rcases u with ⟨_, u⟩ | ⟨e, _⟩
    · obtain ⟨t', L', k, u1, u2, u3, u4, u5, u6⟩ := u T (t + 1) c12 hE
      have b := zyR_t u1 hE
      obtain ⟨j, ej⟩ : ∃ j : Nat, m = (j + 1) + k := ⟨m - k - 1, by omega⟩
      have q := u3 (j + 1) x
      rw [← ej, zFl_l u5 u6] at q
      refine ⟨t', L ++ (L' ++ zLat x), j + 1, zyR_mm u1 (zef_t F5), ?_, ?_, by omega, u5, u6⟩
      · rw [zex_a, zex_a, zex_lat x5.1]
        have e1 : zLat x = [(x, 0)] := if_neg x5.2
        rw [e1]
        exact zEm_t h2 (zEm_t (zEm_s u2 (zrf_c F12).1 (zrf_c F12).2) em)
      · rw [h3, q, zpre_p, zpre_p, List.append_assoc]
    · exact absurd e c
/-- comparisons -/
theorem zMc_f (h : zmcn zSu v g0 g) (c : v = -1) : zmcn zCp (-1) g0 g := fun T t0 hR hE => by
  have r := h T t0 hR hE
  have z : ¬ (zSu T t0).2.1 = 0 := fun z => by have := (r.1 z).1; omega
  have e : zCp T t0 = zSu T t0 := zbd_n z
  rw [e]
  exact ⟨fun q => absurd q z, fun _ => ⟨rfl, (r.2 z).2⟩⟩
theorem zMc_o {T : zyT} {t : Int} (h : zyR zrL T g t) (s : (x = 6 ∧ g 214 16 = 4 ∧ g 214 17 = 60) ∨ (x = 7 ∧ g 214 16 = 4 ∧ g 214 17 = 61) ∨ (x = 8 ∧ g 214 16 = 4 ∧ g 214 17 = 62)) : x = zop T t := by
  rcases s with ⟨e, s⟩ | ⟨e, s⟩ | ⟨e, s⟩
  · rw [e]; exact zop_6 ((zrS h).1 s)
  · rw [e]; exact zop_7 ((zrS h).1 s)
  · rw [e]; exact zop_8 ((zrS h).1 s)
theorem zMc_1 (h : zmcn zSu v g0 g) (c : ¬ v = -1) (n1 : ¬ (g 214 16 = 4 ∧ g 214 17 = 60)) (n2 : ¬ (g 214 16 = 4 ∧ g 214 17 = 61)) (n3 : ¬ (g 214 16 = 4 ∧ g 214 17 = 62)) (hw : w = -1) (er : ∀ (r : Nat) (T : zyT) (t : Int), zyR r T g t → zyG T g1 1 t) (le : zlo g g1) : zmcn zCp w g0 g1 := fun T t0 hR hE => by
  have r := h T t0 hR hE
  have z : (zSu T t0).2.1 = 0 := Classical.byContradiction (fun z => c (r.2 z).1)
  obtain ⟨_, r2, r3⟩ := r.1 z
  have o := zop_n (fun q => n1 ((zrS r2).2 q)) (fun q => n2 ((zrS r2).2 q)) (fun q => n3 ((zrS r2).2 q))
  have e : zCp T t0 = zpre (zSu T t0).1 ([], 1, (zSu T t0).2.2) := by
    unfold zCp
    rw [zbd_y z, if_pos o.symm]
  rw [e]
  exact zMr_n (f := 1) (by decide) hw (er zrL T _ r2) (zlo_t r3.2.2.2 le)
theorem zMc_u (h : zmcn zSu v g0 g) (c : ¬ v = -1) (s : (x = 6 ∧ g 214 16 = 4 ∧ g 214 17 = 60) ∨ (x = 7 ∧ g 214 16 = 4 ∧ g 214 17 = 61) ∨ (x = 8 ∧ g 214 16 = 4 ∧ g 214 17 = 62)) (st : zstm g g12) (F12 : zk_fr fr_M_reads g g12) (u : zmcn zSu w g12 g16) : (w = -1 → zmcn zCp (-1) g0 g16) ∧ (¬ w = -1 → ∀ g5 : zi_M, zEm [(x, 0)] g16 g5 → zk_fr fr_M_emits g16 g5 → zmcn zCp 0 g0 g5) := by
  have x5 : ¬ x = 5 ∧ ¬ x = -1 := by omega
  have X : ∀ (T : zyT) (t0 : Int), zyR zrL T g0 t0 → zyE T → (zSu T t0).2.1 = 0 ∧ zEm (zex (zSu T t0).1) g0 g ∧ x = zop T (zSu T t0).2.2 ∧ zMr T (zSu T ((zSu T t0).2.2 + 1)) w g12 g16 := fun T t0 hR hE => by
    have r := h T t0 hR hE
    have z : (zSu T t0).2.1 = 0 := Classical.byContradiction (fun z => c (r.2 z).1)
    obtain ⟨_, r2, r3⟩ := r.1 z
    have o := zMc_o r2 s
    have k3 := zop_t (T := T) (t := (zSu T t0).2.2) (by omega)
    exact ⟨z, r3, o, u T _ (st T _ r2 hE (by omega)) hE⟩
  refine ⟨fun c2 T t0 hR hE => ?_, fun c2 g5 em F5 T t0 hR hE => ?_⟩
  · obtain ⟨z, r3, o, r⟩ := X T t0 hR hE
    have y : ¬ (zSu T ((zSu T t0).2.2 + 1)).2.1 = 0 := fun y => by have := (r.1 y).1; omega
    have e : zCp T t0 = zpre (zSu T t0).1 (zSu T ((zSu T t0).2.2 + 1)) := by
      unfold zCp
      rw [zbd_y z, if_neg (by omega), zbd_n y]
    rw [e]
    exact ⟨fun q => absurd q y, fun _ => ⟨rfl, (r.2 y).2.1, zlo_t (zlo_t r3.2.2.2 (zlo_f (zrf_c F12).2)) (r.2 y).2.2⟩⟩
  · obtain ⟨z, r3, o, r⟩ := X T t0 hR hE
    have y : (zSu T ((zSu T t0).2.2 + 1)).2.1 = 0 := Classical.byContradiction (fun y => c2 (r.2 y).1)
    obtain ⟨_, q2, q3⟩ := r.1 y
    have e : zCp T t0 = ((zSu T t0).1 ++ ((zSu T ((zSu T t0).2.2 + 1)).1 ++ [(x, 0)]), 0, (zSu T ((zSu T t0).2.2 + 1)).2.2) := by
      unfold zCp
      rw [zbd_y z, if_neg (by omega), zbd_y y, ← o]
      rfl
    rw [e]
    refine zMr_y (zyR_mm q2 (zef_t F5)) (zEm_t r3 (zEm_t (zEm_s q3 (zrf_c F12).1 (zrf_c F12).2) em)) ?_
    rw [zex_a, zex_a, zex_1 x5.1]
end
