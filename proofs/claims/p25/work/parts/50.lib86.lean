-- THE LAW, the reference: its lines
noncomputable def zxl (x : zLi) : zLi := (x.1, zex x.2.1, zex x.2.2)
noncomputable def zLr_ (g : zi_M) (L : List zLi) (e : Int) : Prop := zLs (zp_o g) (zp_a g) (fun k => g 225 (32 + k)) (fun k => g 226 (32 + k)) (fun k => g 227 (32 + k)) (fun k => g 228 (32 + k)) (L.map zxl) 0 0 e
theorem zLr_c {g g' : zi_M} {L : List zLi} {e k : Int} (h : zLr_ g L e) (hk : (L.length : Int) = k) (r : ∀ i : Int, 0 ≤ i → i < k → g' 225 (32 + i) = g 225 (32 + i) ∧ g' 226 (32 + i) = g 226 (32 + i) ∧ g' 227 (32 + i) = g 227 (32 + i) ∧ g' 228 (32 + i) = g 228 (32 + i)) (c : ∀ i : Int, i < 800 + e → g' 229 i = g 229 i ∧ g' 230 i = g 230 i) : zLr_ g' L e :=
  zLs_c h (fun i _ i1 => c (800 + i) (by omega)) (fun i i0 i1 => r i i0 (by rw [List.length_map] at i1; omega))
/-- the law that is run is left alone -/
noncomputable def zlrw (g g' : zi_M) : Prop := zlo g g' ∧ ∀ (a : Nat) (i : Int), 225 ≤ a → a ≤ 228 → i < 32 → g' a i = g a i
theorem zlrw_0 {g : zi_M} : zlrw g g := ⟨zlo_0, fun _ _ _ _ _ => rfl⟩
theorem zlrw_t {g g1 g2 : zi_M} (h : zlrw g g1) (k : zlrw g1 g2) : zlrw g g2 := ⟨zlo_t h.1 k.1, fun a i a0 a1 hi => (k.2 a i a0 a1 hi).trans (h.2 a i a0 a1 hi)⟩
theorem zlrw_r {g g1 : zi_M} (h : zlo g g1) (f : ∀ (i : Int) (a : Nat), 225 ≤ a → a ≤ 228 → g1 a i = g a i) : zlrw g g1 := ⟨h, fun a i a0 a1 _ => f i a a0 a1⟩
theorem zlrw_x {g g1 : zi_M} (F : zk_fr fr_M_errs g g1) : zlrw g g1 := zlrw_r (zlo_x F) (fun i a a0 a1 => F a i (by unfold fr_M_errs; omega))
theorem zlrw_d {g g1 : zi_M} (F : zk_fr fr_M_reads g g1) : zlrw g g1 := zlrw_r (zlo_f (zrf_c F).2) (fun i a a0 a1 => F a i (by unfold fr_M_reads; omega))
theorem zlrw_u {g g1 : zi_M} {a : Nat} {k v : Int} (e : g1 = zi_u g a (32 + k) v) (k0 : 0 ≤ k) (ha : 225 ≤ a ∧ a ≤ 228) : zlrw g g1 := ⟨fun i _ => ⟨by rw [e]; exact zi_u_ne (by omega), by rw [e]; exact zi_u_ne (by omega)⟩, fun b i b0 b1 hi => by rw [e]; exact zi_u_ni (by omega)⟩
abbrev zpmr (T : zyT) (g0 : zi_M) : Prop := zyR zrL T g0 0 ∧ zyE T ∧ g0 214 27 = 0
/-- k lines have been read by the reference -/
noncomputable def zLrl (k : Int) (g0 g : zi_M) : Prop := ∀ T : zyT, zpmr T g0 → ∃ (t : Int) (n : Nat) (L : List zLi), zyR zrL T g t ∧ zLr_ g L (g 214 27) ∧ (L.length : Int) = k ∧ zLaw T = zcat L (zLn T n k t) ∧ T.2.2.2 - t < n ∧ zlrw g0 g
noncomputable def zLaf (e : Int) (g0 g : zi_M) : Prop := ∀ T : zyT, zpmr T g0 → ∃ t : Int, zyR zrL T g t ∧ (zLaw T).2 = (e, t) ∧ zlrw g0 g
noncomputable def zLrf (v : Int) (g0 g : zi_M) : Prop := ∀ T : zyT, zpmr T g0 → ((zLaw T).2.1 = 0 → v = ((zLaw T).1.length : Int) ∧ zLr_ g (zLaw T).1 (g 214 27)) ∧ (¬ (zLaw T).2.1 = 0 → v = -1 ∧ zyG T g (zLaw T).2.1 (zLaw T).2.2 ∧ zlrw g0 g)
/-- a line has begun -/
noncomputable def zLrh (k kd a : Int) (g0 g : zi_M) : Prop := ∀ T : zyT, zpmr T g0 → ∃ (t : Int) (n : Nat) (L : List zLi), zyR zrL T g (t + 1) ∧ zLr_ g L a ∧ (L.length : Int) = k ∧ zLaw T = zcat L (zLn T (n + 1) k t) ∧ T.2.2.2 - t < ((n + 1 : Nat) : Int) ∧ (T.1 t = 2 ∧ 0 ≤ T.2.1 t ∧ T.2.1 t ≤ 2) ∧ kd = T.2.1 t ∧ zlrw g0 g
/-- its sum is read -/
noncomputable def zLri (k kd a b : Int) (g0 g : zi_M) : Prop := ∀ T : zyT, zpmr T g0 → ∃ (t : Int) (n : Nat) (L : List zLi), zLr_ g L a ∧ (L.length : Int) = k ∧ zLaw T = zcat L (zLn T (n + 1) k t) ∧ T.2.2.2 - t < ((n + 1 : Nat) : Int) ∧ (T.1 t = 2 ∧ 0 ≤ T.2.1 t ∧ T.2.1 t ≤ 2) ∧ kd = T.2.1 t ∧ (zSu T (t + 1)).2.1 = 0 ∧ zyR zrL T g (zSu T (t + 1)).2.2 ∧ zEl (zp_o g) (zp_a g) (zex (zSu T (t + 1)).1) a ∧ b = a + ((zex (zSu T (t + 1)).1).length : Int) ∧ zlrw g0 g
/-- its end is due -/
noncomputable def zLrj (k kd a b : Int) (g0 g : zi_M) : Prop := ∀ T : zyT, zpmr T g0 → ∃ (t : Int) (n : Nat) (L : List zLi), zLr_ g L a ∧ (L.length : Int) = k ∧ zLaw T = zcat L (zLn T (n + 1) k t) ∧ T.2.2.2 - t < ((n + 1 : Nat) : Int) ∧ (T.1 t = 2 ∧ 0 ≤ T.2.1 t ∧ T.2.1 t ≤ 2) ∧ kd = T.2.1 t ∧ (zSu T (t + 1)).2.1 = 0 ∧ (zWhn T (zSu T (t + 1)).2.2).2.1 = 0 ∧ zyR zrL T g (zWhn T (zSu T (t + 1)).2.2).2.2 ∧ zEl (zp_o g) (zp_a g) (zex (zSu T (t + 1)).1 ++ zex (zWhn T (zSu T (t + 1)).2.2).1) a ∧ b = a + ((zex (zSu T (t + 1)).1).length : Int) ∧ g 214 27 = b + ((zex (zWhn T (zSu T (t + 1)).2.2).1).length : Int) ∧ zlrw g0 g
section
variable {g0 g g1 g6 g8 g10 g12 g15 g20 g25 g29 g32 : zi_M} {v w k kd a b x : Int}
theorem zLrl_0 : zLrl 0 g g := fun T h => by
  have b := zyR_t h.1 h.2.1
  exact ⟨0, 402, [], h.1, h.2.2.symm, rfl, by unfold zLaw zcat; rw [List.nil_append], by omega, zlrw_0⟩
theorem zrT {T : zyT} {t : Int} (h : zyR zrL T g t) : (g 214 16 = 2 ∧ 0 ≤ g 214 17 ∧ g 214 17 ≤ 2) ↔ (T.1 t = 2 ∧ 0 ≤ T.2.1 t ∧ T.2.1 t ≤ 2) := by
  constructor
  · rintro ⟨q1, q2, q3⟩
    have r := (zrW h (c := g 214 17) q2 (by omega)).1 ⟨q1, rfl⟩
    exact ⟨r.1, by omega, by omega⟩
  · rintro ⟨q1, q2, q3⟩
    have r := (zrW h (c := T.2.1 t) q2 (by omega)).2 ⟨q1, rfl⟩
    exact ⟨r.1, by omega, by omega⟩
/-- no line begins -/
theorem zLrl_e (h : zLrl k g0 g) (c : g 214 16 = 0) : zLrf k g0 g := fun T hp => by
  obtain ⟨t, n, L, k1, k2, k3, k4, k5, kw⟩ := h T hp
  obtain ⟨m, rfl⟩ := zAn_f k1 k5
  rw [zLn_e ((zrK k1).1.1 c)] at k4
  unfold zcat at k4
  rw [List.append_nil] at k4
  rw [k4]
  exact ⟨fun _ => ⟨k3.symm, k2⟩, fun q => absurd rfl q⟩
theorem zLrl_1 (h : zLrl k g0 g) (c : ¬ g 214 16 = 0) (l : ¬ (g 214 16 = 2 ∧ 0 ≤ g 214 17 ∧ g 214 17 ≤ 2)) : zLaf 1 g0 g := fun T hp => by
  obtain ⟨t, n, L, k1, k2, k3, k4, k5, kw⟩ := h T hp
  obtain ⟨m, rfl⟩ := zAn_f k1 k5
  rw [zLn_1 (fun q => c ((zrK k1).1.2 q)) (fun q => l ((zrT k1).2 q))] at k4
  rw [k4]
  exact ⟨t, k1, rfl, kw⟩
theorem zLrl_3 (h : zLrl k g0 g) (l : g 214 16 = 2 ∧ 0 ≤ g 214 17 ∧ g 214 17 ≤ 2) (c : k = 16) : zLaf 3 g0 g := fun T hp => by
  obtain ⟨t, n, L, k1, k2, k3, k4, k5, kw⟩ := h T hp
  obtain ⟨m, rfl⟩ := zAn_f k1 k5
  rw [zLn_3 ((zrT k1).1 l) (by omega)] at k4
  rw [k4]
  exact ⟨t, k1, rfl, kw⟩
theorem zLaf_n (h : zLaf x g0 g) (hx : ¬ x = 0) (hv : v = -1) (er : ∀ (r : Nat) (T : zyT) (t : Int), zyR r T g t → zyG T g1 x t) (le : zlrw g g1) : zLrf v g0 g1 := fun T hp => by
  obtain ⟨t, k1, k2, k3⟩ := h T hp
  rw [k2]
  exact ⟨fun q => absurd q hx, fun _ => ⟨hv, er zrL T t k1, zlrw_t k3 le⟩⟩
/-- a line begins -/
theorem zLrl_h (h : zLrl k g0 g) (l : g 214 16 = 2 ∧ 0 ≤ g 214 17 ∧ g 214 17 ≤ 2) (e6 : g6 = zi_u g 225 (32 + k) (g 214 17)) (F8 : zk_fr fr_M_reads g6 g8) (st : zstm g6 g8) (e10 : g10 = zi_u g8 226 (32 + k) (g8 214 27)) : zLrh k (g 214 17) (g 214 27) g0 g10 := fun T hp => by
  obtain ⟨t, n, L, k1, k2, k3, k4, k5, kw⟩ := h T hp
  obtain ⟨m, rfl⟩ := zAn_f k1 k5
  have y := (zrT k1).1 l
  have r6 : zyR zrL T g6 t := zyR_u k1 e6 ⟨by decide, by decide⟩
  have r8 := st T t r6 hp.2.1 (by omega)
  have r10 : zyR zrL T g10 (t + 1) := zyR_u r8 e10 ⟨by decide, by decide⟩
  have o8 : ∀ (a : Nat) (i : Int), ¬ a = 214 → g8 a i = g6 a i := fun a i ha => F8 a i (fun q => by unfold fr_M_reads at q; omega)
  refine ⟨t, m, L, r10, zLr_c k2 k3 (fun i i0 i1 => ⟨?_, ?_, ?_, ?_⟩) (fun i _ => ⟨?_, ?_⟩), k3, k4, k5, y, ((zrW k1 (c := g 214 17) l.2.1 (by omega)).1 ⟨l.1, rfl⟩).2.symm, zlrw_t (zlrw_t (zlrw_t kw (zlrw_u e6 (by omega) ⟨by decide, by decide⟩)) (zlrw_d F8)) (zlrw_u e10 (by omega) ⟨by decide, by decide⟩)⟩
  · rw [e10, zi_u_ne (by decide), o8 _ _ (by decide), e6, zi_u_ni (by omega)]
  · rw [e10, zi_u_ni (by omega), o8 _ _ (by decide), e6, zi_u_ne (by decide)]
  · rw [e10, zi_u_ne (by decide), o8 _ _ (by decide), e6, zi_u_ne (by decide)]
  · rw [e10, zi_u_ne (by decide), o8 _ _ (by decide), e6, zi_u_ne (by decide)]
  · rw [e10, zi_u_ne (by decide), o8 _ _ (by decide), e6, zi_u_ne (by decide)]
  · rw [e10, zi_u_ne (by decide), o8 _ _ (by decide), e6, zi_u_ne (by decide)]
/-- its sum -/
theorem zLrh_n (h : zLrh k kd a g0 g) (c : ¬ 16 ≤ k) (su : zmcn zSu v g g12) (hv : v = -1) (fr : ∀ (i : Int) (a : Nat), 225 ≤ a → a ≤ 228 → g12 a i = g a i) : zLrf (-1) g0 g12 := fun T hp => by
  obtain ⟨t, n, L, k1, k2, k3, k4, k5, k6, k7, kw⟩ := h T hp
  have r := su T (t + 1) k1 hp.2.1
  have z : ¬ (zSu T (t + 1)).2.1 = 0 := fun z => by have := (r.1 z).1; omega
  rw [zLn_s k6 c z] at k4
  rw [k4]
  exact ⟨fun q => absurd q z, fun _ => ⟨rfl, (r.2 z).2.1, zlrw_t kw (zlrw_r (r.2 z).2.2 fr)⟩⟩
theorem zLrh_y (h : zLrh k kd a g0 g) (c : g 214 27 = a) (su : zmcn zSu v g g12) (hv : ¬ v = -1) (fr : ∀ (i : Int) (a : Nat), 225 ≤ a → a ≤ 228 → g12 a i = g a i) (e15 : g15 = zi_u g12 227 (32 + k) (g12 214 27)) : zLri k kd a (g12 214 27) g0 g15 := fun T hp => by
  obtain ⟨t, n, L, k1, k2, k3, k4, k5, k6, k7, kw⟩ := h T hp
  have r := su T (t + 1) k1 hp.2.1
  have z : (zSu T (t + 1)).2.1 = 0 := Classical.byContradiction (fun z => hv (r.2 z).1)
  obtain ⟨_, r2, r3⟩ := r.1 z
  obtain ⟨m1, m2, m3, m4⟩ := r3
  rw [c] at m1 m2 m3
  have o : ∀ (a : Nat) (i : Int), ¬ a = 227 → g15 a i = g12 a i := fun a i ha => by rw [e15]; exact zi_u_ne ha
  have ro : zp_o g15 = zp_o g12 := funext (fun i => o 229 _ (by decide))
  have ra : zp_a g15 = zp_a g12 := funext (fun i => o 230 _ (by decide))
  refine ⟨t, n, L, zLr_c k2 k3 (fun i i0 i1 => ⟨?_, ?_, ?_, ?_⟩) (fun i hi => ⟨?_, ?_⟩), k3, k4, k5, k6, k7, z, zyR_u r2 e15 ⟨by decide, by decide⟩, by rw [ro, ra]; exact m2, m1, zlrw_t (zlrw_t kw (zlrw_r m4 fr)) (zlrw_u e15 (by omega) ⟨by decide, by decide⟩)⟩
  · rw [o _ _ (by decide), fr _ _ (by decide) (by decide)]
  · rw [o _ _ (by decide), fr _ _ (by decide) (by decide)]
  · rw [e15, zi_u_ni (by omega), fr _ _ (by decide) (by decide)]
  · rw [o _ _ (by decide), fr _ _ (by decide) (by decide)]
  · rw [o _ _ (by decide)]; exact (m3 i hi).1
  · rw [o _ _ (by decide)]; exact (m3 i hi).2
theorem zWhn_0 {T : zyT} {u : Int} (h : ¬ (T.1 u = 2 ∧ T.2.1 u = 3)) : zWhn T u = ([], 0, u) := if_neg h
theorem zWhn_1 {T : zyT} {u : Int} (h : T.1 u = 2 ∧ T.2.1 u = 3) : zWhn T u = zCnd T (u + 1) := if_pos h
/-- no condition -/
theorem zLri_0 (h : zLri k kd a b g0 g) (c : g 214 27 = b) (n3 : ¬ (g 214 16 = 2 ∧ g 214 17 = 3)) : zLrj k kd a b g0 g := fun T hp => by
  obtain ⟨t, n, L, k2, k3, k4, k5, k6, k7, k8, k9, k10, k11, kw⟩ := h T hp
  have e := zWhn_0 (fun q => n3 ((zrW k9 (by decide) (by decide)).2 q))
  refine ⟨t, n, L, k2, k3, k4, k5, k6, k7, k8, by rw [e], by rw [e]; exact k9, ?_, k11, ?_, kw⟩
  · rw [e]
    show zEl _ _ (_ ++ []) _
    rw [List.append_nil]
    exact k10
  · rw [e, c]
    show b = b + (0 : Int)
    omega
/-- a condition -/
theorem zLri_n (h : zLri k kd a b g0 g) (cc : ¬ 16 ≤ k) (y3 : g 214 16 = 2 ∧ g 214 17 = 3) (F29 : zk_fr fr_M_reads g g29) (st : zstm g g29) (cd : zmcn zCnd v g29 g32) (hv : v = -1) (fr : ∀ (i : Int) (a : Nat), 225 ≤ a → a ≤ 228 → g32 a i = g29 a i) : zLrf (-1) g0 g32 := fun T hp => by
  obtain ⟨t, n, L, k2, k3, k4, k5, k6, k7, k8, k9, k10, k11, kw⟩ := h T hp
  have y := (zrW k9 (by decide) (by decide)).1 y3
  have r29 := st T _ k9 hp.2.1 (by omega)
  have r := cd T _ r29 hp.2.1
  have e := zWhn_1 y
  have z : ¬ (zCnd T ((zSu T (t + 1)).2.2 + 1)).2.1 = 0 := fun z => by have := (r.1 z).1; omega
  rw [zLn_w k6 cc k8 (by rw [e]; exact z), e] at k4
  rw [k4]
  exact ⟨fun q => absurd q z, fun _ => ⟨rfl, (r.2 z).2.1, zlrw_t (zlrw_t kw (zlrw_d F29)) (zlrw_r (r.2 z).2.2 fr)⟩⟩
theorem zLri_y (h : zLri k kd a b g0 g) (c : g 214 27 = b) (y3 : g 214 16 = 2 ∧ g 214 17 = 3) (F29 : zk_fr fr_M_reads g g29) (st : zstm g g29) (cd : zmcn zCnd v g29 g32) (hv : ¬ v = -1) (fr : ∀ (i : Int) (a : Nat), 225 ≤ a → a ≤ 228 → g32 a i = g29 a i) : zLrj k kd a b g0 g32 := fun T hp => by
  obtain ⟨t, n, L, k2, k3, k4, k5, k6, k7, k8, k9, k10, k11, kw⟩ := h T hp
  have y := (zrW k9 (by decide) (by decide)).1 y3
  have r29 := st T _ k9 hp.2.1 (by omega)
  have r := cd T _ r29 hp.2.1
  have e := zWhn_1 y
  have z : (zCnd T ((zSu T (t + 1)).2.2 + 1)).2.1 = 0 := Classical.byContradiction (fun z => hv (r.2 z).1)
  obtain ⟨_, r2, r3⟩ := r.1 z
  obtain ⟨m1, m2, m3, m4⟩ := r3
  have c29 := zrf_c F29
  rw [c29.1, c] at m1 m2 m3
  have o29 : ∀ (a : Nat) (i : Int), ¬ a = 214 → g29 a i = g a i := fun a i ha => F29 a i (fun q => by unfold fr_M_reads at q; omega)
  have le := zLs_le k2
  have lo : ∀ i : Int, i < 800 + b → g32 229 i = g 229 i ∧ g32 230 i = g 230 i := fun i hi => ⟨((m3 i hi).1).trans (o29 _ _ (by decide)), ((m3 i hi).2).trans (o29 _ _ (by decide))⟩
  refine ⟨t, n, L, zLr_c k2 k3 (fun i i0 i1 => ⟨?_, ?_, ?_, ?_⟩) (fun i hi => lo i (by omega)), k3, k4, k5, k6, k7, k8, by rw [e]; exact z, by rw [e]; exact r2, ?_, k11, by rw [e]; exact m1, zlrw_t (zlrw_t kw (zlrw_d F29)) (zlrw_r m4 fr)⟩
  · rw [fr _ _ (by decide) (by decide), o29 _ _ (by decide)]
  · rw [fr _ _ (by decide) (by decide), o29 _ _ (by decide)]
  · rw [fr _ _ (by decide) (by decide), o29 _ _ (by decide)]
  · rw [fr _ _ (by decide) (by decide), o29 _ _ (by decide)]
  · rw [e]
    exact zEl_a (zEl_c k10 (fun i i0 i1 => lo (800 + i) (by omega))) (by rw [← k11]; exact m2)
/-- its end -/
theorem zLrj_e (h : zLrj k kd a b g0 g) (cc : ¬ 16 ≤ k) (e20 : g20 = zi_u g 228 (32 + k) (g 214 27)) (r1 : g 225 (32 + k) = kd) (r2 : g 226 (32 + k) = a) (r3 : g 227 (32 + k) = b) : (¬ (g20 214 16 = 4 ∧ g20 214 17 = 59) → zLaf 1 g0 g20) ∧ ((g20 214 16 = 4 ∧ g20 214 17 = 59) → ∀ g25 : zi_M, zk_fr fr_M_reads g20 g25 → zstm g20 g25 → zLrl (k + 1) g0 g25) := by
  refine ⟨fun c T hp => ?_, fun c g25 F25 st T hp => ?_⟩
  · obtain ⟨t, n, L, k2, k3, k4, k5, k6, k7, k8, k9, k10, k11, k12, k13, kw⟩ := h T hp
    have r20 : zyR zrL T g20 _ := zyR_u k10 e20 ⟨by decide, by decide⟩
    rw [zLn_n k6 cc k8 k9 (fun q => c ((zrS r20).2 q))] at k4
    rw [k4]
    exact ⟨_, r20, rfl, zlrw_t kw (zlrw_u e20 (by omega) ⟨by decide, by decide⟩)⟩
  · obtain ⟨t, n, L, k2, k3, k4, k5, k6, k7, k8, k9, k10, k11, k12, k13, kw⟩ := h T hp
    have r20 : zyR zrL T g20 _ := zyR_u k10 e20 ⟨by decide, by decide⟩
    have s := (zrS r20).1 c
    have r25 := st T _ r20 hp.2.1 (by have := s.1; omega)
    have bs := zSu_b k8
    have bw : (zSu T (t + 1)).2.2 ≤ (zWhn T (zSu T (t + 1)).2.2).2.2 := by
      by_cases y : T.1 (zSu T (t + 1)).2.2 = 2 ∧ T.2.1 (zSu T (t + 1)).2.2 = 3
      · rw [zWhn_1 y] at k9 ⊢
        have := zCnd_b k9
        omega
      · rw [zWhn_0 y]
        exact Int.le_refl _
    rw [zLn_y k6 cc k8 k9 s, zcat_p] at k4
    have o : ∀ (a : Nat) (i : Int), ¬ a = 214 → ¬ a = 228 → g25 a i = g a i := fun a i h1 h2 => by rw [F25 a i (fun q => by unfold fr_M_reads at q; omega), e20]; exact zi_u_ne h2
    have o8 : ∀ i : Int, ¬ i = 32 + k → g25 228 i = g 228 i := fun i h2 => by rw [F25 228 i (fun q => by unfold fr_M_reads at q; omega), e20]; exact zi_u_ni h2
    have c25 : g25 214 27 = g 214 27 := by rw [(zrf_c F25).1, e20]; exact zi_u_ne (by decide)
    have k8v : g25 228 (32 + k) = g 214 27 := by rw [F25 228 _ (fun q => by unfold fr_M_reads at q; omega), e20, zi_u_eq]
    have ro : zp_o g25 = zp_o g := funext (fun i => o 229 _ (by decide) (by decide))
    have ra : zp_a g25 = zp_a g := funext (fun i => o 230 _ (by decide) (by decide))
    refine ⟨_, n, L ++ [(T.2.1 t, (zSu T (t + 1)).1, (zWhn T (zSu T (t + 1)).2.2).1)], r25, ?_, by rw [List.length_append, List.length_cons, List.length_nil]; omega, k4, by omega, zlrw_t (zlrw_t kw (zlrw_u e20 (by omega) ⟨by decide, by decide⟩)) (zlrw_d F25)⟩
    have q := zLr_c (g' := g25) k2 k3 (fun i i0 i1 => ⟨o _ _ (by decide) (by decide), o _ _ (by decide) (by decide), o _ _ (by decide) (by decide), o8 _ (by omega)⟩) (fun i _ => ⟨o _ _ (by decide) (by decide), o _ _ (by decide) (by decide)⟩)
    unfold zLr_ at q ⊢
    rw [List.map_append]
    refine zLs_a q ?_
    rw [List.length_map, k3]
    have i1 : g25 225 (32 + (0 + k)) = T.2.1 t := by rw [Int.zero_add, o _ _ (by decide) (by decide), r1, k7]
    have i2 : g25 226 (32 + (0 + k)) = a := by rw [Int.zero_add, o _ _ (by decide) (by decide), r2]
    have i3 : g25 227 (32 + (0 + k)) = a + ((zex (zSu T (t + 1)).1).length : Int) := by rw [Int.zero_add, o _ _ (by decide) (by decide), r3, k12]
    have i4 : g25 228 (32 + (0 + k)) = a + ((zex (zSu T (t + 1)).1).length : Int) + ((zex (zWhn T (zSu T (t + 1)).2.2).1).length : Int) := by rw [Int.zero_add, k8v, k13, k12]
    refine ⟨⟨i1, i2, i3, i4, ?_⟩, ?_⟩
    · rw [ro, ra]; exact k11
    · show a + ((zex (zSu T (t + 1)).1).length : Int) + ((zex (zWhn T (zSu T (t + 1)).2.2).1).length : Int) = g25 214 27
      rw [c25, k13, k12]
end
