-- THE BOOK copied
noncomputable def zBc (r0 r1 : Nat) (g g' : zi_M) : Prop := ∀ i : Int, 0 ≤ i → i < 150 → g' (r0 + 1) i = g (r1 + 1) i ∧ g' (r0 + 2) i = g (r1 + 2) i ∧ g' (r0 + 3) i = g (r1 + 3) i ∧ g' (r0 + 4) i = g (r1 + 4) i
noncomputable def zBcs (r : Nat) (g g' : zi_M) : Prop := ∀ (a : Nat) (i : Int), r + 1 ≤ a → a ≤ r + 4 → g' a i = g a i
theorem zs_bookS : ∀ r, r < 251 → zs_sh r = some (0, 4) → r = 14 ∨ r = 59 := by decide +kernel
theorem zs_bookI {r : Nat} (h : zs_sh r = some (0, 4)) : r = 14 ∨ r = 59 := zs_bookS r (zs_lt h).1 h
theorem zBc_all {r0 r1 : Nat} {g h1 h2 h3 h4 : zi_M} (hr0 : zs_sh r0 = some (0, 4)) (hr1 : zs_sh r1 = some (0, 4)) (e1 : h1 = zi_cp g (r1 + 1) 0 (r0 + 1) 0 150) (e2 : h2 = zi_cp h1 (r1 + 2) 0 (r0 + 2) 0 150) (e3 : h3 = zi_cp h2 (r1 + 3) 0 (r0 + 3) 0 150) (e4 : h4 = zi_cp h3 (r1 + 4) 0 (r0 + 4) 0 150) : zBc r0 r1 g h4 := fun i i0 i1 => by
  have q0 := zs_bookI hr0
  have q1 := zs_bookI hr1
  clear hr0 hr1
  refine ⟨?_, ?_, ?_, ?_⟩
  · rw [e4, zcp_ne (by omega), e3, zcp_ne (by omega), e2, zcp_ne (by omega), e1, zcp_at i0 i1]
  · rw [e4, zcp_ne (by omega), e3, zcp_ne (by omega), e2, zcp_at i0 i1, e1, zcp_ne (by omega)]
  · rw [e4, zcp_ne (by omega), e3, zcp_at i0 i1, e2, zcp_ne (by omega), e1, zcp_ne (by omega)]
  · rw [e4, zcp_at i0 i1, e3, zcp_ne (by omega), e2, zcp_ne (by omega), e1, zcp_ne (by omega)]
theorem zBc_q {r0 r1 : Nat} {g h g' k : zi_M} (t : zBc r0 r1 h g') (e : ∀ (a : Nat) (i : Int), r1 + 1 ≤ a → a ≤ r1 + 4 → h a i = g a i) (f : ∀ (a : Nat) (i : Int), r0 + 1 ≤ a → a ≤ r0 + 4 → k a i = g' a i) : zBc r0 r1 g k := fun i i0 i1 => by
  obtain ⟨t1, t2, t3, t4⟩ := t i i0 i1
  exact ⟨by rw [f _ _ (by omega) (by omega), t1, e _ _ (by omega) (by omega)], by rw [f _ _ (by omega) (by omega), t2, e _ _ (by omega) (by omega)], by rw [f _ _ (by omega) (by omega), t3, e _ _ (by omega) (by omega)], by rw [f _ _ (by omega) (by omega), t4, e _ _ (by omega) (by omega)]⟩
theorem zBc_C {r0 r1 : Nat} {g g2 g5 g8 g11 : zi_M} (hr0 : zs_sh r0 = some (1, 4)) (hr1 : zs_sh r1 = some (1, 4)) (F2 : zk_fr (fr_World_copyFrom (r0 + 1) (r1 + 1)) g g2) (T : zBc (r0 + 13) (r1 + 13) g2 g5) (F8 : zk_fr (fr_Texts_copyFrom (r0 + 18) (r1 + 18)) g5 g8) (F11 : zk_fr (fr_Told_copyFrom (r0 + 35) (r1 + 35)) g8 g11) : zBc (r0 + 13) (r1 + 13) g g11 := by
  have q0 := zs_cathI hr0
  have q1 := zs_cathI hr1
  clear hr0 hr1
  refine zBc_q T (fun a i k1 k2 => ?_) (fun a i k1 k2 => ?_)
  · rw [F2 a i (fun q => by unfold fr_World_copyFrom at q; clear F2 F8 F11 T; omega)]
  · rw [F11 a i (fun q => by unfold fr_Told_copyFrom at q; clear F2 F8 F11 T; omega), F8 a i (fun q => by unfold fr_Texts_copyFrom at q; clear F2 F8 F11 T; omega)]
theorem zBs_t {g g4 g7 : zi_M} (F : zk_fr (fr_Cathedral_copyFrom 46 1) g g4) (T : zBc (46 + 13) (1 + 13) g g4) (e : g7 = zi_u g4 0 2 1) : zBc 59 14 g g7 ∧ zBcs 14 g g7 := by
  have u : ∀ (a : Nat) (i : Int), 1 ≤ a → g7 a i = g4 a i := fun a i h => by rw [e]; exact zi_u_ne (by omega)
  refine ⟨zBc_q T (fun _ _ _ _ => rfl) (fun a i h1 h2 => u a i (by omega)), fun a i h1 h2 => ?_⟩
  rw [u a i (by omega)]
  exact F a i (fun q => by unfold fr_Cathedral_copyFrom at q; clear F T u e; omega)
theorem zBs_r {g g4 g7 : zi_M} (F : zk_fr (fr_Cathedral_copyFrom 1 46) g g4) (T : zBc (1 + 13) (46 + 13) g g4) (F2 : zk_fr fr_Past_forget g4 g7) : zBc 14 59 g g7 ∧ zBcs 59 g g7 := by
  have u : ∀ (a : Nat) (i : Int), a ≤ 90 → g7 a i = g4 a i := fun a i h => F2 a i (fun q => by unfold fr_Past_forget at q; clear F T F2; omega)
  refine ⟨zBc_q T (fun _ _ _ _ => rfl) (fun a i h1 h2 => u a i (by omega)), fun a i h1 h2 => ?_⟩
  rw [u a i (by omega)]
  exact F a i (fun q => by unfold fr_Cathedral_copyFrom at q; clear F T u F2; omega)
-- each call over the whole row
section
variable {g g1 g2 : zi_M}
theorem zFD_k (R : zFD g) (now : zVC (g2 2 11) 2 g2 = zVM (g2 2 11) g2) (r : zFring g2) (th : zFth g2) (hf : ∀ (a : Nat) (i : Int), (a = 0 ∧ i = 2) ∨ (47 ≤ a ∧ a ≤ 63) ∨ a = 250 → g2 a i = g a i) : zFD g2 :=
  ⟨now, r, th, fun h => by
    rw [hf 0 2 (by omega)] at h
    exact zFk_n (R.2.2.2 h) (fun a i q => hf a i (by omega))⟩
theorem zFth_n (R : zFth g) (e1 : g2 2 0 = g 2 0) (e2 : g2 165 0 = g 165 0) (e3 : g2 214 5 = g 214 5) : zFth g2 := ⟨by rw [e1]; exact R.1, by rw [e2]; exact R.2.1, by rw [e3]; exact R.2.2⟩
noncomputable def zFh (a : Nat) (i : Int) : Prop := (a = 0 ∧ i = 2) ∨ (a = 2 ∧ (i = 0 ∨ i = 8 ∨ i = 11)) ∨ (47 ≤ a ∧ a ≤ 63) ∨ (a = 165 ∧ i = 0) ∨ (a = 214 ∧ i = 5) ∨ a = 250
theorem zFD_x {x : Int} (R : zFD g) (e1 : g1 = g) (e : g2 = zi_u g1 214 0 x) : zFD g2 := zFD_n R (fun a i h => by
  rw [e, e1]
  unfold zi_u
  rw [if_neg (by unfold zFe at h; omega)])
theorem zFD_act {l1 l2 l3 : Int} (I : zk_I g) (R : zFD g) (cn : g 91 1 = g 214 3) (sp : g 2 8 = g 214 6) (si : g 2 11 = g 214 7) (a1 : zPa (g 2 8) (g 2 11) l1 l2 l3 → zAk l1 l2 l3 g g1) (a2 : ¬ zPa (g 2 8) (g 2 11) l1 l2 l3 → g1 = g) (b1 : zPa (g1 214 6) (g1 214 7) l1 l2 l3 → zAm l1 l2 l3 g1 g2) (b2 : ¬ zPa (g1 214 6) (g1 214 7) l1 l2 l3 → ∃ x : Int, g2 = zi_u g1 214 0 x)
    (hs : ∀ (a : Nat) (i : Int), 214 ≤ a → g1 a i = g a i) (hm : ∀ (a : Nat) (i : Int), a ≤ 213 → g2 a i = g1 a i) (hf : ∀ (a : Nat) (i : Int), zFh a i → g2 a i = g a i) : zFD g2 := by
  have b91 : (0 : Int) ≤ g 91 1 ∧ g 91 1 ≤ 6 := I.1 91 1
  rw [hs 214 6 (by decide), hs 214 7 (by decide), ← sp, ← si] at b1 b2
  by_cases c : zPa (g 2 8) (g 2 11) l1 l2 l3
  · obtain ⟨x1, y1⟩ := a1 c
    obtain ⟨x2, y2⟩ := b1 c
    have eV : zVM (g1 214 7) g1 = zVM (g 2 11) g := by
      rw [hs 214 7 (by decide), ← si]
      exact zVM_c (fun a i h => hs a i (by omega))
    have eR : zRW g1 = zRW g := by
      unfold zRW
      funext x k
      exact hs 216 _ (by decide)
    rw [eV, hs 214 7 (by decide), ← si] at x2
    rw [eV, eR, hs 214 7 (by decide), hs 214 3 (by decide), ← si, ← cn] at y2
    have h11 : g2 2 11 = g 2 11 := hf 2 11 (by unfold zFh; omega)
    refine zFD_k R ?_ (fun e k e0 e1 h1 => ?_) (zFth_n R.2.2.1 (hf 2 0 (by unfold zFh; omega)) (hf 165 0 (by unfold zFh; omega)) (hf 214 5 (by unfold zFh; omega))) (fun a i h => hf a i (by unfold zFh; omega))
    · rw [h11, x2, zVC_c (g := g1) (fun a i h => hm a i (by omega)), x1, R.1]
    · rw [hm 91 1 (by decide)] at e1
      rw [h11] at h1 ⊢
      rw [zRV_n (g := g1) (fun a i q => hm a i (by omega)) h1]
      exact (zRst_eq y1 y2 b91 (fun k _ => congrFun R.1 k) (fun e k e0 e1 h => R.2.1 e k e0 e1 h)).2 e k e0 e1 h1
  · obtain ⟨x, e⟩ := b2 c
    exact zFD_x R (a2 c) e
theorem zRA_0 {a b : Nat} {k : Int} (h : zRA a b 0 10 (fun _ => 0) g) (k0 : 0 ≤ k) (k1 : k < 10) : g a k = g b k := by
  have z := h k k0 k1
  rw [Int.zero_add] at z
  exact z.trans (Int.add_zero _)
/-- both sides' days are one function -/
theorem zCM_eq {th : Int} (I : zk_I g) (p : zXp g) (w : zXw g) (gu : zXg g) (lw : zLW g) (L3 : zRA 3 218 0 10 (fun _ => 0) g) (L4 : zRA 4 219 0 10 (fun _ => 0) g) (L5 : zRA 5 220 0 10 (fun _ => 0) g) (sp : g 2 8 = g 214 6) (si : g 2 11 = g 214 7) (f : Int → Int) : zDY th (zLc g 2) (zeg g) (g 2 8) (g 2 11) (g 19 10) (g 32) (g 33) (g 34) (g 35) (g 30) (g 31) (g 19 5) f = zDY th (zLm g) (zf g) (g 214 6) (g 214 7) (g 214 39) (fun n => g 234 (4 * n)) (fun n => g 234 (4 * n + 1)) (fun n => g 234 (4 * n + 2)) (fun n => g 234 (4 * n + 3)) (fun m => g 233 (2 * m)) (fun m => g 233 (2 * m + 1)) (g 214 37) f := by
  have b8 : (0 : Int) ≤ g 2 8 ∧ g 2 8 ≤ 10 := I.1 2 8
  rw [← sp, ← si, ← p.1, ← w.1]
  exact zDY_c (fun kd q v x q0 q1 => zLcm_eq I lw (zRA_0 L3 q0 (by omega)) (zRA_0 L4 q0 (by omega)) (zRA_0 L5 q0 (by omega))) (fun q q0 q1 => by
    unfold zeg zf
    rw [if_pos ⟨q0, by omega⟩]
    exact gu.2 q q0 (by omega)) (fun i i0 i1 => p.2 i i0 i1) (fun m m0 m1 => w.2 m m0 m1) f
theorem zCYM (I : zk_I g) (th : zFth g) (p : zXp g) (w : zXw g) (gu : zXg g) (lw : zLW g) (L3 : zRA 3 218 0 10 (fun _ => 0) g) (L4 : zRA 4 219 0 10 (fun _ => 0) g) (L5 : zRA 5 220 0 10 (fun _ => 0) g) (sp : g 2 8 = g 214 6) (si : g 2 11 = g 214 7) : zCY 2 g = zMY g := funext fun f => by
  unfold zCY zMY
  rw [th.1, th.2.2]
  exact zCM_eq I p w gu lw L3 L4 L5 sp si f
theorem zCTM (I : zk_I g) (th : zFth g) (p : zXp g) (w : zXw g) (gu : zXg g) (lw : zLW g) (L3 : zRA 3 218 0 10 (fun _ => 0) g) (L4 : zRA 4 219 0 10 (fun _ => 0) g) (L5 : zRA 5 220 0 10 (fun _ => 0) g) (sp : g 2 8 = g 214 6) (si : g 2 11 = g 214 7) : zCT g = zMT g := funext fun f => by
  unfold zCT zMT
  rw [th.2.1]
  exact zCM_eq I p w gu lw L3 L4 L5 sp si f
theorem zFD_days {n v1 v2 : Int} (I : zk_I g) (I1 : zk_I g1) (R : zFD g) (B : zBD g) (w : zXw g) (sp : g 2 8 = g 214 6) (si : g 2 11 = g 214 7) (CM : zCY 2 g = zMY g)
    (a1 : 1 ≤ n ∧ n ≤ 60 ∧ zi_w (g 2 17 + n) ≤ 9999 → zDF2 n g g1) (a2 : ¬ (1 ≤ n ∧ n ≤ 60 ∧ zi_w (g 2 17 + n) ≤ 9999) → v1 = -1 ∧ g1 = g)
    (b1 : 1 ≤ n ∧ n ≤ 60 ∧ zi_w (g1 215 0 + n) ≤ 9999 → zDM2 n g1 g2) (b2 : ¬ (1 ≤ n ∧ n ≤ 60 ∧ zi_w (g1 215 0 + n) ≤ 9999) → v2 = -1 ∧ ∃ x : Int, g2 = zi_u g1 214 0 x)
    (hs : ∀ (a : Nat) (i : Int), 214 ≤ a → g1 a i = g a i) (hm : ∀ (a : Nat) (i : Int), a ≤ 213 → g2 a i = g1 a i) (hf : ∀ (a : Nat) (i : Int), zFh a i → g2 a i = g a i) : zFD g2 := by
  have A := zFA_out R.1
  have d0 := A.1
  have d3 := A.2.2.2.1
  rw [hs 215 0 (by decide), ← d0] at b1 b2
  by_cases c : 1 ≤ n ∧ n ≤ 60 ∧ zi_w (g 2 17 + n) ≤ 9999
  · have b14 : (0 : Int) ≤ g 2 14 ∧ g 2 14 ≤ 9 := I.1 2 14
    have b91 : (0 : Int) ≤ g 91 1 ∧ g 91 1 ≤ 6 := I.1 91 1
    have f : zMfr g g1 := ⟨fun a i h => hs a i (by omega), hs _ _ (by decide), hs _ _ (by decide), hs _ _ (by decide), hs _ _ (by decide), hs _ _ (by decide)⟩
    obtain ⟨x1, y1⟩ := a1 c B.2.2.2.2.1
    have yy := zMfr_Y f
    obtain ⟨-, x2, y2⟩ := b1 c (zLk_I I1) (yy.2 (zPv_I I w B.2.2.2.1)) (by rw [hs _ _ (by decide), ← d3]; exact b14.1)
    have eV : zVM (g1 214 7) g1 = zVM (g 2 11) g := by
      rw [hs 214 7 (by decide), ← si]
      exact zVM_c (fun a i h => hs a i (by omega))
    have eR : zRW g1 = zRW g := by
      unfold zRW
      funext x k
      exact hs 216 _ (by decide)
    rw [yy.1, ← CM, eV, hs 214 7 (by decide), ← si, ← R.1] at x2
    rw [yy.1, ← CM, eV, eR, hs 214 7 (by decide), hs 214 3 (by decide), ← si, ← B.2.1.1, ← R.1] at y2
    have h11 : g2 2 11 = g 2 11 := hf 2 11 (by unfold zFh; omega)
    refine zFD_k R ?_ (fun e k e0 e1 h1 => ?_) (zFth_n R.2.2.1 (hf 2 0 (by unfold zFh; omega)) (hf 165 0 (by unfold zFh; omega)) (hf 214 5 (by unfold zFh; omega))) (fun a i h => hf a i (by unfold zFh; omega))
    · rw [h11, x2, zVC_c (g := g1) (fun a i h => hm a i (by omega)), x1]
    · rw [hm 91 1 (by decide)] at e1
      rw [h11] at h1 ⊢
      rw [zRV_n (g := g1) (fun a i q => hm a i (by omega)) h1]
      exact (zRm_eq b91 (by omega) y1 y2 (W := fun j => zIt (zCY 2 g) j (zVC (g 2 11) 2 g)) (fun j => by rw [show n.toNat - (n - ((n - 6).toNat : Int)).toNat = (n - 6).toNat by omega]) (fun i _ k _ => rfl) (fun e k e0 e1 h => R.2.1 e k e0 e1 h)).2 e k e0 e1 h1
  · obtain ⟨-, x⟩ := a2 c
    obtain ⟨-, y, e⟩ := b2 c
    exact zFD_x R x e
/-- how many words were said -/
theorem zDv_eq {n v1 v2 : Int} (R : zFD g) (R2 : zFD g2) (a1 : 1 ≤ n ∧ n ≤ 60 ∧ zi_w (g 2 17 + n) ≤ 9999 → v1 = zi_w (g1 2 15 - g 2 15)) (a2 : ¬ (1 ≤ n ∧ n ≤ 60 ∧ zi_w (g 2 17 + n) ≤ 9999) → v1 = -1 ∧ g1 = g)
    (b1 : 1 ≤ n ∧ n ≤ 60 ∧ zi_w (g1 215 0 + n) ≤ 9999 → v2 = zi_w (g2 215 4 - g1 215 4)) (b2 : ¬ (1 ≤ n ∧ n ≤ 60 ∧ zi_w (g1 215 0 + n) ≤ 9999) → v2 = -1 ∧ ∃ x : Int, g2 = zi_u g1 214 0 x)
    (hs : ∀ (a : Nat) (i : Int), 214 ≤ a → g1 a i = g a i) (hm : ∀ (a : Nat) (i : Int), a ≤ 213 → g2 a i = g1 a i) : v2 = v1 := by
  have A := zFA_out R.1
  have A2 := zFA_out R2.1
  rw [hs 215 0 (by decide), ← A.1] at b1 b2
  by_cases c : 1 ≤ n ∧ n ≤ 60 ∧ zi_w (g 2 17 + n) ≤ 9999
  · rw [a1 c, b1 c, hs 215 4 (by decide), ← A2.2.2.2.2.1, ← A.2.2.2.2.1, hm 2 15 (by decide)]
  · rw [(a2 c).1, (b2 c).1]
theorem zDv_r {v : Int} {P : Prop} {x : Int} (a : P → v = zi_w x) (b : ¬ P → v = -1 ∧ g1 = g) : zi_r v := by
  by_cases c : P
  · rw [a c]; exact zi_r_w _
  · rw [(b c).1]; exact ⟨by decide, by decide⟩
theorem zFA_n {T : Int} (A : zFA T g) (e : ∀ (a : Nat) (i : Int), a = 2 ∨ (6 ≤ a ∧ a ≤ 13) ∨ (a = 215 ∧ 0 ≤ i ∧ i < 264) → g2 a i = g a i) : zFA T g2 := by
  obtain ⟨a0, a1, a2, a3, a4, a5, a6, a7, a8, a9, a10, a11, a12, a13⟩ := A
  exact ⟨by rw [e 2 17 (by omega), e 215 0 (by omega)]; exact a0, by rw [e 2 18 (by omega), e 215 1 (by omega)]; exact a1, by rw [e 2 19 (by omega), e 215 2 (by omega)]; exact a2, by rw [e 2 14 (by omega), e 215 3 (by omega)]; exact a3, by rw [e 2 15 (by omega), e 215 4 (by omega)]; exact a4, by rw [e 2 16 (by omega), e 215 5 (by omega)]; exact a5,
    fun i i0 i1 => by rw [e 6 i (by omega), e 215 _ (by omega)]; exact a6 i i0 i1, fun i i0 i1 => by rw [e 7 i (by omega), e 215 _ (by omega)]; exact a7 i i0 i1, fun i i0 i1 => by rw [e 8 i (by omega), e 215 _ (by omega)]; exact a8 i i0 i1, fun i i0 i1 => by rw [e 9 i (by omega), e 215 _ (by omega)]; exact a9 i i0 i1, fun i i0 i1 => by rw [e 10 i (by omega), e 215 _ (by omega)]; exact a10 i i0 i1,
    fun i i0 i1 i2 => by rw [e 11 i (by omega), e 215 _ (by omega)]; exact a11 i i0 i1 i2, fun i i0 i1 => by rw [e 12 i (by omega), e 215 _ (by omega)]; exact a12 i i0 i1, fun i i0 i1 => by rw [e 13 i (by omega), e 215 _ (by omega)]; exact a13 i i0 i1⟩
-- in thought
noncomputable def zGK (n l : Int) : Prop := 1 ≤ n ∧ n ≤ 60 ∧ ((0 ≤ l ∧ l ≤ 2) ∨ (10 ≤ l ∧ l ≤ 15))
theorem zGo_W {n l v2 : Int} (I : zk_I g) (I1 : zk_I g1) (R : zFD g) (B : zBD g) (w : zXw g) (si : g 2 11 = g 214 7) (CM : zCT g = zMT g) (a : zGc n g g1) (b : zGM n l v2 g1 g2) (hs : ∀ (a : Nat) (i : Int), 214 ≤ a → g1 a i = g a i) : (∀ k : Int, 264 ≤ k → zVM (g 2 11) g2 k = zVC (g 2 11) 165 g1 k) ∧ (l = 0 → v2 = zVC (g 2 11) 165 g1 4) ∧ (l = 1 → v2 = zVC (g 2 11) 165 g1 5) ∧ (l = 2 → v2 = zhm (fun i => zVC (g 2 11) 165 g1 (26 + i)) (g1 214 6).toNat) ∧ (10 ≤ l ∧ l ≤ 15 → v2 = zVC (g 2 11) 165 g1 (258 + (l - 10))) := by
  have A := zFA_out R.1
  have b14 : (0 : Int) ≤ g 2 14 ∧ g 2 14 ≤ 9 := I.1 2 14
  have f : zNf g g1 := ⟨fun a i h => hs a i (by omega), hs _ _ (by decide), hs _ _ (by decide), hs _ _ (by decide), hs _ _ (by decide)⟩
  have o := zNf_o f
  have z := b (zLk_I I1) (o.2.2.2 (zPv_I I w B.2.2.2.1)) (by rw [hs _ _ (by decide), ← A.2.2.2.1]; exact b14.1)
  have eV : zVM (g1 214 7) g1 = zVC (g 2 11) 2 g := by
    rw [hs 214 7 (by decide), ← si, R.1]
    exact zVM_c (fun a i h => hs a i (by omega))
  rw [zMT_f f, ← CM, eV, hs 214 7 (by decide), ← si, ← a.2 B.2.2.2.2.1] at z
  exact z
noncomputable def zFg (a : Nat) (i : Int) : Prop := (a = 0 ∧ i = 2) ∨ a = 2 ∨ (6 ≤ a ∧ a ≤ 13) ∨ (47 ≤ a ∧ a ≤ 63) ∨ (91 ≤ a ∧ a ≤ 164) ∨ (a = 165 ∧ i = 0) ∨ a = 216 ∨ a = 250
theorem zFD_goes {n l v1 v2 : Int} (I : zk_I g) (I1 : zk_I g1) (R : zFD g) (B : zBD g) (w : zXw g) (si : g 2 11 = g 214 7) (CM : zCT g = zMT g) (a1 : 1 ≤ n ∧ n ≤ 60 ∧ ((0 ≤ l ∧ l ≤ 2) ∨ (10 ≤ l ∧ l ≤ 15)) → zGc n g g1) (a2 : ¬ (1 ≤ n ∧ n ≤ 60 ∧ ((0 ≤ l ∧ l ≤ 2) ∨ (10 ≤ l ∧ l ≤ 15))) → v1 = -1 ∧ g1 = g) (b1 : 1 ≤ n ∧ n ≤ 60 ∧ ((0 ≤ l ∧ l ≤ 2) ∨ (10 ≤ l ∧ l ≤ 15)) → zGM n l v2 g1 g2) (b2 : ¬ (1 ≤ n ∧ n ≤ 60 ∧ ((0 ≤ l ∧ l ≤ 2) ∨ (10 ≤ l ∧ l ≤ 15))) → v2 = -1 ∧ ∃ x : Int, g2 = zi_u g1 214 0 x)
    (b215 : ∀ k : Int, 0 ≤ k → k < 264 → g2 215 k = g1 215 k) (b5 : g1 214 5 = 0 → g2 214 5 = 0) (hs : ∀ (a : Nat) (i : Int), 214 ≤ a → g1 a i = g a i) (hm : ∀ (a : Nat) (i : Int), a ≤ 213 → g2 a i = g1 a i) (hf : ∀ (a : Nat) (i : Int), zFg a i → g2 a i = g a i) : zFD g2 := by
  by_cases c : 1 ≤ n ∧ n ≤ 60 ∧ ((0 ≤ l ∧ l ≤ 2) ∨ (10 ≤ l ∧ l ≤ 15))
  · have z := (zGo_W I I1 R B w si CM (a1 c) (b1 c) hs).1
    have h11 : g2 2 11 = g 2 11 := hf 2 11 (by unfold zFg; omega)
    refine zFD_k R ?_ (zFring_n R.2.1 (fun a i q => hf a i (by unfold zFg; omega))) ⟨by rw [hf 2 0 (by unfold zFg; omega)]; exact R.2.2.1.1, by rw [hf 165 0 (by unfold zFg; omega)]; exact R.2.2.1.2.1, b5 (by rw [hs 214 5 (by decide)]; exact R.2.2.1.2.2)⟩ (fun a i h => hf a i (by unfold zFg; omega))
    rw [h11]
    refine zFA_in (zFA_n (zFA_out R.1) (fun a i q => ?_)) (fun k hk => ?_)
    · by_cases q5 : a = 215
      · rw [q5, b215 i (by omega) (by omega), hs 215 i (by decide)]
      · exact hf a i (by unfold zFg; omega)
    · rw [z k hk, zVC_hi (T' := g 2 11) (r' := 165) hk]
      exact zVC_hh (fun a i q => hm a i (by omega)) hk
  · obtain ⟨-, x⟩ := a2 c
    obtain ⟨-, y, e⟩ := b2 c
    exact zFD_x R x e
theorem zGo_eq {n l v1 v2 : Int} (I : zk_I g) (I1 : zk_I g1) (R : zFD g) (B : zBD g) (w : zXw g) (sp : g 2 8 = g 214 6) (si : g 2 11 = g 214 7) (CM : zCT g = zMT g) (a1 : 1 ≤ n ∧ n ≤ 60 ∧ ((0 ≤ l ∧ l ≤ 2) ∨ (10 ≤ l ∧ l ≤ 15)) → zGc n g g1) (a2 : ¬ (1 ≤ n ∧ n ≤ 60 ∧ ((0 ≤ l ∧ l ≤ 2) ∨ (10 ≤ l ∧ l ≤ 15))) → v1 = -1 ∧ g1 = g) (a3 : 1 ≤ n ∧ n ≤ 60 ∧ ((0 ≤ l ∧ l ≤ 2) ∨ (10 ≤ l ∧ l ≤ 15)) → zGa l v1 g1)
    (b1 : 1 ≤ n ∧ n ≤ 60 ∧ ((0 ≤ l ∧ l ≤ 2) ∨ (10 ≤ l ∧ l ≤ 15)) → zGM n l v2 g1 g2) (b2 : ¬ (1 ≤ n ∧ n ≤ 60 ∧ ((0 ≤ l ∧ l ≤ 2) ∨ (10 ≤ l ∧ l ≤ 15))) → v2 = -1 ∧ ∃ x : Int, g2 = zi_u g1 214 0 x) (hs : ∀ (a : Nat) (i : Int), 214 ≤ a → g1 a i = g a i) : v2 = v1 := by
  by_cases c : 1 ≤ n ∧ n ≤ 60 ∧ ((0 ≤ l ∧ l ≤ 2) ∨ (10 ≤ l ∧ l ≤ 15))
  · obtain ⟨-, z0, z1, z2, z3⟩ := zGo_W I I1 R B w si CM (a1 c) (b1 c) hs
    obtain ⟨y0, y1, y2, y3⟩ := a3 c
    obtain ⟨-, -, -, -, p4, p5, -, -, p8, -, -, -, -, p13⟩ := zVC_rd (T := g 2 11) (r := 165) (g := g1)
    have b8 : (0 : Int) ≤ g 2 8 ∧ g 2 8 ≤ 10 := I.1 2 8
    rcases c.2.2 with d | d
    · rcases (show l = 0 ∨ l = 1 ∨ l = 2 by omega) with e | e | e
      · rw [y0 e, z0 e, p4]
      · rw [y1 e, z1 e, p5]
      · rw [y2 e, z2 e, (a1 c).1.2.1, hs 214 6 (by decide), ← sp]
        exact zhm_c _ (fun i i0 i1 => p8 i i0 (by omega))
    · rw [y3 d.1, z3 d, p13 _ (by omega) (by omega)]
  · rw [(a2 c).1, (b2 c).1]
theorem zGa_r {n l v : Int} (I1 : zk_I g1) (a2 : ¬ (1 ≤ n ∧ n ≤ 60 ∧ ((0 ≤ l ∧ l ≤ 2) ∨ (10 ≤ l ∧ l ≤ 15))) → v = -1 ∧ g1 = g) (a3 : 1 ≤ n ∧ n ≤ 60 ∧ ((0 ≤ l ∧ l ≤ 2) ∨ (10 ≤ l ∧ l ≤ 15)) → zGa l v g1) : zi_r v := by
  by_cases c : 1 ≤ n ∧ n ≤ 60 ∧ ((0 ≤ l ∧ l ≤ 2) ∨ (10 ≤ l ∧ l ≤ 15))
  · obtain ⟨y0, y1, y2, y3⟩ := a3 c
    rcases c.2.2 with d | d
    · rcases (show l = 0 ∨ l = 1 ∨ l = 2 by omega) with e | e | e
      · rw [y0 e]; exact zk_rng I1 _ _
      · rw [y1 e]; exact zk_rng I1 _ _
      · rw [y2 e]
        cases (g1 165 8).toNat with
        | zero => show zi_r (0 : Int); exact ⟨by decide, by decide⟩
        | succ m => exact zi_r_w _
    · rw [y3 d.1]; exact zk_rng I1 _ _
  · rw [(a2 c).1]; exact ⟨by decide, by decide⟩
theorem zFD_undo {v1 v2 : Int} (R : zFD g) (cn : g 91 1 = g 214 3) (b91 : 0 ≤ g 91 1) (a : zUk v1 g g1) (b : zUm v2 g1 g2) (hs : ∀ (a : Nat) (i : Int), 214 ≤ a → g1 a i = g a i) (hm : ∀ (a : Nat) (i : Int), a ≤ 213 → g2 a i = g1 a i) (h11 : g1 2 11 = g 2 11) (hf : ∀ (a : Nat) (i : Int), (a = 0 ∧ i = 2) ∨ (a = 2 ∧ i = 0) ∨ (47 ≤ a ∧ a ≤ 63) ∨ (a = 165 ∧ i = 0) ∨ (a = 214 ∧ (i = 5 ∨ i = 43)) ∨ a = 216 ∨ a = 221 ∨ a = 237 ∨ a = 238 ∨ a = 250 → g2 a i = g a i) : zFD g2 := by
  obtain ⟨n1, y1⟩ := a
  obtain ⟨n2, y2⟩ := b
  rw [hs 214 3 (by decide), ← cn] at n2 y2
  by_cases c : g 91 1 = 0
  · obtain ⟨-, x, e⟩ := n2 c
    exact zFD_x R (n1 (by omega)).2 e
  · obtain ⟨-, e1, w1, w2, w3⟩ := y1 (by omega)
    obtain ⟨-, e2, u⟩ := y2 c
    have k11 : g2 2 11 = g 2 11 := by rw [hm 2 11 (by decide), h11]
    refine zFD_k R ?_ (fun e k e0 el h1 => ?_) (zFth_n R.2.2.1 (hf 2 0 (by omega)) (hf 165 0 (by omega)) (hf 214 5 (by omega))) (fun a i h => hf a i (by omega))
    · rw [k11, zVC_c (g := g1) (fun a i h => hm a i (by omega))]
      funext k
      by_cases d : zRw (g 2 11) k
      · have r := R.2.1 (g 91 1 - 1) k (by omega) (by omega) d
        rw [w1 _ k d, zVM_rw d, u k d.1 d.2.1, r, hs 214 3 (by decide), ← cn, hs 216 _ (by decide)]
        rfl
      · rw [w3 _ k d, congrFun R.1 k]
        by_cases h : 264 ≤ k
        · exact (zVM_hc2 (fun a i q => hf a i (by omega)) h).symm
        · have nd := zdm_lo (by omega) d
          rw [zVM_no nd, zVM_no nd]
    · rw [hm 91 1 (by decide), e1] at el
      rw [k11] at h1 ⊢
      rw [zRV_n (g := g1) (fun a i q => hm a i (by omega)) h1, w2 _ e k e0 el h1, R.2.1 e k e0 (by omega) h1]
      show g 216 _ = g2 216 _
      rw [hf 216 _ (by omega)]
theorem zFD_text (R : zFD g) (t : g2 91 1 = 0 ∨ g2 91 1 = g 91 1) (e : ∀ (a : Nat) (i : Int), zFe a i → ¬ (a = 91 ∧ i = 1) → g2 a i = g a i) : zFD g2 := by
  have e11 : g2 2 11 = g 2 11 := e 2 11 (by unfold zFe; omega) (by omega)
  refine zFD_k R ?_ ?_ (zFth_n R.2.2.1 (e 2 0 (by unfold zFe; omega) (by omega)) (e 165 0 (by unfold zFe; omega) (by omega)) (e 214 5 (by unfold zFe; omega) (by omega))) (fun a i h => e a i (by unfold zFe; omega) (by omega))
  · rw [e11, zVC_c (g := g) (fun a i q => e a i (by unfold zFe; omega) (by omega)), zVM_c2 (g := g) (fun a i q => e a i (by unfold zFe; omega) (by omega))]
    exact R.1
  · rcases t with t | t
    · exact zFring_0 t
    · exact zFring_n R.2.1 (fun a i q => by
        by_cases z : a = 91 ∧ i = 1
        · rw [z.1, z.2]; exact t
        · exact e a i (by unfold zFe; omega) z)
-- an image
theorem zVC_b {T : Int} {r : Nat} {n : Int} (n0 : 0 ≤ n) (n1 : n < 150) : zVC T r g (1000 + 4 * n) = g 15 n ∧ zVC T r g (1001 + 4 * n) = g 16 n ∧ zVC T r g (1002 + 4 * n) = g 17 n ∧ zVC T r g (1003 + 4 * n) = g 18 n := by
  refine ⟨?_, ?_, ?_, ?_⟩
  · rw [zVC_f (by unfold zdm; omega), ((zca_at (r := r)).2.2.2.2.2.2.2.2.2.1 _ (by omega) (by omega)).1 (by omega), zci_r.2.2.2.2.2.2.2.2.1 _ (by omega) (by omega), zcq_0 (by omega), Int.add_zero, show (1000 + 4 * n - 1000) / 4 = n by omega]
  · rw [zVC_f (by unfold zdm; omega), ((zca_at (r := r)).2.2.2.2.2.2.2.2.2.1 _ (by omega) (by omega)).2.1 (by omega), zci_r.2.2.2.2.2.2.2.2.1 _ (by omega) (by omega), zcq_0 (by omega), Int.add_zero, show (1001 + 4 * n - 1000) / 4 = n by omega]
  · rw [zVC_f (by unfold zdm; omega), ((zca_at (r := r)).2.2.2.2.2.2.2.2.2.1 _ (by omega) (by omega)).2.2.1 (by omega), zci_r.2.2.2.2.2.2.2.2.1 _ (by omega) (by omega), zcq_0 (by omega), Int.add_zero, show (1002 + 4 * n - 1000) / 4 = n by omega]
  · rw [zVC_f (by unfold zdm; omega), ((zca_at (r := r)).2.2.2.2.2.2.2.2.2.1 _ (by omega) (by omega)).2.2.2 (by omega), zci_r.2.2.2.2.2.2.2.2.1 _ (by omega) (by omega), zcq_0 (by omega), Int.add_zero, show (1003 + 4 * n - 1000) / 4 = n by omega]
theorem zVM_b {T i : Int} (i0 : 0 ≤ i) (i1 : i < 600) : zVM T g (1000 + i) = g 221 i := by
  rw [zVM_f (by unfold zdm; omega), show zma (1000 + i) = 221 by unfold zma; repeat (first | rw [if_neg (by omega)] | rw [if_pos (by omega)]), show zmi (1000 + i) = i by unfold zmi; rw [if_neg (by omega), if_pos (by omega)]; omega]
theorem zFbk {T n : Int} (h : zVC T 2 g = zVM T g) (n0 : 0 ≤ n) (n1 : n < 150) : g 15 n = g 221 (4 * n) ∧ g 16 n = g 221 (4 * n + 1) ∧ g 17 n = g 221 (4 * n + 2) ∧ g 18 n = g 221 (4 * n + 3) := by
  obtain ⟨p0, p1, p2, p3⟩ := zVC_b (T := T) (r := 2) (g := g) n0 n1
  refine ⟨?_, ?_, ?_, ?_⟩
  · rw [← p0, congrFun h, zVM_b (by omega) (by omega)]
  · rw [← p1, congrFun h, show 1001 + 4 * n = 1000 + (4 * n + 1) by omega, zVM_b (by omega) (by omega)]
  · rw [← p2, congrFun h, show 1002 + 4 * n = 1000 + (4 * n + 2) by omega, zVM_b (by omega) (by omega)]
  · rw [← p3, congrFun h, show 1003 + 4 * n = 1000 + (4 * n + 3) by omega, zVM_b (by omega) (by omega)]
theorem zFD_it (W : zWc 47 2 g g1) (Wk : ∀ (a : Nat) (i : Int), (2 ≤ a ∧ a ≤ 13) ∨ (91 ≤ a ∧ a ≤ 164) → g1 a i = g a i) (Bc : zBc 59 14 g g1) (Bs : zBcs 14 g g1) (hs : ∀ (a : Nat) (i : Int), 214 ≤ a → g1 a i = g a i) (M : zimT g1 g2) (hm : ∀ (a : Nat) (i : Int), a ≤ 213 → g2 a i = g1 a i) (hf : ∀ (a : Nat) (i : Int), (a = 165 ∧ i = 0) ∨ (177 ≤ a ∧ a ≤ 179) → g2 a i = g a i) (R : zFD g) : zFD g2 := by
  obtain ⟨r1, r2, r3, r4⟩ := R
  have w : ∀ (a : Nat) (i : Int), (2 ≤ a ∧ a ≤ 13) ∨ (91 ≤ a ∧ a ≤ 164) → g2 a i = g a i := fun a i h => by rw [hm a i (by omega)]; exact Wk a i h
  have bk : ∀ (a : Nat) (i : Int), 15 ≤ a → a ≤ 18 → g2 a i = g a i := fun a i h1 h2 => by rw [hm a i (by omega)]; exact Bs a i h1 h2
  have m : ∀ (a : Nat) (i : Int), 215 ≤ a → ¬ a = 250 → g2 a i = g a i := fun a i h1 h2 => by rw [M.2.1 a i h2 (by omega), hs a i (by omega)]
  have m4 : ∀ i : Int, i ≠ 0 → i ≠ 61 → i ≠ 62 → i ≠ 63 → g2 214 i = g 214 i := fun i h1 h2 h3 h4 => by rw [M.2.2 i h1 h2 h3 h4, hs 214 i (by decide)]
  have im : ∀ p : Int, 0 ≤ p → p < 2004 → g2 250 p = g (za p) (zb p) := fun p p0 p1 => by
    have h : ∀ n : Nat, n < 2004 → 214 ≤ za (n : Int) := by decide +kernel
    have q := h p.toNat (by omega)
    rw [show ((p.toNat : Nat) : Int) = p by omega] at q
    rw [M.1 p p0 p1, hs _ _ q]
  have ir : ∀ p : Int, 0 ≤ p → p < 264 → g2 250 p = g 215 p := fun p p0 p1 => by
    have h : ∀ n : Nat, n < 264 → za (n : Int) = 215 ∧ zb (n : Int) = (n : Int) := by decide +kernel
    have q := h p.toNat (by omega)
    rw [show ((p.toNat : Nat) : Int) = p by omega] at q
    rw [im p p0 (by omega), q.1, q.2]
  have ib : ∀ p : Int, 0 ≤ p → p < 600 → g2 250 (539 + p) = g 221 p := fun p p0 p1 => by
    have h : ∀ n : Nat, n < 600 → za (539 + (n : Int)) = 221 ∧ zb (539 + (n : Int)) = (n : Int) := by decide +kernel
    have q := h p.toNat (by omega)
    rw [show ((p.toNat : Nat) : Int) = p by omega] at q
    rw [im (539 + p) (by omega) (by omega), q.1, q.2]
  have k11 : g2 47 11 = g 2 11 := by rw [hm 47 11 (by decide)]; exact W.1.2.1
  refine ⟨?_, zFring_n r2 (fun a i h => ?_), zFth_n r3 (w 2 0 (by omega)) (hf 165 0 (by omega)) (m4 5 (by decide) (by decide) (by decide) (by decide)), fun _ => ⟨fun k hk => ?_, fun n n0 n1 => ?_⟩⟩
  · rw [w 2 11 (by omega), zVC_c (g := g) (fun a i q => ?_), zVM_c2 (g := g) (fun a i q => ?_)]
    · exact r1
    · rcases q with q | q | q | q | q
      · exact m a i (by omega) (by omega)
      · exact m a i (by omega) (by omega)
      · exact m a i (by omega) (by omega)
      · exact m a i (by omega) (by omega)
      · rw [q.1, q.2]; exact m4 43 (by decide) (by decide) (by decide) (by decide)
    · rcases q with q | q | q | q
      · exact w a i (by omega)
      · exact w a i (by omega)
      · exact bk a i q.1 q.2
      · exact hf a i (Or.inr q)
  · by_cases q : a ≤ 213
    · exact w a i (by omega)
    · exact m a i (by omega) (by omega)
  · rw [k11] at hk ⊢
    rw [zVC_wc (zWs_c (fun a i q => hm a i (by omega))) hk, zVC_wc W hk, congrFun r1 k, zVM_rw hk, ir k hk.1 hk.2.1]
  · obtain ⟨c1, c2, c3, c4⟩ := Bc n n0 n1
    obtain ⟨d1, d2, d3, d4⟩ := zFbk r1 n0 n1
    rw [ib _ (by omega) (by omega), ib _ (by omega) (by omega), ib _ (by omega) (by omega), ib _ (by omega) (by omega), hm 60 n (by decide), hm 61 n (by decide), hm 62 n (by decide), hm 63 n (by decide), ← d1, ← d2, ← d3, ← d4]
    exact ⟨c1, c2, c3, c4⟩
theorem zVC_hw {T T' : Int} {k : Int} (h : 2000 ≤ k) (e : ∀ (a : Nat) (i : Int), 177 ≤ a → a ≤ 179 → g2 a i = g a i) : zVC T 2 g2 k = zVC T' 2 g k := by
  rw [zVC_hi (T' := T') (r' := 2) (g := g2) (by omega)]
  unfold zVC
  by_cases d : zdm T' k
  · rw [zite_p d, zite_p d]
    congr 1
    unfold zdm at d
    rcases zca_cases 2 k with q | q | q | q | q | q | q | q | q | q | q | q | q | q | q | q | q | q | q | q | q
    all_goals first | (exfalso; omega) | exact e _ _ (by omega) (by omega)
  · rw [zite_n d, zite_n d]
theorem zVM_hw {T T' : Int} {k : Int} (h : 2000 ≤ k) (e : ∀ (a : Nat) (i : Int), a = 237 ∨ a = 238 ∨ (a = 214 ∧ i = 43) → g2 a i = g a i) : zVM T g2 k = zVM T' g k := by
  rw [zVM_hi (T' := T') (g := g2) (by omega)]
  unfold zVM
  by_cases d : zdm T' k
  · rw [zite_p d, zite_p d]
    refine e _ _ ?_
    unfold zdm at d
    rcases zma_cases k with q | q | q | q | q | q | q | q | q | q
    all_goals first | omega | (rw [q.1]; exact Or.inr (Or.inr ⟨by decide, by decide⟩))
  · rw [zite_n d, zite_n d]
theorem zFD_ir (W : zWc 2 47 g g1) (Wj : ∀ (a : Nat) (i : Int), (47 ≤ a ∧ a ≤ 58) ∨ (92 ≤ a ∧ a ≤ 164) ∨ (a = 91 ∧ i = 2) → g1 a i = g a i) (z91 : g1 91 1 = 0) (Bc : zBc 14 59 g g1) (Bs : zBcs 59 g g1) (hs : ∀ (a : Nat) (i : Int), 214 ≤ a → g1 a i = g a i) (M : zimR g1 g2) (hm : ∀ (a : Nat) (i : Int), a ≤ 213 → g2 a i = g1 a i) (hf : ∀ (a : Nat) (i : Int), (a = 2 ∧ i = 0) ∨ a = 59 ∨ (a = 165 ∧ i = 0) ∨ (177 ≤ a ∧ a ≤ 179) → g2 a i = g a i) (R : zFD g) (K : zFk g) : zFD g2 := by
  obtain ⟨r1, r2, r3, r4⟩ := R
  have w : ∀ (a : Nat) (i : Int), (47 ≤ a ∧ a ≤ 58) → g2 a i = g a i := fun a i h => by rw [hm a i (by omega)]; exact Wj a i (by omega)
  have m250 : ∀ i : Int, 0 ≤ i → i < 2004 → g2 250 i = g 250 i := fun i i0 i1 => by
    have h : ∀ n : Nat, n < 2004 → zv 250 (n : Int) = -1 := by decide +kernel
    have q := h i.toNat (by omega)
    rw [show ((i.toNat : Nat) : Int) = i by omega] at q
    rw [M.2.1 250 i q (by decide), hs 250 i (by decide)]
  have ir : ∀ p : Int, 0 ≤ p → p < 264 → g2 215 p = g 250 p := fun p p0 p1 => by
    have h : ∀ n : Nat, n < 264 → zv 215 (n : Int) = (n : Int) := by decide +kernel
    have q := h p.toNat (by omega)
    rw [show ((p.toNat : Nat) : Int) = p by omega] at q
    rw [M.1 215 p (by omega), q, hs 250 p (by decide)]
  have ib : ∀ p : Int, 0 ≤ p → p < 600 → g2 221 p = g 250 (539 + p) := fun p p0 p1 => by
    have h : ∀ n : Nat, n < 600 → zv 221 (n : Int) = 539 + (n : Int) := by decide +kernel
    have q := h p.toNat (by omega)
    rw [show ((p.toNat : Nat) : Int) = p by omega] at q
    rw [M.1 221 p (by omega), q, hs 250 _ (by decide)]
  have k11 : g2 2 11 = g 47 11 := by rw [hm 2 11 (by decide)]; exact W.1.2.1
  refine ⟨?_, zFring_0 (by rw [hm 91 1 (by decide)]; exact z91), zFth_n r3 (hf 2 0 (by omega)) (hf 165 0 (by omega)) (by rw [M.2.2 5 (by decide +kernel) (by decide) (by decide) (by decide) (by decide) (by decide), hs 214 5 (by decide)]), fun _ => zFk_n K (fun a i q => ?_)⟩
  · rw [k11]
    funext k
    by_cases d : zRw (g 47 11) k
    · rw [zVM_rw d, ir k d.1 d.2.1, zVC_wc (zWs_c (fun a i q => hm a i (by omega))) d, zVC_wc W d]
      exact K.1 k d
    · by_cases lo : k < 264
      · have nd := zdm_lo lo d
        rw [zVC_no nd, zVM_no nd]
      · by_cases hi : 2000 ≤ k
        · rw [zVC_hw (g := g) (T' := g 2 11) hi (fun a i h1 h2 => hf a i (by omega)), zVM_hw (g := g) (T' := g 2 11) hi (fun a i q => ?_)]
          · exact congrFun r1 k
          · rcases q with q | q | q
            · rw [q, M.2.1 237 i (by unfold zv; rfl) (by decide), hs 237 i (by decide)]
            · rw [q, M.2.1 238 i (by unfold zv; rfl) (by decide), hs 238 i (by decide)]
            · rw [q.1, q.2, M.2.2 43 (by decide +kernel) (by decide) (by decide) (by decide) (by decide) (by decide), hs 214 43 (by decide)]
        · by_cases bk : 1000 ≤ k ∧ k < 1600
          · obtain ⟨c1, c2, c3, c4⟩ := Bc ((k - 1000) / 4) (by omega) (by omega)
            obtain ⟨d1, d2, d3, d4⟩ := K.2 ((k - 1000) / 4) (by omega) (by omega)
            obtain ⟨p0, p1, p2, p3⟩ := zVC_b (T := g 47 11) (r := 2) (g := g2) (n := (k - 1000) / 4) (by omega) (by omega)
            have vm : zVM (g 47 11) g2 k = g 250 (539 + (k - 1000)) := by
              have z := zVM_b (g := g2) (T := g 47 11) (i := k - 1000) (by omega) (by omega)
              rw [show 1000 + (k - 1000) = k by omega] at z
              rw [z, ib _ (by omega) (by omega)]
            rw [vm]
            rcases (show k % 4 = 0 ∨ k % 4 = 1 ∨ k % 4 = 2 ∨ k % 4 = 3 by omega) with e | e | e | e
            · rw [show 1000 + 4 * ((k - 1000) / 4) = k by omega] at p0
              rw [p0, hm 15 _ (by decide), show (15 : Nat) = 14 + 1 from rfl, c1, show (59 : Nat) + 1 = 60 from rfl, d1, show 4 * ((k - 1000) / 4) = k - 1000 by omega]
            · rw [show 1001 + 4 * ((k - 1000) / 4) = k by omega] at p1
              rw [p1, hm 16 _ (by decide), show (16 : Nat) = 14 + 2 from rfl, c2, show (59 : Nat) + 2 = 61 from rfl, d2, show 4 * ((k - 1000) / 4) + 1 = k - 1000 by omega]
            · rw [show 1002 + 4 * ((k - 1000) / 4) = k by omega] at p2
              rw [p2, hm 17 _ (by decide), show (17 : Nat) = 14 + 3 from rfl, c3, show (59 : Nat) + 3 = 62 from rfl, d3, show 4 * ((k - 1000) / 4) + 2 = k - 1000 by omega]
            · rw [show 1003 + 4 * ((k - 1000) / 4) = k by omega] at p3
              rw [p3, hm 18 _ (by decide), show (18 : Nat) = 14 + 4 from rfl, c4, show (59 : Nat) + 4 = 63 from rfl, d4, show 4 * ((k - 1000) / 4) + 3 = k - 1000 by omega]
          · have nd : ¬ zdm (g 47 11) k := fun q => by unfold zdm at q; omega
            rw [zVC_no nd, zVM_no nd]
  · rcases q with q | q
    · by_cases q59 : a = 59
      · exact hf a i (Or.inr (Or.inl q59))
      · by_cases q60 : 60 ≤ a
        · rw [hm a i (by omega)]; exact Bs a i (by omega) (by omega)
        · exact w a i (by omega)
    · rw [q.1]; exact m250 i q.2.1 q.2.2
end
