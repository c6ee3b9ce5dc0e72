-- DAYS: one after another, and what is kept of them; the class
/-- where a kept row says something -/
noncomputable def zRw (T k : Int) : Prop := 0 ≤ k ∧ k < 264 ∧ ¬ (244 ≤ k ∧ 244 + T ≤ k ∧ k < 252)
theorem zVC_wc {T : Int} {r0 r1 : Nat} {g g' : zi_M} (W : zWc r0 r1 g g') {k : Int} (h : zRw T k) : zVC T r0 g' k = zVC T r1 g k := by
  obtain ⟨p0, p1, p2, p3, p4, p5, pm, pd, ph, pw, pk, pa, pj, pc⟩ := zVC_rd (T := T) (r := r0) (g := g')
  obtain ⟨q0, q1, q2, q3, q4, q5, qm, qd, qh, qw, qk, qa, qj, qc⟩ := zVC_rd (T := T) (r := r1) (g := g)
  obtain ⟨⟨-, -, w14, w15, w16, w17, w18, w19⟩, -, -, -, w4, w5, w6, w7, w8, w9, w10, w11⟩ := W
  unfold zRw at h
  by_cases a0 : k = 0
  · rw [a0, p0, q0, w17]
  by_cases a1 : k = 1
  · rw [a1, p1, q1, w18]
  by_cases a2 : k = 2
  · rw [a2, p2, q2, w19]
  by_cases a3 : k = 3
  · rw [a3, p3, q3, w14]
  by_cases a4 : k = 4
  · rw [a4, p4, q4, w15]
  by_cases a5 : k = 5
  · rw [a5, p5, q5, w16]
  by_cases b0 : k < 16
  · obtain ⟨i, rfl⟩ : ∃ i, k = 6 + i := ⟨k - 6, by omega⟩
    rw [pm i (by omega) (by omega), qm i (by omega) (by omega), w4 i (by omega) (by omega)]
  by_cases b1 : k < 26
  · obtain ⟨i, rfl⟩ : ∃ i, k = 16 + i := ⟨k - 16, by omega⟩
    rw [pd i (by omega) (by omega), qd i (by omega) (by omega), w5 i (by omega) (by omega)]
  by_cases b2 : k < 36
  · obtain ⟨i, rfl⟩ : ∃ i, k = 26 + i := ⟨k - 26, by omega⟩
    rw [ph i (by omega) (by omega), qh i (by omega) (by omega), w6 i (by omega) (by omega)]
  by_cases b3 : k < 236
  · obtain ⟨i, rfl⟩ : ∃ i, k = 36 + i := ⟨k - 36, by omega⟩
    rw [pw i (by omega) (by omega), qw i (by omega) (by omega), w7 i (by omega) (by omega)]
  by_cases b4 : k < 244
  · obtain ⟨i, rfl⟩ : ∃ i, k = 236 + i := ⟨k - 236, by omega⟩
    rw [pk i (by omega) (by omega), qk i (by omega) (by omega), w8 i (by omega) (by omega)]
  by_cases b5 : k < 252
  · obtain ⟨i, rfl⟩ : ∃ i, k = 244 + i := ⟨k - 244, by omega⟩
    rw [pa i (by omega) (by omega) (by omega), qa i (by omega) (by omega) (by omega), w9 i (by omega) (by omega)]
  by_cases b6 : k < 258
  · obtain ⟨i, rfl⟩ : ∃ i, k = 252 + i := ⟨k - 252, by omega⟩
    rw [pj i (by omega) (by omega), qj i (by omega) (by omega), w10 i (by omega) (by omega)]
  · obtain ⟨i, rfl⟩ : ∃ i, k = 258 + i := ⟨k - 258, by omega⟩
    rw [pc i (by omega) (by omega), qc i (by omega) (by omega), w11 i (by omega) (by omega)]
/-- a world left alone -/
noncomputable def zWs (r : Nat) (g g' : zi_M) : Prop := ∀ (a : Nat) (i : Int), (r ≤ a ∧ a ≤ r + 11) → g' a i = g a i
theorem zWs_c {r : Nat} {g g' : zi_M} (h : zWs r g g') : zWc r r g g' :=
  ⟨⟨h _ _ (by omega), h _ _ (by omega), h _ _ (by omega), h _ _ (by omega), h _ _ (by omega), h _ _ (by omega), h _ _ (by omega), h _ _ (by omega)⟩, fun i _ _ => h _ i (by omega), fun i _ _ => h _ i (by omega), fun i _ _ => h _ i (by omega), fun i _ _ => h _ i (by omega), fun i _ _ => h _ i (by omega), fun i _ _ => h _ i (by omega), fun i _ _ => h _ i (by omega), fun i _ _ => h _ i (by omega), fun i _ _ => h _ i (by omega), fun i _ _ => h _ i (by omega), fun i _ _ => h _ i (by omega)⟩
/-- the ring as rows of numbers -/
noncomputable def zRV (T : Int) (g : zi_M) : Int → Int → Int := fun e k => zVC T (zSlt g e) g k
noncomputable def zKq (g g' : zi_M) : Prop := g' 91 1 = min (g 91 1 + 1) 6 ∧ g' 91 2 = (g 91 2 + 1) % 6 ∧ (∀ T k : Int, zRw T k → zVC T (93 + 12 * (g 91 2).toNat) g' k = zVC T 2 g k) ∧ ∀ s : Int, 0 ≤ s → s < 6 → s ≠ g 91 2 → ∀ T k : Int, zRw T k → zVC T (93 + 12 * s.toNat) g' k = zVC T (93 + 12 * s.toNat) g k
theorem zKq_of {g g3 g6 g8 : zi_M} (I : zk_I g) (F : zk_fr (fr_World_copyFrom (93 + 12 * (g 91 2).toNat) 2) g g3) (W : zWc (93 + 12 * (g 91 2).toNat) 2 g g3) (e1 : g6 = zi_u g3 91 2 (Int.tmod ((g3 91 2) + 1) 6)) (e2 : g8 = zi_u g6 91 1 (min ((g6 91 1) + 1) 6)) : zKq g g8 := by
  have b : (0 : Int) ≤ g 91 2 ∧ g 91 2 ≤ 5 := I.1 91 2
  have f : ∀ (a : Nat) (i : Int), (a < 93 + 12 * (g 91 2).toNat ∨ 93 + 12 * (g 91 2).toNat + 11 < a) → g3 a i = g a i := fun a i q => F a i (fun w => by unfold fr_World_copyFrom at w; omega)
  have u : ∀ (a : Nat) (i : Int), a ≠ 91 → g8 a i = g3 a i := fun a i q => by rw [e2, zi_u_ne q, e1, zi_u_ne q]
  have n2 : g8 91 2 = (g 91 2 + 1) % 6 := by
    rw [e2, zi_u_ni (by decide), e1, zi_u_eq, f 91 2 (Or.inl (by omega)), Int.tmod_eq_emod_of_nonneg (by omega)]
  have n1 : g8 91 1 = min (g 91 1 + 1) 6 := by
    rw [e2, zi_u_eq, e1, zi_u_ni (by decide), f 91 1 (Or.inl (by omega))]
  refine ⟨n1, n2, fun T k hk => ?_, fun s s0 s6 hs T k hk => ?_⟩
  · rw [← zVC_wc W hk]
    exact zVC_wc (zWs_c (fun a i q => u a i (by omega))) hk
  · exact zVC_wc (zWs_c (fun a i q => by rw [u a i (by omega), f a i (by omega)])) hk
theorem zKq_st {T : Int} {g g' : zi_M} (I : zk_I g) (h : zKq g g') : zRst (zRw T) (g 91 1) (zRV T g) (zVC T 2 g) (g' 91 1) (zRV T g') := by
  have b1 : (0 : Int) ≤ g 91 1 ∧ g 91 1 ≤ 6 := I.1 91 1
  have b2 : (0 : Int) ≤ g 91 2 ∧ g 91 2 ≤ 5 := I.1 91 2
  obtain ⟨h1, h2, hc, hf⟩ := h
  refine ⟨h1, fun e k e0 e1 hk => ?_, fun k hk => ?_⟩
  · show zVC T (zSlt g' e) g' k = zVC T (zSlt g (e + (g 91 1 + 1 - g' 91 1))) g k
    have es : (g' 91 2 + 6 - g' 91 1 + e) % 6 = (g 91 2 + 6 - g 91 1 + (e + (g 91 1 + 1 - g' 91 1))) % 6 := by rw [h2]; omega
    unfold zSlt
    rw [es]
    exact hf _ (by omega) (by omega) (by rw [h1] at e1 ⊢; omega) T k hk
  · show zVC T (zSlt g' (g' 91 1 - 1)) g' k = zVC T 2 g k
    have es : (g' 91 2 + 6 - g' 91 1 + (g' 91 1 - 1)) % 6 = g 91 2 := by rw [h2]; omega
    unfold zSlt
    rw [es]
    exact hc T k hk
theorem zRm_c {C : Int → Prop} {c c' : Int} {R R1 R2 : Int → Int → Int} {m : Nat} {W : Nat → Int → Int} (h : zRm C c R m W c' R1) (e : ∀ x k : Int, C k → R2 x k = R1 x k) : zRm C c R m W c' R2 := ⟨h.1, fun d k d1 d2 hk => by rw [e _ k hk]; exact h.2 d k d1 d2 hk⟩
theorem zi_u_other {g : zi_M} {v : Int} {a : Nat} {i : Int} (h : a = 215 ∨ a = 221 ∨ a = 237 ∨ a = 238 ∨ (a = 214 ∧ i = 43)) : zi_u g 214 0 v a i = g a i := by
  rcases h with q | q | q | q | ⟨q, w⟩
  · exact zi_u_ne (by omega)
  · exact zi_u_ne (by omega)
  · exact zi_u_ne (by omega)
  · exact zi_u_ne (by omega)
  · rw [w]; exact zi_u_ni (by decide)
/-- i days of n have gone by -/
noncomputable def zDc (n i : Int) (g0 g : zi_M) : Prop := zGv 2 g0 → zVC (g0 2 11) 2 g = zIt (zCY 2 g0) i.toNat (zVC (g0 2 11) 2 g0) ∧ zRm (zRw (g0 2 11)) (g0 91 1) (zRV (g0 2 11) g0) (i - (n - 6).toNat).toNat (fun j => zIt (zCY 2 g0) ((n - 6).toNat + j) (zVC (g0 2 11) 2 g0)) (g 91 1) (zRV (g0 2 11) g)
theorem zDc_0 {n : Int} {g : zi_M} (I : zk_I g) : zDc n 0 g g := fun _ => ⟨rfl, by
  have b1 : (0 : Int) ≤ g 91 1 ∧ g 91 1 ≤ 6 := I.1 91 1
  rw [show ((0 : Int) - ((n - 6).toNat : Int)).toNat = 0 by omega]
  exact zRm_0 b1.2⟩
/-- the day is to be passed: kept already, where it is to be kept -/
noncomputable def zDk (n i : Int) (g0 g : zi_M) : Prop := zGv 2 g0 → zVC (g0 2 11) 2 g = zIt (zCY 2 g0) i.toNat (zVC (g0 2 11) 2 g0) ∧ zRm (zRw (g0 2 11)) (g0 91 1) (zRV (g0 2 11) g0) (i + 1 - (n - 6).toNat).toNat (fun j => zIt (zCY 2 g0) ((n - 6).toNat + j) (zVC (g0 2 11) 2 g0)) (g 91 1) (zRV (g0 2 11) g)
theorem zDk_n {n i : Int} {g0 g : zi_M} (h : zDc n i g0 g) (i0 : 0 ≤ i) (c : 6 < n - i) : zDk n i g0 g := fun v => by
  obtain ⟨a, b⟩ := h v
  rw [show (i - ((n - 6).toNat : Int)).toNat = (i + 1 - ((n - 6).toNat : Int)).toNat by omega] at b
  exact ⟨a, b⟩
theorem zDk_y {n i : Int} {g0 g g9 : zi_M} (h : zDc n i g0 g) (I : zk_I g) (F : zk_fr fr_Past_keep g g9) (k : zKq g g9) (i0 : 0 ≤ i) (i1 : i < n) (c : n - i ≤ 6) : zDk n i g0 g9 := fun v => by
  obtain ⟨a, b⟩ := h v
  have e : zVC (g0 2 11) 2 g9 = zVC (g0 2 11) 2 g := zVC_c (fun x j h => F x j (fun w => by unfold fr_Past_keep at w; omega))
  refine ⟨by rw [e]; exact a, ?_⟩
  have s := zRm_s b (zKq_st (T := g0 2 11) I k) (fun k _ => by rw [a, show i.toNat = (n - 6).toNat + (i - ((n - 6).toNat : Int)).toNat by omega])
  rw [show (i + 1 - ((n - 6).toNat : Int)).toNat = (i - ((n - 6).toNat : Int)).toNat + 1 by omega]
  exact s
/-- what days leave alone -/
noncomputable def zDfr2 (g0 g : zi_M) : Prop := ∀ (a : Nat) (i : Int), (19 ≤ a ∧ a ≤ 26) ∨ (29 ≤ a ∧ a ≤ 35) ∨ (3 ≤ a ∧ a ≤ 5) ∨ (a = 2 ∧ (i = 0 ∨ i = 8 ∨ i = 11)) → g a i = g0 a i
theorem zDfr2_of {g0 g : zi_M} (F : zk_fr fr_S_days g0 g) : zDfr2 g0 g := fun a i h => F a i (fun w => by unfold fr_S_days at w; omega)
theorem zDfr2_C {g0 g : zi_M} (f : zDfr2 g0 g) : zCY 2 g = zCY 2 g0 ∧ (zGv 2 g0 → zGv 2 g) := by
  refine ⟨?_, fun v i i0 i1 => by rw [f 29 i (by omega), f 2 8 (by omega)]; exact v i i0 i1⟩
  unfold zCY
  have r : ∀ a : Nat, (29 ≤ a ∧ a ≤ 35) → g a = g0 a := fun a q => funext fun i => f a i (by omega)
  rw [f 2 0 (by omega), f 2 8 (by omega), f 2 11 (by omega), f 19 10 (by omega), f 19 5 (by omega), r 32 (by omega), r 33 (by omega), r 34 (by omega), r 35 (by omega), r 30 (by omega), r 31 (by omega), zLc_c (g := g0) (g' := g) (f 20 7 (by omega)) (fun a i q => f a i (by omega)), funext fun p => zeg_c (g := g) (g0 := g0) (fun i => f 29 i (by omega)) p]
theorem zDc_s {n i : Int} {g0 g g6 : zi_M} (h : zDk n i g0 g) (f : zDfr2 g0 g) (F : zk_fr (fr_DayRun_pass 2) g g6) (k : zPD 2 g g6) (i0 : 0 ≤ i) : zDc n (i + 1) g0 g6 := fun v => by
  obtain ⟨a, b⟩ := h v
  obtain ⟨o1, o2⟩ := zDfr2_C f
  have x := zPD_f k (o2 v)
  rw [f 2 11 (by omega), o1, a] at x
  have fr : ∀ (y : Nat) (j : Int), 91 ≤ y ∧ y ≤ 164 → g6 y j = g y j := fun y j q => F y j (fun w => by unfold fr_DayRun_pass at w; omega)
  refine ⟨by rw [x, show (i + 1).toNat = i.toNat + 1 by omega]; rfl, ?_⟩
  rw [fr 91 1 (by omega)]
  refine zRm_c b (fun y k hk => ?_)
  show zVC (g0 2 11) (zSlt g6 y) g6 k = zVC (g0 2 11) (zSlt g y) g k
  have es : zSlt g6 y = zSlt g y := by unfold zSlt; rw [fr 91 2 (by omega), fr 91 1 (by omega)]
  have hs : 93 ≤ zSlt g y ∧ zSlt g y ≤ 153 := by unfold zSlt; omega
  rw [es]
  exact zVC_wc (zWs_c (fun a i q => fr a i (by omega))) hk
noncomputable def zDF2 (n : Int) (g0 g : zi_M) : Prop := zDc n n g0 g
theorem zDc_x {n i : Int} {g0 g : zi_M} (h : zDc n i g0 g) (e : i = n) : zDF2 n g0 g := by
  rw [e] at h
  exact h
-- the reference
noncomputable def zRW (g : zi_M) : Int → Int → Int := fun e k => g 216 (264 * e + k)
theorem zKa_s2 {T : Int} {g g' : zi_M} (h : zKa g g') : zRst (zRw T) (g 214 3) (zRW g) (zVM T g) (g' 214 3) (zRW g') :=
  ⟨h.1, fun e k e0 e1 hk => h.2.1 e k e0 e1 hk.1 hk.2.1, fun k hk => by
    show g' 216 (264 * (g' 214 3 - 1) + k) = zVM T g k
    rw [zVM_r ⟨hk.1, hk.2.1⟩ hk.2.2]
    exact h.2.2 k hk.1 hk.2.1⟩
/-- i days have gone by -/
noncomputable def zDm (i : Int) (g0 g : zi_M) : Prop := zLk g0 → zPv g0 → 0 ≤ g0 215 3 → 0 ≤ g 215 3 ∧ zVM (g0 214 7) g = zIt (zMY g0) i.toNat (zVM (g0 214 7) g0) ∧ zRm (zRw (g0 214 7)) (g0 214 3) (zRW g0) i.toNat (fun j => zIt (zMY g0) j (zVM (g0 214 7) g0)) (g 214 3) (zRW g)
theorem zMfr_y {g0 g : zi_M} (F : zk_fr fr_M_days g0 g) : zMfr g0 g :=
  ⟨fun a i h => F a i (fun w => by unfold fr_M_days at w; omega), F 214 5 (fun w => by unfold fr_M_days at w; omega), F 214 6 (fun w => by unfold fr_M_days at w; omega), F 214 7 (fun w => by unfold fr_M_days at w; omega), F 214 37 (fun w => by unfold fr_M_days at w; omega), F 214 39 (fun w => by unfold fr_M_days at w; omega)⟩
theorem zMfr_Y {g0 g : zi_M} (f : zMfr g0 g) : zMY g = zMY g0 ∧ (zPv g0 → zPv g) := by
  have o := zMfr_o f
  have r3 : g 233 = g0 233 := funext fun i => f.1 233 i (by omega)
  have r4 : g 234 = g0 234 := funext fun i => f.1 234 i (by omega)
  refine ⟨?_, fun v => ⟨fun n n0 n1 => by rw [f.2.2.1, f.2.2.2.1, r4]; exact v.1 n n0 (by rw [← f.2.2.2.2.2]; exact n1), fun m m0 m1 => by rw [r3]; exact v.2 m m0 (by rw [← f.2.2.2.2.1]; exact m1)⟩⟩
  unfold zMY
  rw [o.1, o.2.1, f.2.1, f.2.2.1, f.2.2.2.1, f.2.2.2.2.1, f.2.2.2.2.2, r3, r4]
theorem zDm_0 {g0 g1 : zi_M} {v : Int} (I : zk_I g0) (e : g1 = zi_u g0 214 0 v) : zDm 0 g0 g1 := fun _ _ r3 => by
  have b1 : (0 : Int) ≤ g0 214 3 ∧ g0 214 3 ≤ 6 := I.1 214 3
  have r : g1 216 = g0 216 := by rw [e]; exact zi_u_row (by decide)
  have e3 : g1 214 3 = g0 214 3 := by rw [e, zi_u_ni (by decide)]
  refine ⟨by rw [e, zi_u_ne (by decide)]; exact r3, by rw [zVM_c (g := g0) (fun a i h => by rw [e]; exact zi_u_other h)]; rfl, ?_⟩
  unfold zRW
  rw [e3, r]
  exact zRm_0 b1.2
theorem zDm_s {i : Int} {g0 g g8 g11 : zi_M} (h : zDm i g0 g) (f : zMfr g0 g) (F8 : zk_fr fr_M_keepsAhead g g8) (k : zKa g g8) (F : zk_fr fr_M_goesBy g8 g11) (q : zQD g8 g11) (i0 : 0 ≤ i) : zDm (i + 1) g0 g11 := fun l v r3 => by
  obtain ⟨r4, a, b⟩ := h l v r3
  have f8 : zMfr g g8 := ⟨fun x j h => F8 x j (fun w => by unfold fr_M_keepsAhead at w; omega), F8 214 5 (fun w => by unfold fr_M_keepsAhead at w; omega), F8 214 6 (fun w => by unfold fr_M_keepsAhead at w; omega), F8 214 7 (fun w => by unfold fr_M_keepsAhead at w; omega), F8 214 37 (fun w => by unfold fr_M_keepsAhead at w; omega), F8 214 39 (fun w => by unfold fr_M_keepsAhead at w; omega)⟩
  have o := zMfr_o f
  have o8 := zMfr_o f8
  have y := zMfr_Y f
  have y8 := zMfr_Y f8
  have e : zVM (g0 214 7) g8 = zVM (g0 214 7) g := zVM_c (fun x j h => F8 x j (fun w => by unfold fr_M_keepsAhead at w; omega))
  obtain ⟨x, r5⟩ := zQD_f q (o8.2.2 (o.2.2 l)) (y8.2 (y.2 v)) (by rw [F8 215 3 (fun w => by unfold fr_M_keepsAhead at w; omega)]; exact r4)
  rw [f8.2.2.2.1, f.2.2.2.1, y8.1, y.1, e, a] at x
  have s := zRm_s b (zKa_s2 (T := g0 214 7) k) (fun k _ => by rw [a])
  have r : g11 216 = g8 216 := funext fun j => F 216 j (fun w => by unfold fr_M_goesBy at w; omega)
  have e3 : g11 214 3 = g8 214 3 := F 214 3 (fun w => by unfold fr_M_goesBy at w; omega)
  have w : zRW g11 = zRW g8 := by unfold zRW; rw [r]
  refine ⟨r5, by rw [x, show (i + 1).toNat = i.toNat + 1 by omega]; rfl, ?_⟩
  rw [w, e3, show (i + 1).toNat = i.toNat + 1 by omega]
  exact s
noncomputable def zDM2 (n : Int) (g0 g : zi_M) : Prop := zDm n g0 g
theorem zDm_x {n i : Int} {g0 g : zi_M} (h : zDm i g0 g) (e : i = n) : zDM2 n g0 g := by
  rw [e] at h
  exact h
