-- GOES: in thought, over the row
noncomputable def zhm (f : Int → Int) : Nat → Int
  | 0 => 0
  | n + 1 => zi_w (zhm f n + f (n : Int))
theorem zhm_c {f f' : Int → Int} : ∀ n : Nat, (∀ i : Int, 0 ≤ i → i < n → f i = f' i) → zhm f n = zhm f' n
  | 0, _ => rfl
  | n + 1, h => by
    show zi_w _ = zi_w _
    rw [zhm_c n (fun i i0 i1 => h i i0 (by omega)), h (n : Int) (by omega) (by omega)]
theorem zhm_s {f : Int → Int} {l i : Int} (h : l = zhm f i.toNat) (i0 : 0 ≤ i) : zi_w (l + f i) = zhm f (i + 1).toNat := by
  rw [show (i + 1).toNat = i.toNat + 1 by omega]
  show _ = zi_w _
  rw [h, show ((i.toNat : Nat) : Int) = i by omega]
theorem zhm_t {f : Int → Int} {l i w : Int} (h : l = zhm f i.toNat) (i0 : 0 ≤ i) (e : w = zi_w (l + f i)) : w = zhm f (i + 1).toNat := by
  rw [e]
  exact zhm_s h i0
theorem zhm_x {f : Int → Int} {l i n : Int} (h : l = zhm f i.toNat) (e : i = n) : l = zhm f n.toNat := by
  rw [h, e]
theorem zhm_b {f : Int → Int} (b : ∀ i : Int, 0 ≤ f i ∧ f i ≤ 20) : ∀ n : Nat, n ≤ 10 → 0 ≤ zhm f n ∧ zhm f n ≤ 20 * n
  | 0, _ => ⟨Int.le_refl _, by show (0 : Int) ≤ 20 * ((0 : Nat) : Int); omega⟩
  | n + 1, h => by
    have ih := zhm_b b n (by omega)
    have q := b (n : Int)
    show 0 ≤ zi_w _ ∧ zi_w _ ≤ _
    rw [zi_w_id ⟨by omega, by omega⟩]
    omega
-- a row far up is the same of all worlds
theorem zca_hi {r : Nat} {k : Int} (h : 264 ≤ k) : zca r k = zca 0 k := by
  unfold zca
  simp only [if_neg (show ¬ k < 0 by omega), if_neg (show ¬ k < 6 by omega), if_neg (show ¬ k < 16 by omega), if_neg (show ¬ k < 26 by omega), if_neg (show ¬ k < 36 by omega), if_neg (show ¬ k < 236 by omega), if_neg (show ¬ k < 244 by omega), if_neg (show ¬ k < 252 by omega), if_neg (show ¬ k < 258 by omega), if_neg (show ¬ k < 264 by omega)]
theorem zdm_hi {T T' k : Int} (h : 264 ≤ k) : zdm T k ↔ zdm T' k := by
  unfold zdm
  constructor <;> (intro q; omega)
theorem zVC_hi {T T' : Int} {r r' : Nat} {g : zi_M} {k : Int} (h : 264 ≤ k) : zVC T r g k = zVC T' r' g k := by
  unfold zVC
  by_cases d : zdm T k
  · rw [zite_p d, zite_p ((zdm_hi h).1 d), zca_hi h, zca_hi (r := r') h]
  · rw [zite_n d, zite_n (fun q => d ((zdm_hi h).2 q))]
theorem zVM_hi {T T' : Int} {g : zi_M} {k : Int} (h : 264 ≤ k) : zVM T g k = zVM T' g k := by
  unfold zVM
  by_cases d : zdm T k
  · rw [zite_p d, zite_p ((zdm_hi h).1 d)]
  · rw [zite_n d, zite_n (fun q => d ((zdm_hi h).2 q))]
theorem zdm_lo {T k : Int} (h : k < 264) (n : ¬ zRw T k) : ¬ zdm T k := fun d => by
  unfold zRw at n
  unfold zdm at d
  omega
/-- the cells of the book, what waits -/
theorem zca_h {k : Int} (h : 264 ≤ k) : (15 ≤ zca 0 k ∧ zca 0 k ≤ 18) ∨ (177 ≤ zca 0 k ∧ zca 0 k ≤ 179) ∨ zca 0 k = 999 := by
  rcases zca_cases 0 k with q | q | q | q | q | q | q | q | q | q | q | q | q | q | q | q | q | q | q | q | q
  all_goals omega
theorem zVC_hh {T : Int} {r : Nat} {g g' : zi_M} (e : ∀ (a : Nat) (i : Int), (15 ≤ a ∧ a ≤ 18) ∨ (177 ≤ a ∧ a ≤ 179) → g' a i = g a i) {k : Int} (h : 264 ≤ k) : zVC T r g' k = zVC T r g k := by
  unfold zVC
  by_cases d : zdm T k
  · rw [zite_p d, zite_p d, zca_hi h]
    congr 1
    refine e _ _ ?_
    unfold zdm at d
    rcases zca_cases 0 k with q | q | q | q | q | q | q | q | q | q | q | q | q | q | q | q | q | q | q | q | q
    all_goals omega
  · rw [zite_n d, zite_n d]
theorem zVM_hc2 {T : Int} {g g' : zi_M} (e : ∀ (a : Nat) (i : Int), (a = 221 ∨ a = 237 ∨ a = 238 ∨ (a = 214 ∧ i = 43)) → g' a i = g a i) {k : Int} (h : 264 ≤ k) : zVM T g' k = zVM T g k := by
  unfold zVM
  by_cases d : zdm T k
  · rw [zite_p d, zite_p d]
    refine e _ _ ?_
    unfold zdm at d
    rcases zma_cases k with q | q | q | q | q | q | q | q | q | q
    all_goals first | omega | (rw [q.1]; exact Or.inr (Or.inr (Or.inr ⟨by decide, by decide⟩)))
  · rw [zite_n d, zite_n d]
-- the class
noncomputable def zCT (g : zi_M) : (Int → Int) → (Int → Int) := zDY (g 165 0) (zLc g 2) (zeg g) (g 2 8) (g 2 11) (g 19 10) (g 32) (g 33) (g 34) (g 35) (g 30) (g 31) (g 19 5)
noncomputable def zGw (g0 g : zi_M) : Prop := (∀ i : Int, 0 ≤ i → i < 10 → g 166 i = g0 3 i ∧ g 167 i = g0 4 i ∧ g 168 i = g0 5 i) ∧ g 165 8 = g0 2 8 ∧ g 165 11 = g0 2 11
noncomputable def zGc (i : Int) (g0 g : zi_M) : Prop := zGw g0 g ∧ (zGv 2 g0 → zVC (g0 2 11) 165 g = zIt (zCT g0) i.toNat (zVC (g0 2 11) 2 g0))
theorem zGc_0 {g0 g g6 : zi_M} (e : g = g0) (F : zk_fr (fr_World_copyFrom 165 2) g g6) (W : zWc 165 2 g g6) : zGc 0 g0 g6 := by
  subst e
  have w := W.2
  refine ⟨⟨fun i i0 i1 => ⟨w.1 i i0 i1, w.2.1 i i0 i1, w.2.2.1 i i0 i1⟩, W.1.1, W.1.2.1⟩, fun _ => ?_⟩
  show zVC (g 2 11) 165 g6 = zVC (g 2 11) 2 g
  funext k
  by_cases h : 264 ≤ k
  · rw [zVC_hi (T' := g 2 11) (r' := 2) (g := g6) h]
    exact zVC_hh (fun a i q => F a i (fun w => by unfold fr_World_copyFrom at w; omega)) h
  · by_cases r : zRw (g 2 11) k
    · exact zVC_wc W r
    · have nd := zdm_lo (by omega) r
      rw [zVC_no nd, zVC_no nd]
theorem zLc_g {g0 g : zi_M} {kd p w : Int} {x : Int → Int} (F : zk_fr fr_S_goes g0 g) (h : zGw g0 g) (p0 : 0 ≤ p) (p1 : p < 10) : zLc g 165 kd p w x = zLc g0 2 kd p w x := by
  have r : ∀ a : Nat, 20 ≤ a → a ≤ 26 → g a = g0 a := fun a h1 h2 => funext fun i => F a i (fun w => by unfold fr_S_goes at w; omega)
  obtain ⟨a, b, c⟩ := h.1 p p0 p1
  unfold zLc
  rw [r 20 (by decide) (by decide), r 21 (by decide) (by decide), r 22 (by decide) (by decide), r 23 (by decide) (by decide), r 24 (by decide) (by decide), r 25 (by decide) (by decide), r 26 (by decide) (by decide), zfct_eq (A := g (165 + 1)) (B := g (165 + 2)) (C := g (165 + 3)) (A' := g0 (2 + 1)) (B' := g0 (2 + 2)) (C' := g0 (2 + 3)) a b c]
theorem zCT_g {g0 g : zi_M} (I : zk_I g0) (F : zk_fr fr_S_goes g0 g) (h : zGw g0 g) (f : Int → Int) : zCY 165 g f = zCT g0 f := by
  have b8 : (0 : Int) ≤ g0 2 8 ∧ g0 2 8 ≤ 10 := I.1 2 8
  have r : ∀ a : Nat, 29 ≤ a → a ≤ 35 → g a = g0 a := fun a h1 h2 => funext fun i => F a i (fun w => by unfold fr_S_goes at w; omega)
  unfold zCY zCT
  rw [F 165 0 (fun w => by unfold fr_S_goes at w; omega), h.2.1, h.2.2, F 19 10 (fun w => by unfold fr_S_goes at w; omega), F 19 5 (fun w => by unfold fr_S_goes at w; omega), r 30 (by decide) (by decide), r 31 (by decide) (by decide), r 32 (by decide) (by decide), r 33 (by decide) (by decide), r 34 (by decide) (by decide), r 35 (by decide) (by decide)]
  exact zDY_c (fun kd p w x p0 p1 => zLc_g F h p0 (by omega)) (fun p p0 p1 => zeg_c (g := g) (g0 := g0) (fun i => congrFun (r 29 (by decide) (by decide)) i) p) (fun i _ _ => ⟨rfl, rfl, rfl, rfl⟩) (fun m _ _ => ⟨rfl, rfl⟩) f
theorem zGc_s {i : Int} {g0 g g11 : zi_M} (I : zk_I g0) (h : zGc i g0 g) (F : zk_fr fr_S_goes g0 g) (F7 : zk_fr (fr_DayRun_pass 165) g g11) (k : zPD 165 g g11) (i0 : 0 ≤ i) : zGc (i + 1) g0 g11 := by
  have f7 : ∀ (a : Nat) (i : Int), (166 ≤ a ∧ a ≤ 168) ∨ (a = 165 ∧ (i = 8 ∨ i = 11)) → g11 a i = g a i := fun a i q => F7 a i (fun w => by unfold fr_DayRun_pass at w; omega)
  refine ⟨⟨fun j j0 j1 => ?_, by rw [f7 165 8 (by omega)]; exact h.1.2.1, by rw [f7 165 11 (by omega)]; exact h.1.2.2⟩, fun v => ?_⟩
  · rw [f7 166 j (by omega), f7 167 j (by omega), f7 168 j (by omega)]
    exact h.1.1 j j0 j1
  · have v2 : zGv 165 g := fun j j0 j1 => by
      rw [F 29 j (fun w => by unfold fr_S_goes at w; omega), h.1.2.1]
      exact v j j0 j1
    have x := zPD_f k v2
    rw [h.1.2.2, h.2 v, zCT_g I F h.1] at x
    rw [x, show (i + 1).toNat = i.toNat + 1 by omega]
    rfl
theorem zGc_x {i n : Int} {g0 g : zi_M} (h : zGc i g0 g) (e : i = n) : zGc n g0 g := by
  rw [e] at h
  exact h
noncomputable def zGa (l v : Int) (g : zi_M) : Prop := (l = 0 → v = g 165 15) ∧ (l = 1 → v = g 165 16) ∧ (l = 2 → v = zhm (g 171) (g 165 8).toNat) ∧ (10 ≤ l → v = g 176 (l - 10))
theorem zGa_0 {l : Int} {g : zi_M} (h : l = 0) : zGa l (g 165 15) g := ⟨fun _ => rfl, fun q => by exfalso; omega, fun q => by exfalso; omega, fun q => by exfalso; omega⟩
theorem zGa_1 {l : Int} {g : zi_M} (h : l = 1) : zGa l (g 165 16) g := ⟨fun q => by exfalso; omega, fun _ => rfl, fun q => by exfalso; omega, fun q => by exfalso; omega⟩
theorem zGa_2 {l v : Int} {g : zi_M} (h : l = 2) (e : v = zhm (g 171) (g 165 8).toNat) : zGa l v g := ⟨fun q => by exfalso; omega, fun q => by exfalso; omega, fun _ => e, fun q => by exfalso; omega⟩
theorem zGa_j {l : Int} {g : zi_M} (h : 10 ≤ l) : zGa l (g 176 (l - 10)) g := ⟨fun q => by exfalso; omega, fun q => by exfalso; omega, fun q => by exfalso; omega, fun _ => rfl⟩
-- the reference
noncomputable def zMT (g : zi_M) : (Int → Int) → (Int → Int) := zDY 1 (zLm g) (zf g) (g 214 6) (g 214 7) (g 214 39) (fun n => g 234 (4 * n)) (fun n => g 234 (4 * n + 1)) (fun n => g 234 (4 * n + 2)) (fun n => g 234 (4 * n + 3)) (fun m => g 233 (2 * m)) (fun m => g 233 (2 * m + 1)) (g 214 37)
noncomputable def zNf (g0 g : zi_M) : Prop := (∀ (a : Nat) (i : Int), (218 ≤ a ∧ a ≤ 220) ∨ (224 ≤ a ∧ a ≤ 230) ∨ (232 ≤ a ∧ a ≤ 234) → g a i = g0 a i) ∧ g 214 6 = g0 214 6 ∧ g 214 7 = g0 214 7 ∧ g 214 37 = g0 214 37 ∧ g 214 39 = g0 214 39
theorem zNf_g {g0 g : zi_M} (F : zk_fr fr_M_goes g0 g) : zNf g0 g := ⟨fun a i h => F a i (fun w => by unfold fr_M_goes at w; omega), F 214 6 (fun w => by unfold fr_M_goes at w; omega), F 214 7 (fun w => by unfold fr_M_goes at w; omega), F 214 37 (fun w => by unfold fr_M_goes at w; omega), F 214 39 (fun w => by unfold fr_M_goes at w; omega)⟩
theorem zNf_o {g0 g : zi_M} (f : zNf g0 g) : zLm g = zLm g0 ∧ zf g = zf g0 ∧ (zLk g0 → zLk g) ∧ (zPv g0 → zPv g) := by
  have r3 : g 233 = g0 233 := funext fun i => f.1 233 i (by omega)
  have r4 : g 234 = g0 234 := funext fun i => f.1 234 i (by omega)
  exact ⟨zLm_c (f.1 224 0 (by omega)) (fun a i q => f.1 a i (by omega)), funext fun p => by unfold zf; rw [f.1 232 p (by omega)], fun k => zLk_c k (f.1 224 0 (by omega)) (fun a i q => f.1 a i (by omega)), fun v => ⟨fun n n0 n1 => by rw [f.2.1, f.2.2.1, r4]; exact v.1 n n0 (by rw [← f.2.2.2.2]; exact n1), fun m m0 m1 => by rw [r3]; exact v.2 m m0 (by rw [← f.2.2.2.1]; exact m1)⟩⟩
theorem zMT_f {g0 g : zi_M} (f : zNf g0 g) : zMT g = zMT g0 := by
  have o := zNf_o f
  have r3 : g 233 = g0 233 := funext fun i => f.1 233 i (by omega)
  have r4 : g 234 = g0 234 := funext fun i => f.1 234 i (by omega)
  unfold zMT
  rw [o.1, o.2.1, f.2.1, f.2.2.1, f.2.2.2.1, f.2.2.2.2, r3, r4]
theorem zMY_t {g0 g : zi_M} (f : zNf g0 g) (e : g 214 5 = 1) : zMY g = zMT g0 := by
  rw [← zMT_f f]
  unfold zMY zMT
  rw [e]
noncomputable def zGt (i : Int) (g0 g : zi_M) : Prop := g 214 5 = 1 ∧ (zLk g0 → zPv g0 → 0 ≤ g0 215 3 → 0 ≤ g 215 3 ∧ zVM (g0 214 7) g = zIt (zMT g0) i.toNat (zVM (g0 214 7) g0))
theorem zTh_5 {g5 g6 : zi_M} {v : Int} (e : g6 = zi_u g5 214 5 v) : g6 214 5 = v := by rw [e, zi_u_eq]
theorem zGt_0 {g0 g1 g9 : zi_M} {v : Int} (e : g1 = zi_u g0 214 0 v) (F : zk_fr fr_M_thinks g1 g9) (p : g9 214 5 = 1) : zGt 0 g0 g9 := ⟨p, fun _ _ r => by
  have f : ∀ (a : Nat) (i : Int), (a = 215 ∨ a = 221 ∨ a = 237 ∨ a = 238 ∨ (a = 214 ∧ i = 43)) → g9 a i = g0 a i := fun a i h => by
    rw [F a i (fun w => by unfold fr_M_thinks at w; omega), e]
    unfold zi_u
    rw [if_neg (by omega)]
  refine ⟨by rw [f 215 3 (by omega)]; exact r, ?_⟩
  show zVM (g0 214 7) g9 = zVM (g0 214 7) g0
  exact zVM_c f⟩
theorem zGt_s {i : Int} {g0 g g14 : zi_M} (h : zGt i g0 g) (F : zk_fr fr_M_goes g0 g) (F9 : zk_fr fr_M_goesBy g g14) (q : zQD g g14) (i0 : 0 ≤ i) : zGt (i + 1) g0 g14 := ⟨by rw [F9 214 5 (fun w => by unfold fr_M_goesBy at w; omega)]; exact h.1, fun l v r => by
  have f := zNf_g F
  have o := zNf_o f
  obtain ⟨r4, a⟩ := h.2 l v r
  obtain ⟨x, r5⟩ := zQD_f q (o.2.2.1 l) (o.2.2.2 v) r4
  rw [f.2.2.1, a, zMY_t f h.1] at x
  refine ⟨r5, ?_⟩
  rw [x, show (i + 1).toNat = i.toNat + 1 by omega]
  rfl⟩
theorem zGt_x {i n : Int} {g0 g : zi_M} (h : zGt i g0 g) (e : i = n) : zGt n g0 g := by
  rw [e] at h
  exact h
noncomputable def zMJ (n : Int) (g0 g : zi_M) : Prop := zTq g0 g ∧ zGt n g0 g
noncomputable def zGM (n l v : Int) (g0 g : zi_M) : Prop := zLk g0 → zPv g0 → 0 ≤ g0 215 3 → (∀ k : Int, 264 ≤ k → zVM (g0 214 7) g k = zIt (zMT g0) n.toNat (zVM (g0 214 7) g0) k) ∧ (l = 0 → v = zIt (zMT g0) n.toNat (zVM (g0 214 7) g0) 4) ∧ (l = 1 → v = zIt (zMT g0) n.toNat (zVM (g0 214 7) g0) 5) ∧ (l = 2 → v = zhm (fun i => zIt (zMT g0) n.toNat (zVM (g0 214 7) g0) (26 + i)) (g0 214 6).toNat) ∧ (10 ≤ l ∧ l ≤ 15 → v = zIt (zMT g0) n.toNat (zVM (g0 214 7) g0) (258 + (l - 10)))
theorem zGM_of {n l v : Int} {g0 g23 g27 : zi_M} (I : zk_I g0) (J : zMJ n g0 g23) (F : zk_fr fr_M_goes g0 g23) (F7 : zk_fr fr_M_endsThought g23 g27) (h0 : l = 0 → v = g23 215 4) (h1 : l = 1 → v = g23 215 5) (h2 : l = 2 → v = zhm (fun i => g23 215 (26 + i)) (g23 214 6).toNat) (hj : 10 ≤ l → v = g23 215 ((258 + l) - 10)) : zGM n l v g0 g27 := fun lk pv r => by
  obtain ⟨-, a⟩ := J.2.2 lk pv r
  have b6 : (0 : Int) ≤ g0 214 6 ∧ g0 214 6 ≤ 10 := I.1 214 6
  rw [← a]
  refine ⟨fun k hk => zVM_hc2 (fun a i q => F7 a i (fun w => by unfold fr_M_endsThought at w; omega)) hk, fun q => ?_, fun q => ?_, fun q => ?_, fun q => ?_⟩
  · rw [h0 q, zVM_r ⟨by decide, by decide⟩ (by omega)]
  · rw [h1 q, zVM_r ⟨by decide, by decide⟩ (by omega)]
  · rw [h2 q, (zNf_g F).2.1]
    exact zhm_c _ (fun i i0 i1 => by rw [zVM_r ⟨by omega, by omega⟩ (by omega)])
  · rw [hj (by omega), zVM_r ⟨by omega, by omega⟩ (by omega), show 258 + l - 10 = 258 + (l - 10) by omega]
theorem zMJ_q {n : Int} {g0 g : zi_M} (h : zMJ n g0 g) : zTq g0 g := h.1
theorem zTj_5 {g g1 : zi_M} {v : Int} (e : g1 = zi_u g 214 0 v) (h : g 214 5 = 0) : g1 214 5 = 0 := by rw [e, zi_u_ni (by decide)]; exact h
theorem zMJ_i {n : Int} {g0 g : zi_M} (h : zTq g0 g) (k : zGt n g0 g) : zMJ n g0 g := ⟨h, k⟩
-- ways that can't be taken
section
variable {l1 l2 l a b v : Int}
theorem zck_a (h : l1 < 1) (hx : 1 ≤ l1 ∧ l1 ≤ 60 ∧ ((0 ≤ l2 ∧ l2 ≤ 2) ∨ (10 ≤ l2 ∧ l2 ≤ 15))) : False := by omega
theorem zck_b (h : 60 < l1) (hx : 1 ≤ l1 ∧ l1 ≤ 60 ∧ ((0 ≤ l2 ∧ l2 ≤ 2) ∨ (10 ≤ l2 ∧ l2 ≤ 15))) : False := by omega
theorem zck_c (h : ¬ (0 ≤ l2 ∧ l2 ≤ 2)) (k : ¬ (10 ≤ l2 ∧ l2 ≤ 15)) (hx : 1 ≤ l1 ∧ l1 ≤ 60 ∧ ((0 ≤ l2 ∧ l2 ≤ 2) ∨ (10 ≤ l2 ∧ l2 ≤ 15))) : False := hx.2.2.elim h k
theorem zck_d (h : 0 ≤ l2 ∧ l2 ≤ 2) (k : l2 < 0 ∨ 2 < l2) : False := by omega
theorem zck_e (h : 10 ≤ l2 ∧ l2 ≤ 15) (k : l2 = a) (n : a < 10) : False := by omega
theorem zck_f (h : ¬ (1 ≤ l1 ∧ l1 ≤ 60)) (hx : 1 ≤ l1 ∧ l1 ≤ 60 ∧ ((0 ≤ l2 ∧ l2 ≤ 2) ∨ (10 ≤ l2 ∧ l2 ≤ 15))) : False := h ⟨hx.1, hx.2.1⟩
theorem zck_g (h : 1 ≤ l1 ∧ l1 ≤ 60) (k : (0 ≤ l2 ∧ l2 ≤ 2) ∨ (10 ≤ l2 ∧ l2 ≤ 15)) (hx : ¬ (1 ≤ l1 ∧ l1 ≤ 60 ∧ ((0 ≤ l2 ∧ l2 ≤ 2) ∨ (10 ≤ l2 ∧ l2 ≤ 15)))) : False := hx ⟨h.1, h.2, k⟩
theorem zck_h (h : 10 ≤ l2) (k : l2 = a) (n : a < 10) : False := by omega
theorem zin_y (h1 : l < a → v = 0) (h2 : a ≤ l → b < l → v = 0) (c : ¬ v = 0) : a ≤ l ∧ l ≤ b := by
  by_cases p : l < a
  · exact absurd (h1 p) c
  · by_cases q : b < l
    · exact absurd (h2 (by omega) q) c
    · exact ⟨by omega, by omega⟩
theorem zin_n (h3 : a ≤ l → l ≤ b → v = 1) (c : v = 0) : ¬ (a ≤ l ∧ l ≤ b) := fun ⟨p, q⟩ => by
  have := h3 p q
  omega
theorem zq_ab (h : l = a) (q : l = b) (n : ¬ a = b) : False := n (h.symm.trans q)
end
