-- A DAY leaves most of the day's own row alone: day, rain, what sitters know, where they sit
noncomputable def zC0 (k : Int) : Prop := k = 0 ∨ k = 3 ∨ (236 ≤ k ∧ k < 252)
noncomputable def zBd (f : Int → Int) : Prop := 0 ≤ f 2 ∧ (∀ p : Int, 0 ≤ p → p ≤ 9 → 0 ≤ f (26 + p) ∧ f (26 + p) ≤ 20) ∧ 0 ≤ f 2000 ∧ ∀ j : Int, 0 ≤ j → j < f 2000 → 0 ≤ f (2001 + j) ∧ f (2001 + j) ≤ 9
noncomputable def zBK (f f' : Int → Int) : Prop := zBd f' ∧ f 2000 ≤ f' 2000 ∧ ∀ k : Int, zC0 k → f' k = f k
noncomputable def zBH (f f' : Int → Int) : Prop := zBK f f' ∧ ∀ p : Int, 0 ≤ p → p ≤ 9 → f' (26 + p) = f (26 + p)
theorem zBK_0 {f : Int → Int} (b : zBd f) : zBK f f := ⟨b, Int.le_refl _, fun _ _ => rfl⟩
theorem zBH_0 {f : Int → Int} (b : zBd f) : zBH f f := ⟨zBK_0 b, fun _ _ _ => rfl⟩
theorem zBK_t {f x y : Int → Int} (a : zBK f x) (b : zBK x y) : zBK f y := ⟨b.1, Int.le_trans a.2.1 b.2.1, fun k h => by rw [b.2.2 k h, a.2.2 k h]⟩
theorem zBH_t {f x y : Int → Int} (a : zBH f x) (b : zBH x y) : zBH f y := ⟨zBK_t a.1 b.1, fun p p0 p1 => by rw [b.2 p p0 p1, a.2 p p0 p1]⟩
theorem zBK_i {f x y : Int → Int} {P : Prop} (a : P → zBK f x) (b : ¬ P → zBK f y) : zBK f (zite P x y) := by
  by_cases h : P
  · rw [zite_p h]; exact a h
  · rw [zite_n h]; exact b h
theorem zBH_i {f x y : Int → Int} {P : Prop} (a : P → zBH f x) (b : ¬ P → zBH f y) : zBH f (zite P x y) := by
  by_cases h : P
  · rw [zite_p h]; exact a h
  · rw [zite_n h]; exact b h
theorem zBH_u {f : Int → Int} {k v : Int} (b : zBd f) (hk : k = 1 ∨ (4 ≤ k ∧ k < 26) ∨ (36 ≤ k ∧ k < 236) ∨ (252 ≤ k ∧ k < 2000) ∨ 2101 ≤ k) (c : k < 2000 ∨ f 2000 ≤ 90) : zBH f (zup f k v) := by
  obtain ⟨b1, b2, b3, b4⟩ := b
  have e : ∀ j : Int, ¬ j = k → zup f k v j = f j := fun j h => zup_n h
  refine ⟨⟨⟨?_, fun p p0 p1 => ?_, ?_, fun j j0 j1 => ?_⟩, ?_, fun j h => ?_⟩, fun p p0 p1 => ?_⟩
  · rw [e 2 (by omega)]; exact b1
  · rw [e (26 + p) (by omega)]; exact b2 p p0 p1
  · rw [e 2000 (by omega)]; exact b3
  · rw [e 2000 (by omega)] at j1
    rw [e (2001 + j) (by omega)]; exact b4 j j0 j1
  · rw [e 2000 (by omega)]; exact Int.le_refl _
  · unfold zC0 at h
    exact e j (by omega)
  · exact e (26 + p) (by omega)
theorem zBH_2 {f : Int → Int} {v : Int} (b : zBd f) (hv : 0 ≤ v) : zBH f (zup f 2 v) := by
  obtain ⟨b1, b2, b3, b4⟩ := b
  have e : ∀ j : Int, ¬ j = 2 → zup f 2 v j = f j := fun j h => zup_n h
  refine ⟨⟨⟨?_, fun p p0 p1 => ?_, ?_, fun j j0 j1 => ?_⟩, ?_, fun j h => ?_⟩, fun p p0 p1 => ?_⟩
  · rw [zup_e]; exact hv
  · rw [e (26 + p) (by omega)]; exact b2 p p0 p1
  · rw [e 2000 (by omega)]; exact b3
  · rw [e 2000 (by omega)] at j1
    rw [e (2001 + j) (by omega)]; exact b4 j j0 j1
  · rw [e 2000 (by omega)]; exact Int.le_refl _
  · unfold zC0 at h
    exact e j (by omega)
  · exact e (26 + p) (by omega)
theorem zBK_h {f : Int → Int} {p v : Int} (b : zBd f) (hp : 0 ≤ p ∧ p ≤ 9) (hv : 0 ≤ v ∧ v ≤ 20) : zBK f (zup f (26 + p) v) := by
  obtain ⟨b1, b2, b3, b4⟩ := b
  have e : ∀ j : Int, ¬ j = 26 + p → zup f (26 + p) v j = f j := fun j h => zup_n h
  refine ⟨⟨?_, fun q p0 p1 => ?_, ?_, fun j j0 j1 => ?_⟩, ?_, fun j h => ?_⟩
  · rw [e 2 (by omega)]; exact b1
  · by_cases c : q = p
    · rw [c, zup_e]; exact hv
    · rw [e (26 + q) (by omega)]; exact b2 q p0 p1
  · rw [e 2000 (by omega)]; exact b3
  · rw [e 2000 (by omega)] at j1
    rw [e (2001 + j) (by omega)]; exact b4 j j0 j1
  · rw [e 2000 (by omega)]; exact Int.le_refl _
  · unfold zC0 at h
    exact e j (by omega)
theorem zBH_nt {th a b c : Int} {f : Int → Int} (d : zBd f) : zBH f (zNt th f a b c) := by
  unfold zNt
  refine zBH_i (fun h => ?_) (fun _ => zBH_0 d)
  have d1 := d.1
  unfold zNb
  have e1 := zBH_u (k := 1000 + 4 * f 2) (v := f 0) d (by omega) (by omega)
  have e2 := zBH_t e1 (zBH_u (k := 1001 + 4 * f 2) (v := a) e1.1.1 (by omega) (by omega))
  have e3 := zBH_t e2 (zBH_u (k := 1002 + 4 * f 2) (v := b) e2.1.1 (by omega) (by omega))
  have e4 := zBH_t e3 (zBH_u (k := 1003 + 4 * f 2) (v := c) e3.1.1 (by omega) (by omega))
  exact zBH_t e4 (zBH_2 e4.1.1 (by omega))
theorem zBK_nr {p w : Int} {f : Int → Int} (d : zBd f) (hp : 0 ≤ p ∧ p ≤ 9) (c : f (26 + p) < 20) : zBK f (zInr f p w) := by
  unfold zInr
  have q := d.2.1 p hp.1 hp.2
  have e1 := zBH_u (k := 36 + 20 * p + f (26 + p)) (v := w) d (by omega) (by omega)
  exact zBK_t e1.1 (zBK_h e1.1.1 hp (by omega))
theorem zBK_ls {th p ws : Int} (hp : 0 ≤ p ∧ p ≤ 9) : ∀ (k : Nat) (w n : Int) (f : Int → Int), zBd f → zBK f (zls th p ws k w n f)
  | 0, _, _, f, d => zBK_0 d
  | k + 1, w, n, f, d => by
    show zBK f (zite _ _ _)
    refine zBK_i (fun h => ?_) (fun _ => zBK_ls hp k (w + 1) n f d)
    have e1 := zBK_nr (w := w) d hp h.2.2.1
    have e2 := zBK_t e1 (zBH_nt (th := th) (a := 0) (b := p) (c := w) e1.1).1
    exact zBK_t e2 (zBK_ls hp k (w + 1) (n - 1) _ e2.1)
theorem zBK_dT {th p : Int} {LW : Int → Int → Int → (Int → Int) → Int} {f : Int → Int} (d : zBd f) (hp : 0 ≤ p ∧ p ≤ 9) : ∀ n : Nat, zBK f (zdT th LW p n f)
  | 0 => zBK_0 d
  | n + 1 => by
    have ih := zBK_dT (th := th) (LW := LW) d hp n
    show zBK f (zite _ _ _)
    exact zBK_i (fun _ => zBK_t ih (zBK_ls hp _ _ _ _ ih.1)) (fun _ => ih)
theorem zBK_dy {th : Int} {LW : Int → Int → Int → (Int → Int) → Int} {T : Nat} {f : Int → Int} (d : zBd f) : ∀ n : Nat, n ≤ 10 → zBK f (zdy th LW T n f)
  | 0, _ => zBK_0 d
  | n + 1, h => by
    have ih := zBK_dy (th := th) (LW := LW) (T := T) d n (by omega)
    show zBK f (zdp th LW T (n : Int) (zdy th LW T n f))
    unfold zdp
    have e := zBK_t ih (zBK_dT (th := th) (LW := LW) (p := (n : Int)) ih.1 (by omega) T)
    exact zBK_t e (zBH_u e.1 (by omega) (by omega)).1
theorem zBH_jr {p w : Int} {f : Int → Int} (d : zBd f) : ∀ n : Nat, n ≤ 6 → zBH f (zjr p w n f)
  | 0, _ => zBH_0 d
  | n + 1, h => by
    have ih := zBH_jr (p := p) (w := w) d n (by omega)
    show zBH f (zite _ _ _)
    exact zBH_i (fun _ => zBH_t ih (zBH_u ih.1.1 (by omega) (by omega))) (fun _ => ih)
theorem zBH_sf {th s : Int} {f : Int → Int} (d : zBd f) : zBH f (zsf th s f) := by
  have e : zBH f (zsd th f) := by
    unfold zsd
    exact zBH_i (fun _ => zBH_u d (by omega) (by omega)) (fun _ => zBH_0 d)
  unfold zsf
  exact zBH_i (fun _ => zBH_t e (zBH_u e.1.1 (by omega) (by omega))) (fun _ => e)
theorem zBH_wt {i w : Int} {f : Int → Int} (d : zBd f) (hi : -1 ≤ i ∧ i ≤ 9) : zBH f (zwt i w f) := by
  unfold zwt
  refine zBH_i (fun h => ?_) (fun _ => zBH_0 d)
  obtain ⟨b1, b2, b3, b4⟩ := d
  obtain ⟨h1, h2⟩ := h
  have e : ∀ j : Int, ¬ j = 2101 + f 2000 → ¬ j = 2001 + f 2000 → ¬ j = 2000 → zup (zup (zup f (2101 + f 2000) w) (2001 + f 2000) i) 2000 (f 2000 + 1) j = f j := fun j h1 h2 h3 => by rw [zup_n h3, zup_n h2, zup_n h1]
  refine ⟨⟨⟨?_, fun p p0 p1 => ?_, ?_, fun j j0 j1 => ?_⟩, ?_, fun j h => ?_⟩, fun p p0 p1 => ?_⟩
  · rw [e 2 (by omega) (by omega) (by omega)]; exact b1
  · rw [e (26 + p) (by omega) (by omega) (by omega)]; exact b2 p p0 p1
  · rw [zup_e]; omega
  · rw [zup_e] at j1
    by_cases c : j = f 2000
    · rw [c, zup_n (by omega), zup_e]; omega
    · rw [e (2001 + j) (by omega) (by omega) (by omega)]; exact b4 j j0 (by omega)
  · rw [zup_e]; omega
  · unfold zC0 at h
    exact e j (by omega) (by omega) (by omega)
  · exact e (26 + p) (by omega) (by omega) (by omega)
theorem zBK_df {p : Int} {f : Int → Int} (d : zBd f) (hp : 0 ≤ p ∧ p ≤ 9) (c : 1 ≤ f (26 + p)) : zBK f (zdf p f) ∧ zdf p f (26 + p) = f (26 + p) - 1 := by
  obtain ⟨b1, b2, b3, b4⟩ := d
  have q := b2 p hp.1 hp.2
  have e : ∀ j : Int, ¬ (36 ≤ j ∧ j < 236) → ¬ j = 26 + p → zdf p f j = f j := fun j h1 h2 => by
    unfold zdf
    rw [zite_n (by omega), zite_n h2]
  have e26 : zdf p f (26 + p) = f (26 + p) - 1 := by
    unfold zdf
    rw [zite_n (by omega), zite_p rfl]
  refine ⟨⟨⟨?_, fun r p0 p1 => ?_, ?_, fun j j0 j1 => ?_⟩, ?_, fun j h => ?_⟩, e26⟩
  · rw [e 2 (by omega) (by omega)]; exact b1
  · by_cases c : r = p
    · rw [c, e26]; omega
    · rw [e (26 + r) (by omega) (by omega)]; exact b2 r p0 p1
  · rw [e 2000 (by omega) (by omega)]; exact b3
  · rw [e 2000 (by omega) (by omega)] at j1
    rw [e (2001 + j) (by omega) (by omega)]; exact b4 j j0 j1
  · rw [e 2000 (by omega) (by omega)]; exact Int.le_refl _
  · unfold zC0 at h
    exact e j (by omega) (by omega)
theorem zBK_sy {th p : Int} {LW : Int → Int → Int → (Int → Int) → Int} {G : Int → Int} {f : Int → Int} (d : zBd f) (hp : 0 ≤ p ∧ p ≤ 9) (hG : ∀ p : Int, 0 ≤ p → p ≤ 9 → -1 ≤ G p ∧ G p ≤ 9) (c : 1 ≤ f (26 + p)) : zBK f (zsy th LW G p f) ∧ zsy th LW G p f (26 + p) = f (26 + p) - 1 := by
  unfold zsy zsb
  generalize zsw th (LW 2 p (f (36 + 20 * p)) f) (f (36 + 20 * p)) f = w
  generalize LW 2 p (f (36 + 20 * p)) f = s
  have e1 := zBH_sf (th := th) (s := s) d
  generalize zsf th s f = x at e1
  have e2 := zBH_t e1 (zBH_u (k := 4) (v := zi_w (x 4 + 1)) e1.1.1 (by omega) (by omega))
  have e3 := zBH_t e2 (zBH_jr (p := p) (w := w) e2.1.1 6 (by omega))
  have e4 := zBH_t e3 (zBH_nt (th := th) (a := 1) (b := p) (c := w) e3.1.1)
  have e5 := zBH_t e4 (zBH_wt (i := G p) (w := w) e4.1.1 (hG p hp.1 hp.2))
  have q := e5.2 p hp.1 hp.2
  have e6 := zBK_df (p := p) e5.1.1 hp (by rw [q]; exact c)
  exact ⟨zBK_t e5.1 e6.1, by rw [e6.2, q]⟩
theorem zBK_sn {th p : Int} {LW : Int → Int → Int → (Int → Int) → Int} {G : Int → Int} {f : Int → Int} (d : zBd f) (hp : 0 ≤ p ∧ p ≤ 9) (hG : ∀ p : Int, 0 ≤ p → p ≤ 9 → -1 ≤ G p ∧ G p ≤ 9) : ∀ n : Nat, (n : Int) ≤ f (26 + p) → zBK f (zsn th LW G p n f) ∧ zsn th LW G p n f (26 + p) = f (26 + p) - n
  | 0, _ => ⟨zBK_0 d, by show f (26 + p) = _; omega⟩
  | n + 1, h => by
    have ih := zBK_sn (th := th) (LW := LW) d hp hG n (by omega)
    show zBK f (zsy th LW G p (zsn th LW G p n f)) ∧ zsy th LW G p (zsn th LW G p n f) (26 + p) = _
    have e := zBK_sy (th := th) (LW := LW) ih.1.1 hp hG (by rw [ih.2]; omega)
    exact ⟨zBK_t ih.1 e.1, by rw [e.2, ih.2]; omega⟩
theorem zBK_wp {th : Int} {LW : Int → Int → Int → (Int → Int) → Int} {G : Int → Int} {f : Int → Int} (d : zBd f) (hG : ∀ p : Int, 0 ≤ p → p ≤ 9 → -1 ≤ G p ∧ G p ≤ 9) : ∀ n : Nat, n ≤ 10 → zBK f (zwp th LW G n f)
  | 0, _ => zBK_0 d
  | n + 1, h => by
    have ih := zBK_wp (th := th) (LW := LW) d hG n (by omega)
    show zBK f (zite _ _ _)
    refine zBK_i (fun _ => ?_) (fun _ => ih)
    have q := ih.1.2.1 (n : Int) (by omega) (by omega)
    exact zBK_t ih (zBK_sn ih.1 (by omega) hG _ (by omega)).1
theorem zBK_lD {th : Int} {f : Int → Int} (d : zBd f) : ∀ n : Nat, (n : Int) ≤ f 2000 → zBK f (zlD th n f)
  | 0, _ => zBK_0 d
  | n + 1, h => by
    have ih := zBK_lD (th := th) d n (by omega)
    show zBK f (zite _ _ _)
    refine zBK_i (fun c => ?_) (fun _ => ih)
    have b := ih.1.2.2.2 (n : Int) (by omega) (by have := ih.2.1; omega)
    have e := zBK_t ih (zBK_nr (w := zlD th n f (2101 + (n : Int))) ih.1 b c.2.1)
    exact zBK_t e (zBH_nt e.1).1
theorem zBK_dz {f : Int → Int} (d : zBd f) : ∀ n : Nat, n ≤ 10 → zBK f (zdz n f)
  | 0, _ => zBK_0 d
  | n + 1, h => by
    have ih := zBK_dz d n (by omega)
    exact zBK_t ih (zBH_u ih.1 (by omega) (by omega)).1
noncomputable def zBW2 (f f' : Int → Int) : Prop := zBd f' ∧ ∀ k : Int, zC0 k → f' k = f k
theorem zBK_wy {th : Int} {LW : Int → Int → Int → (Int → Int) → Int} {G : Int → Int} {S : Nat} {f : Int → Int} (d : zBd f) (hS : S ≤ 10) (hG : ∀ p : Int, 0 ≤ p → p ≤ 9 → -1 ≤ G p ∧ G p ≤ 9) : zBW2 f (zwy th LW G S f) := by
  obtain ⟨b1, b2, b3, b4⟩ := d
  have e : ∀ j : Int, ¬ j = 2000 → zup f 2000 0 j = f j := fun j h => zup_n h
  have d0 : zBd (zup f 2000 0) := ⟨by rw [e 2 (by omega)]; exact b1, fun p p0 p1 => by rw [e (26 + p) (by omega)]; exact b2 p p0 p1, by rw [zup_e]; exact Int.le_refl _, fun j j0 j1 => by rw [zup_e] at j1; omega⟩
  unfold zwy zwl
  have e1 := zBK_wp (th := th) (LW := LW) d0 hG S hS
  generalize zwp th LW G S (zup f 2000 0) = x at e1
  have e2 := zBK_t e1 (zBK_lD (th := th) e1.1 (x 2000).toNat (by have := e1.1.2.2.1; omega))
  have e3 := zBK_t e2 (zBK_dz e2.1 S hS)
  exact ⟨e3.1, fun k h => by rw [e3.2.2 k h]; unfold zC0 at h; exact e k (by omega)⟩
theorem zBK_dw {th : Int} {LW : Int → Int → Int → (Int → Int) → Int} {G : Int → Int} {S T : Nat} {f : Int → Int} (d : zBd f) (hS : S ≤ 10) (hG : ∀ p : Int, 0 ≤ p → p ≤ 9 → -1 ≤ G p ∧ G p ≤ 9) : zBW2 f (zdw th LW G S T f) := by
  unfold zdw
  by_cases h : f 3 = 0
  · rw [zite_p h]
    have e := zBK_dy (th := th) (LW := LW) (T := T) d S hS
    exact ⟨e.1, e.2.2⟩
  · rw [zite_n h]
    exact zBK_wy d hS hG
/-- where a change of C0 or far from what is counted is allowed -/
theorem zBd_u {f : Int → Int} {k v : Int} (b : zBd f) (hk : k < 2 ∨ (2 < k ∧ k < 26) ∨ (36 ≤ k ∧ k < 2000)) : zBd (zup f k v) := by
  obtain ⟨b1, b2, b3, b4⟩ := b
  have e : ∀ j : Int, ¬ j = k → zup f k v j = f j := fun j h => zup_n h
  refine ⟨?_, fun p p0 p1 => ?_, ?_, fun j j0 j1 => ?_⟩
  · rw [e 2 (by omega)]; exact b1
  · rw [e (26 + p) (by omega)]; exact b2 p p0 p1
  · rw [e 2000 (by omega)]; exact b3
  · rw [e 2000 (by omega)] at j1
    rw [e (2001 + j) (by omega)]; exact b4 j j0 j1
theorem zBd_ac {S T d w x : Int} {f : Int → Int} (v : zPa S T d w x) (hS : S ≤ 10) (hT : T ≤ 8) (b : zBd f) : zBd (zAc f d w x) := by
  have z := zPa_d v
  unfold zAc
  repeat (first | exact zBd_u b (by omega) | exact b | split)
/-- both rows alike there -/
noncomputable def zEq (f f' : Int → Int) : Prop := ∀ k : Int, zC0 k → f k = f' k
theorem zEq_u {f f' : Int → Int} {k v v' : Int} (h : zEq f f') (e : v = v' ∨ ¬ zC0 k) : zEq (zup f k v) (zup f' k v') := fun j hj => by
  by_cases c : j = k
  · rcases e with e | e
    · rw [c, zup_e, zup_e, e]
    · exact absurd (c ▸ hj) e
  · rw [zup_n c, zup_n c]; exact h j hj
theorem zEq_ac {S T d w x : Int} {f f' : Int → Int} (v : zPa S T d w x) (hS : S ≤ 10) (hT : T ≤ 8) (h : zEq f f') : zEq (zAc f d w x) (zAc f' d w x) := by
  have z := zPa_d v
  unfold zAc
  by_cases c6 : d = 6
  · subst c6
    rw [if_neg (by decide), if_neg (by decide), if_neg (by decide), if_neg (by decide), if_neg (by decide), if_neg (by decide), if_pos rfl, if_neg (by decide), if_neg (by decide), if_neg (by decide), if_neg (by decide), if_neg (by decide), if_neg (by decide), if_pos rfl]
    exact zEq_u h (Or.inl (by rw [h (236 + w) (by unfold zC0; omega)]))
  · repeat (first | exact zEq_u h (Or.inl rfl) | exact h | exact absurd (by assumption) c6 | split)
theorem zEq_pn {S T : Int} {PD PA PB PC PD' PA' PB' PC' : Int → Int} {f f' : Int → Int} (hS : S ≤ 10) (hT : T ≤ 8) (h : zEq f f') (b : zBd f) (b' : zBd f') : ∀ n : Nat, (∀ i : Int, 0 ≤ i → i < n → PD i = PD' i ∧ PA i = PA' i ∧ PB i = PB' i ∧ PC i = PC' i) → zEq (zpn S T PD PA PB PC n f) (zpn S T PD' PA' PB' PC' n f') ∧ zBd (zpn S T PD PA PB PC n f) ∧ zBd (zpn S T PD' PA' PB' PC' n f')
  | 0, _ => ⟨h, b, b'⟩
  | n + 1, q => by
    obtain ⟨i1, i2, i3⟩ := zEq_pn hS hT h b b' n (fun i i0 i1 => q i i0 (by omega))
    obtain ⟨q1, q2, q3, q4⟩ := q (n : Int) (by omega) (by omega)
    show zEq (zite _ _ _) (zite _ _ _) ∧ zBd (zite _ _ _) ∧ zBd (zite _ _ _)
    rw [← q1, ← q2, ← q3, ← q4, ← i1 0 (Or.inl rfl)]
    by_cases c : PD (n : Int) = zpn S T PD PA PB PC n f 0 ∧ zPa S T (PA (n : Int)) (PB (n : Int)) (PC (n : Int))
    · rw [zite_p c, zite_p c]
      exact ⟨zEq_ac c.2 hS hT i1, zBd_ac c.2 hS hT i2, zBd_ac c.2 hS hT i3⟩
    · rw [zite_n c, zite_n c]
      exact ⟨i1, i2, i3⟩
theorem zEq_DY {th th' : Int} {LW LW' : Int → Int → Int → (Int → Int) → Int} {G G' : Int → Int} {S T pn wn : Int} {PD PA PB PC WD WR PD' PA' PB' PC' WD' WR' : Int → Int} {f f' : Int → Int} (hS : S ≤ 10) (hT : T ≤ 8) (h : zEq f f') (b : zBd f) (b' : zBd f')
    (hG : ∀ p : Int, 0 ≤ p → p ≤ 9 → -1 ≤ G p ∧ G p ≤ 9) (hG' : ∀ p : Int, 0 ≤ p → p ≤ 9 → -1 ≤ G' p ∧ G' p ≤ 9) (hP : ∀ i : Int, 0 ≤ i → i < pn → PD i = PD' i ∧ PA i = PA' i ∧ PB i = PB' i ∧ PC i = PC' i) (hW : ∀ m : Int, 0 ≤ m → m < wn → WD m = WD' m ∧ WR m = WR' m) :
    zEq (zDY th LW G S T pn PD PA PB PC WD WR wn f) (zDY th' LW' G' S T pn PD' PA' PB' PC' WD' WR' wn f') ∧ zBd (zDY th LW G S T pn PD PA PB PC WD WR wn f) ∧ zBd (zDY th' LW' G' S T pn PD' PA' PB' PC' WD' WR' wn f') := by
  obtain ⟨i1, i2, i3⟩ := zEq_pn (PD := PD) (PA := PA) (PB := PB) (PC := PC) (PD' := PD') (PA' := PA') (PB' := PB') (PC' := PC') hS hT h b b' pn.toNat (fun i i0 i1 => hP i i0 (by omega))
  unfold zDY
  rw [zwv_c hW, i1 0 (Or.inl rfl)]
  generalize zpn S T PD PA PB PC pn.toNat f = x at *
  generalize zpn S T PD' PA' PB' PC' pn.toNat f' = x' at *
  generalize zwv WD' WR' wn (x' 0) = w
  have j1 : zEq (zwr w x) (zwr w x') ∧ zBd (zwr w x) ∧ zBd (zwr w x') := by
    unfold zwr
    by_cases c : ¬ w = -1
    · rw [zite_p c, zite_p c]
      exact ⟨zEq_u i1 (Or.inl rfl), zBd_u i2 (by omega), zBd_u i3 (by omega)⟩
    · rw [zite_n c, zite_n c]
      exact ⟨i1, i2, i3⟩
  obtain ⟨k1, k2⟩ := zBK_dw (th := th) (LW := LW) (S := S.toNat) (T := T.toNat) j1.2.1 (by omega) hG
  obtain ⟨m1, m2⟩ := zBK_dw (th := th') (LW := LW') (S := S.toNat) (T := T.toNat) j1.2.2 (by omega) hG'
  have y : zEq (zdw th LW G S.toNat T.toNat (zwr w x)) (zdw th' LW' G' S.toNat T.toNat (zwr w x')) := fun k hk => by rw [k2 k hk, m2 k hk]; exact j1.1 k hk
  unfold zde
  exact ⟨zEq_u y (Or.inl (by rw [y 0 (Or.inl rfl)])), zBd_u k1 (by omega), zBd_u m1 (by omega)⟩
