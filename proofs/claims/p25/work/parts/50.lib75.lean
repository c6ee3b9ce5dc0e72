-- WHO can have told: what gutters lead through
noncomputable def zOc (c : Int → Int) (q j : Int) : Prop := ∃ i : Nat, i < 10 ∧ zit c i q = j
noncomputable def zOr (f : Int → Int) (q j : Int) : Prop := ∃ i : Nat, (∀ m : Nat, m ≤ i → zit f m q ≠ -1) ∧ zit f i q = j
noncomputable def zMi (f : Int → Int) (p s a : Int) : Prop := ∃ n : Nat, zBr s ∧ (∀ i : Nat, i < n → zit f i p ≠ -1) ∧ (∀ j : Int, 0 ≤ j → (zB_ s j ↔ ∃ i : Nat, i < n ∧ zit f i p = j)) ∧ a = zit f n p
noncomputable def zMp (f : Int → Int) (p s : Int) : Prop := ∃ n : Nat, zBr s ∧ (∀ i : Nat, i < n → zit f i p ≠ -1) ∧ (∀ j : Int, 0 ≤ j → (zB_ s j ↔ ∃ i : Nat, i < n ∧ zit f i p = j)) ∧ (zit f n p = -1 ∨ ∃ i : Nat, i < n ∧ zit f n p = zit f i p)
theorem zMi_0 {f : Int → Int} {p : Int} : zMi f p 0 p := ⟨0, ⟨by decide, by decide⟩, fun i hi => absurd hi (Nat.not_lt_zero i), fun j _ => ⟨fun h => absurd h (zB_0 j), fun ⟨i, hi, _⟩ => absurd hi (Nat.not_lt_zero i)⟩, rfl⟩
theorem zMi_s {f : Int → Int} {p s a v : Int} (h : zMi f p s a) (ne : ¬ a = -1) (b : -1 ≤ a ∧ a ≤ 9) (e : v = f a) : zMi f p (zi_or s (zi_shl 1 a)) v := by
  obtain ⟨n, h1, h2, h3, h4⟩ := h
  refine ⟨n + 1, (zB_orN h1 (zB_shlN ⟨by omega, by omega⟩).1).1, fun i hi => ?_, fun j j0 => ?_, by rw [e, h4]; rfl⟩
  · by_cases q : i = n
    · rw [q, ← h4]; exact ne
    · exact h2 i (by omega)
  · rw [zB_add h1 ⟨by omega, by omega⟩ j0, h3 j j0]
    constructor
    · rintro (⟨i, hi, e⟩ | e)
      · exact ⟨i, by omega, e⟩
      · exact ⟨n, Nat.lt_succ_self n, by rw [← h4, e]⟩
    · rintro ⟨i, hi, e⟩
      by_cases q : i = n
      · exact Or.inr (by rw [← e, q, h4])
      · exact Or.inl ⟨i, by omega, e⟩
theorem zMi_e {f : Int → Int} {p s a : Int} (h : zMi f p s a) (e : a = -1) : zMp f p s := by
  obtain ⟨n, h1, h2, h3, h4⟩ := h
  exact ⟨n, h1, h2, h3, Or.inl (by rw [← h4]; exact e)⟩
theorem zMi_h {f : Int → Int} {p s a v : Int} (h : zMi f p s a) (b : -1 ≤ a ∧ a ≤ 9) (ne : ¬ a = -1) (hb : ¬ zi_and (zi_shr s a) 1 = 1 → v = 0) (c : ¬ v = 0) : zMp f p s := by
  obtain ⟨n, h1, h2, h3, h4⟩ := h
  have k : zi_and (zi_shr s a) 1 = 1 := Classical.byContradiction (fun q => c (hb q))
  obtain ⟨i, hi, e⟩ := (h3 a (by omega)).1 ((zB_has h1 ⟨by omega, by omega⟩).1 k)
  exact ⟨n, h1, h2, h3, Or.inr ⟨i, hi, by rw [← h4, e]⟩⟩
theorem zMp_o {f : Int → Int} {p s : Int} (h : zMp f p s) : zBr s ∧ ∀ j : Int, 0 ≤ j → (zB_ s j ↔ zOr f p j) := by
  obtain ⟨n, h1, h2, h3, h4⟩ := h
  refine ⟨h1, fun j j0 => ?_⟩
  rw [h3 j j0]
  have key : ∀ N i : Nat, i ≤ N → (∀ m : Nat, m ≤ i → zit f m p ≠ -1) → zit f i p = j → ∃ k : Nat, k < n ∧ zit f k p = j := by
    have step : ∀ i : Nat, (∀ m : Nat, m ≤ i → zit f m p ≠ -1) → zit f i p = j → (∃ k : Nat, k < n ∧ zit f k p = j) ∨ ∃ k : Nat, k < i ∧ zit f k p = j := fun i hm e => by
      by_cases q : i < n
      · exact Or.inl ⟨i, q, e⟩
      · rcases h4 with w | ⟨i0, h0, w⟩
        · exact absurd w (hm n (by omega))
        · refine Or.inr ⟨i - n + i0, by omega, ?_⟩
          rw [zit_add, ← w, ← zit_add, show i - n + n = i by omega]
          exact e
    intro N
    induction N with
    | zero =>
      intro i hi hm e
      rcases step i hm e with q | ⟨k, hk, _⟩
      · exact q
      · omega
    | succ N ih =>
      intro i hi hm e
      rcases step i hm e with q | ⟨k, hk, ek⟩
      · exact q
      · exact ih k (by omega) (fun m h => hm m (by omega)) ek
  exact ⟨fun ⟨i, hi, e⟩ => ⟨i, fun m hm => h2 m (by omega), e⟩, fun ⟨i, hi, e⟩ => key i i (Nat.le_refl i) hi e⟩
theorem zOc_r {c f : Int → Int} {p j : Int} (hc : ∀ k : Int, 0 ≤ k → k < 10 → c k = f k) (cm : c (-1) = -1) (cb : ∀ k : Int, -1 ≤ c k ∧ c k ≤ 9) (hp : 0 ≤ p ∧ p ≤ 9) (j0 : 0 ≤ j) : zOc c p j ↔ zOr f p j := by
  constructor
  · rintro ⟨i, hi, e⟩
    have ne : ∀ m : Nat, m ≤ i → zit c m p ≠ -1 := fun m hm z => by
      have w := zit_m cm z (i - m)
      rw [show m + (i - m) = i by omega, e] at w
      omega
    have eq : ∀ m : Nat, m ≤ i → zit f m p = zit c m p := fun m hm => zit_q hc cb hp m (fun k hk => ne k (by omega))
    exact ⟨i, fun m hm => by rw [eq m hm]; exact ne m hm, by rw [eq i (Nat.le_refl i)]; exact e⟩
  · rintro ⟨i, hi, e⟩
    have eq : ∀ N m : Nat, m ≤ N → m ≤ i → zit f m p = zit c m p := by
      intro N
      induction N with
      | zero =>
        intro m h1 _
        rw [show m = 0 by omega]
        rfl
      | succ N ih =>
        intro m h1 h2
        exact zit_q hc cb hp m (fun k hk => by rw [← ih k (by omega) (by omega)]; exact hi k (by omega))
    have ne : ∀ m : Nat, m ≤ i → zit c m p ≠ -1 := fun m hm => by rw [← eq m m (Nat.le_refl m) hm]; exact hi m hm
    have key : ∀ N i : Nat, i ≤ N → (∀ m : Nat, m ≤ i → zit c m p ≠ -1) → zit c i p = j → zOc c p j := by
      have step : ∀ i : Nat, (∀ m : Nat, m ≤ i → zit c m p ≠ -1) → zit c i p = j → zOc c p j ∨ ∃ k : Nat, k < i ∧ zit c k p = j := fun i hm e => by
        by_cases q : i < 10
        · exact Or.inl ⟨i, q, e⟩
        · obtain ⟨a, b, hab, hb, w⟩ := zk_ph 10 (fun m => zit c m p) (fun m hm2 => by
            have h1 := zit_B cb (p := p) ⟨by omega, hp.2⟩ m
            have h2 := hm m (by omega)
            exact ⟨by show 0 ≤ zit c m p; omega, by show zit c m p < 10; omega⟩)
          have w2 : zit c a p = zit c b p := w
          refine Or.inr ⟨i - b + a, by omega, ?_⟩
          rw [zit_add, w2, ← zit_add, show i - b + b = i by omega]
          exact e
      intro N
      induction N with
      | zero =>
        intro i hi hm e
        rcases step i hm e with q | ⟨k, hk, _⟩
        · exact q
        · omega
      | succ N ih =>
        intro i hi hm e
        rcases step i hm e with q | ⟨k, hk, ek⟩
        · exact q
        · exact ih k (by omega) (fun m h => hm m (by omega)) ek
    exact key i i (Nat.le_refl i) ne (by rw [← eq i i (Nat.le_refl i) (Nat.le_refl i)]; exact e)
/-- a set of those of the first n for which it is so -/
noncomputable def zTt (P : Int → Prop) (n s : Int) : Prop := zBr s ∧ ∀ j : Int, 0 ≤ j → (zB_ s j ↔ j < n ∧ P j)
theorem zTt_0 {P : Int → Prop} : zTt P 0 0 := ⟨⟨by decide, by decide⟩, fun j j0 => ⟨fun h => absurd h (zB_0 j), fun h => by omega⟩⟩
theorem zTt_n {P : Int → Prop} {n s : Int} (h : zTt P n s) (np : ¬ P n) : zTt P (n + 1) s := ⟨h.1, fun j j0 => by
  rw [h.2 j j0]
  constructor
  · rintro ⟨a, b⟩
    exact ⟨by omega, b⟩
  · rintro ⟨a, b⟩
    refine ⟨?_, b⟩
    by_cases q : j = n
    · exact absurd (q ▸ b) np
    · omega⟩
theorem zTt_y {P : Int → Prop} {n s : Int} (h : zTt P n s) (p : P n) (b : 0 ≤ n ∧ n ≤ 30) : zTt P (n + 1) (zi_or s (zi_shl 1 n)) := ⟨(zB_orN h.1 (zB_shlN b).1).1, fun j j0 => by
  rw [zB_add h.1 b j0, h.2 j j0]
  constructor
  · rintro (⟨a, b⟩ | e)
    · exact ⟨by omega, b⟩
    · rw [e]; exact ⟨by omega, p⟩
  · rintro ⟨a, b⟩
    by_cases q : j = n
    · exact Or.inr q
    · exact Or.inl ⟨by omega, b⟩⟩
theorem zTt_eq {P P' : Int → Prop} {n v w : Int} (h : zTt P n v) (k : zTt P' n w) (e : ∀ j : Int, 0 ≤ j → j < n → (P j ↔ P' j)) : w = v :=
  zB_ext k.1.1 h.1.1 (fun j j0 => by
    rw [h.2 j j0, k.2 j j0]
    constructor
    · rintro ⟨a, b⟩
      exact ⟨a, (e j j0 a).2 b⟩
    · rintro ⟨a, b⟩
      exact ⟨a, (e j j0 a).1 b⟩)
noncomputable def zTwc (g : zi_M) (w sp t : Int) : Prop := zi_and (zi_shr (g 10 t) w) 1 = 1 ∧ zOc (zeg g) (g 11 t) sp
noncomputable def zTp (g : zi_M) (w sp t : Int) : Prop := zi_and (zi_shr (g 215 (236 + t)) w) 1 = 1 ∧ 0 < g 215 (244 + t) ∧ zOr (zf g) (g 215 (244 + t) - 1) sp
noncomputable def zTT (g : zi_M) (w sp n s : Int) : Prop := 0 ≤ sp → sp ≤ 9 → zTt (zTwc g w sp) n s
noncomputable def zTM (g : zi_M) (w sp n s : Int) : Prop := 0 ≤ sp → sp ≤ 9 → zTt (zTp g w sp) n s
section
variable {g : zi_M} {w sp t s v x : Int}
theorem zTT_0 : zTT g w sp 0 0 := fun _ _ => zTt_0
theorem zTT_x {n : Int} (h : zTT g w sp t s) (e : t = n) : zTT g w sp n s := by rw [← e]; exact h
theorem zTT_1 (h : zTT g w sp t s) (c : ¬ zi_and (zi_shr (g 10 t) w) 1 = 1) : zTT g w sp (t + 1) s := fun a b => zTt_n (h a b) (fun p => c p.1)
theorem zTT_3 (I : zk_I g) (h : zTT g w sp t s) (z : -1 ≤ g 11 t → g 11 t ≤ 9 → zeR (zeg g) (g 11 t) v) (c : ¬ zi_and (zi_shr v sp) 1 = 1) : zTT g w sp (t + 1) s := fun a b => by
  have q : (-1 : Int) ≤ g 11 t ∧ g 11 t ≤ 9 := I.1 11 t
  have y := z q.1 q.2
  exact zTt_n (h a b) (fun p => c ((zB_has y.1 ⟨a, by omega⟩).2 ((y.2 sp a).2 p.2)))
theorem zTT_4 (I : zk_I g) (h : zTT g w sp t s) (k : zi_and (zi_shr (g 10 t) w) 1 = 1) (z : -1 ≤ g 11 t → g 11 t ≤ 9 → zeR (zeg g) (g 11 t) v) (c : zi_and (zi_shr v sp) 1 = 1) (bt : 0 ≤ t ∧ t ≤ 30) : zTT g w sp (t + 1) (zi_or s (zi_shl 1 t)) := fun a b => by
  have q : (-1 : Int) ≤ g 11 t ∧ g 11 t ≤ 9 := I.1 11 t
  have y := z q.1 q.2
  exact zTt_y (h a b) ⟨k, (y.2 sp a).1 ((zB_has y.1 ⟨a, by omega⟩).1 c)⟩ bt
theorem zTM_0 : zTM g w sp 0 0 := fun _ _ => zTt_0
theorem zTM_x {n : Int} (h : zTM g w sp t s) (e : t = n) : zTM g w sp n s := by rw [← e]; exact h
theorem zTM_1 (h : zTM g w sp t s) (b : zi_and (zi_shr (g 215 (236 + t)) w) 1 = 1 → v = 1) (c : v = 0) : zTM g w sp (t + 1) s := fun a d => zTt_n (h a d) (fun p => by have := b p.1; omega)
theorem zTM_2 (h : zTM g w sp t s) (c : g 215 (244 + t) ≤ 0) : zTM g w sp (t + 1) s := fun a d => zTt_n (h a d) (fun p => by have := p.2.1; omega)
theorem zTM_3 (h : zTM g w sp t s) (z : zMp (zf g) (g 215 (244 + t) - 1) x) (b : zi_and (zi_shr x sp) 1 = 1 → v = 1) (c : v = 0) : zTM g w sp (t + 1) s := fun a d => by
  have y := zMp_o z
  refine zTt_n (h a d) (fun p => ?_)
  have := b ((zB_has y.1 ⟨a, by omega⟩).2 ((y.2 sp a).2 p.2.2))
  omega
theorem zTM_4 {u : Int} (h : zTM g w sp t s) (b1 : ¬ zi_and (zi_shr (g 215 (236 + t)) w) 1 = 1 → u = 0) (c1 : ¬ u = 0) (p : 0 < g 215 (244 + t)) (z : zMp (zf g) (g 215 (244 + t) - 1) x) (b : ¬ zi_and (zi_shr x sp) 1 = 1 → v = 0) (c : ¬ v = 0) (bt : 0 ≤ t ∧ t ≤ 30) : zTM g w sp (t + 1) (zi_or s (zi_shl 1 t)) := fun a d => by
  have y := zMp_o z
  have k : zi_and (zi_shr x sp) 1 = 1 := Classical.byContradiction (fun q => c (b q))
  exact zTt_y (h a d) ⟨Classical.byContradiction (fun q => c1 (b1 q)), p, (y.2 sp a).1 ((zB_has y.1 ⟨a, by omega⟩).1 k)⟩ bt
end
/-- the answers of TOLD -/
theorem zTd_eq {g g2 : zi_M} {w sp v1 v2 : Int} (I : zk_I g) (R : zBD g) (X : zXg g) (s8 : g 2 8 = g 214 6) (si : g 2 11 = g 214 7) (a1 : 0 ≤ w ∧ w ≤ 15 ∧ 0 ≤ sp ∧ sp < g 2 8 → zTT g w sp (g 2 11) v1) (a2 : ¬ (0 ≤ w ∧ w ≤ 15 ∧ 0 ≤ sp ∧ sp < g 2 8) → v1 = -1)
    (b1 : 0 ≤ w ∧ w ≤ 15 ∧ 0 ≤ sp ∧ sp < g 214 6 → zTM g2 w sp (g2 214 7) v2) (b2 : ¬ (0 ≤ w ∧ w ≤ 15 ∧ 0 ≤ sp ∧ sp < g 214 6) → v2 = -1) (F : ∀ (a : Nat) (i : Int), a = 215 ∨ a = 232 ∨ (a = 214 ∧ (i = 6 ∨ i = 7)) → g2 a i = g a i) : v2 = v1 := by
  rw [F 214 7 (by omega), ← s8, ← si] at b1
  rw [← s8] at b2
  by_cases c : 0 ≤ w ∧ w ≤ 15 ∧ 0 ≤ sp ∧ sp < g 2 8
  · have b8 : (0 : Int) ≤ g 2 8 ∧ g 2 8 ≤ 10 := I.1 2 8
    have b11 : (0 : Int) ≤ g 2 11 ∧ g 2 11 ≤ 8 := I.1 2 11
    refine zTt_eq (a1 c c.2.2.1 (by omega)) (b1 c c.2.2.1 (by omega)) (fun j j0 j1 => ?_)
    obtain ⟨-, -, -, -, -, -, -, -, -, -, qk, qa, -, -⟩ := zVC_rd (T := g 2 11) (r := 2) (g := g)
    have e1 := R.1 (236 + j) (by unfold zC0; omega)
    rw [qk j j0 (by omega), zVM_r ⟨by omega, by omega⟩ (by omega)] at e1
    have e2 := R.1 (244 + j) (by unfold zC0; omega)
    rw [qa j j0 (by omega) j1, zVM_r ⟨by omega, by omega⟩ (by omega)] at e2
    have e1' : g 10 j = g 215 (236 + j) := e1
    have e2' : g 11 j + 1 = g 215 (244 + j) := e2
    have bj : (-1 : Int) ≤ g 11 j ∧ g 11 j ≤ 9 := I.1 11 j
    unfold zTwc zTp
    rw [F 215 _ (Or.inl rfl), F 215 _ (Or.inl rfl), ← e1', ← e2', show g 11 j + 1 - 1 = g 11 j by omega]
    by_cases z : g 11 j = -1
    · constructor
      · rintro ⟨_, i, _, h⟩
        exfalso
        have q := zit_m (zeg_m g) (n := 0) (p := g 11 j) z i
        rw [Nat.zero_add, h] at q
        omega
      · rintro ⟨_, h, _⟩
        omega
    · have h := zOc_r (c := zeg g) (f := zf g2) (p := g 11 j) (j := sp) (fun k k0 k1 => by
        unfold zeg zf
        rw [if_pos ⟨k0, k1⟩, F 232 k (by omega)]
        exact X.2 k k0 k1) (zeg_m g) (zeg_b I) ⟨by omega, bj.2⟩ c.2.2.1
      constructor
      · rintro ⟨a, b⟩
        exact ⟨a, by omega, h.1 b⟩
      · rintro ⟨a, _, b⟩
        exact ⟨a, h.2 b⟩
  · rw [a2 c, b2 c]
/-- what the reference answers of WHO -/
noncomputable def zWhm (g : zi_M) (T l1 l2 v : Int) : Prop := (0 ≤ l1 ∧ l1 < T → (l2 = 0 → v = g 215 (236 + l1)) ∧ (l2 = 1 → v = g 215 (244 + l1) - 1)) ∧ (¬ (0 ≤ l1 ∧ l1 < T) ∨ (¬ l2 = 0 ∧ ¬ l2 = 1) → v = -2)
theorem zWhm_k {g g1 : zi_M} {T l1 l2 x : Int} (e : g1 = zi_u g 214 0 x) (h : l2 = 0) (b : 0 ≤ l1 ∧ l1 < T) : zWhm g T l1 l2 (g1 215 (236 + l1)) := by
  rw [e, zi_u_ne (by decide)]
  exact ⟨fun _ => ⟨fun _ => rfl, fun q => by omega⟩, fun q => by omega⟩
theorem zWhm_a {g g1 : zi_M} {T l1 l2 x : Int} (e : g1 = zi_u g 214 0 x) (h : l2 = 1) (b : 0 ≤ l1 ∧ l1 < T) : zWhm g T l1 l2 (g1 215 (244 + l1) - 1) := by
  rw [e, zi_u_ne (by decide)]
  exact ⟨fun _ => ⟨fun q => by omega, fun _ => rfl⟩, fun q => by omega⟩
theorem zWhm_n {g : zi_M} {T l1 l2 : Int} (h : ¬ (0 ≤ l1 ∧ l1 < T) ∨ (¬ l2 = 0 ∧ ¬ l2 = 1)) : zWhm g T l1 l2 (-2) := ⟨fun b => ⟨fun q => by omega, fun q => by omega⟩, fun _ => rfl⟩
/-- the answers of WHO -/
theorem zWh_r {g : zi_M} {l1 l2 v : Int} (I : zk_I g) (a1 : l1 < 0 → v = (-2)) (a2 : 0 ≤ l1 → (g 2 11) ≤ l1 → v = (-2)) (a3 : 0 ≤ l1 → l1 < (g 2 11) → (l2 = 0) → v = g 10 l1) (a4 : 0 ≤ l1 → l1 < (g 2 11) → (l2 = 1) → v = g 11 l1) (a5 : 0 ≤ l1 → l1 < (g 2 11) → ¬ l2 = 0 → ¬ l2 = 1 → v = (-2)) : zi_r v := by
  by_cases h1 : l1 < 0
  · rw [a1 h1]; exact ⟨by decide, by decide⟩
  by_cases h2 : g 2 11 ≤ l1
  · rw [a2 (by omega) h2]; exact ⟨by decide, by decide⟩
  by_cases h3 : l2 = 0
  · rw [a3 (by omega) (by omega) h3]; exact zk_rng I _ _
  by_cases h4 : l2 = 1
  · rw [a4 (by omega) (by omega) h4]; exact zk_rng I _ _
  · rw [a5 (by omega) (by omega) h3 h4]; exact ⟨by decide, by decide⟩
theorem zWh_eq {g : zi_M} {l1 l2 v1 v2 : Int} (I : zk_I g) (R : zBD g) (si : g 2 11 = g 214 7) (a1 : l1 < 0 → v1 = (-2)) (a2 : 0 ≤ l1 → (g 2 11) ≤ l1 → v1 = (-2)) (a3 : 0 ≤ l1 → l1 < (g 2 11) → (l2 = 0) → v1 = g 10 l1) (a4 : 0 ≤ l1 → l1 < (g 2 11) → (l2 = 1) → v1 = g 11 l1) (a5 : 0 ≤ l1 → l1 < (g 2 11) → ¬ l2 = 0 → ¬ l2 = 1 → v1 = (-2))
    (b : zWhm g (g 214 7) l1 l2 v2) : v2 = v1 := by
  have b11 : (0 : Int) ≤ g 2 11 ∧ g 2 11 ≤ 8 := I.1 2 11
  rw [← si] at b
  obtain ⟨b1, b2⟩ := b
  by_cases h1 : l1 < 0
  · rw [a1 h1, b2 (Or.inl (by omega))]
  by_cases h2 : g 2 11 ≤ l1
  · rw [a2 (by omega) h2, b2 (Or.inl (by omega))]
  obtain ⟨-, -, -, -, -, -, -, -, -, -, qk, qa, -, -⟩ := zVC_rd (T := g 2 11) (r := 2) (g := g)
  by_cases h3 : l2 = 0
  · have e1 := R.1 (236 + l1) (by unfold zC0; omega)
    rw [qk l1 (by omega) (by omega), zVM_r ⟨by omega, by omega⟩ (by omega)] at e1
    rw [a3 (by omega) (by omega) h3, (b1 ⟨by omega, by omega⟩).1 h3]
    exact e1.symm
  by_cases h4 : l2 = 1
  · have e2 := R.1 (244 + l1) (by unfold zC0; omega)
    rw [qa l1 (by omega) (by omega) (by omega), zVM_r ⟨by omega, by omega⟩ (by omega)] at e2
    have e2' : g 11 l1 + 1 = g 215 (244 + l1) := e2
    rw [a4 (by omega) (by omega) h4, (b1 ⟨by omega, by omega⟩).2 h4]
    omega
  · rw [a5 (by omega) (by omega) h3 h4, b2 (Or.inr ⟨h3, h4⟩)]
