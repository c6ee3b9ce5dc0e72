-- by program (wip/gen/mklaw.py)
-- by program (wip/gen/mklaw.py): the law, call by call
section
variable {E : sx_E} {d j pc n x y : Nat} {z : Int32} {ls : List (Option Value)} {st : List Value} {g : zi_M} {R : Option Value → sx_M → Prop}
/-- the script, as whole numbers -/
noncomputable def zw_s (E : sx_E) (i : Int) : Int := (sx_xs E i.toNat).toInt
theorem zw_r (E : sx_E) (i : Int) : zi_r (zw_s E i) := zi_r32 _
theorem zi_xlen {pc' : Nat} (ht : sx_tab j pc = some (.arraylength, n, x, y, z)) (hp : pc + 1 = pc') (k : zi_W E d j pc' ls (zi_i ((sx_Ln E : Nat) : Int) :: st) g R) : zi_W E d j pc ls (.ref 1000000000 :: st) g R := by
  intro m hm
  subst hp
  have h3 := k m hm
  refine sx_alX ht ?_
  rw [show zi_i ((sx_Ln E : Nat) : Int) = .int (Int32.ofNat (sx_Ln E)) by show Value.int _ = _; rw [Int32.ofInt_eq_ofNat]] at h3
  exact h3
theorem zi_xald {i : Int} {pc' : Nat} (ht : sx_tab j pc = some (.iaload, n, x, y, z)) (hp : pc + 1 = pc') (hL : sx_Ln E ≤ 3072) (hi : 0 ≤ i ∧ i < ((sx_Ln E : Nat) : Int)) (k : zi_W E d j pc' ls (zi_i (zw_s E i) :: st) g R) : zi_W E d j pc ls (zi_i i :: .ref 1000000000 :: st) g R := by
  intro m hm
  subst hp
  have h3 := k m hm
  have ti : (Int32.ofInt i).toInt = i := zi_to ⟨by omega, by omega⟩
  have cl : (Int32.ofInt i).toNatClampNeg = i.toNat := by show (Int32.ofInt i).toInt.toNat = _; rw [ti]
  refine sx_iaX ht ?_ ?_
  · intro q
    rcases q with q | q
    · rw [Int32.lt_iff_toInt_lt, ti] at q
      have : (0 : Int32).toInt = 0 := rfl
      omega
    · omega
  · rw [cl]
    rw [show zi_i (zw_s E i) = .int (sx_xs E i.toNat) by show Value.int (Int32.ofInt (Int32.toInt _)) = _; rw [Int32.ofInt_toInt]] at h3
    exact h3
end
noncomputable def zw_Q : Option Value → sx_M → Prop := zi_Qb (fun v _ => v = 1)
theorem zw_eqb {p : Prop} {v w : Int} (h : (p → v = 1) ∧ (¬ p → v = 0)) (h2 : (p → w = 1) ∧ (¬ p → w = 0)) : v = w := by
  by_cases c : p
  · rw [h.1 c, h2.1 c]
  · rw [h.2 c, h2.2 c]
theorem zgm_f {q1 q2 v1 v2 f0 f1 f2 m0 m1 m2 : Int} (e : q1 = q2) (r : f0 = m0) (a1 : ¬ q1 = 0 → v1 = 1 ∧ f1 = 1) (a2 : q1 = 0 → ¬ f0 = 0 → v1 = 1 ∧ f1 = f0) (a3 : q1 = 0 → f0 = 0 → f1 = f0) (b1 : (¬ q2 = 0 ∨ ¬ m1 = 0 → v2 = 1) ∧ (q2 = 0 ∧ m1 = 0 → v2 = 0)) (b2 : (¬ q2 = 0 → m2 = 1) ∧ (q2 = 0 → m2 = m1)) (c1 : m1 = m0) (c2 : f2 = f1) : f2 = m2 ∧ ((¬ q1 = 0 ∧ ¬ q2 = 0 ∧ v2 = 1 ∧ f2 = 1) ∨ (q1 = 0 ∧ q2 = 0 ∧ ¬ f0 = 0 ∧ v2 = 1 ∧ f2 = f0) ∨ (q1 = 0 ∧ q2 = 0 ∧ f0 = 0 ∧ v2 = 0 ∧ f2 = f0)) := by
  by_cases h : q1 = 0
  · by_cases k : f0 = 0
    · have x := a3 h k
      have y := b1.2 ⟨e ▸ h, by rw [c1, ← r]; exact k⟩
      have z := b2.2 (e ▸ h)
      clear a1 a2 a3 b1 b2
      exact ⟨by omega, Or.inr (Or.inr ⟨h, e ▸ h, k, y, by omega⟩)⟩
    · have x := (a2 h k).2
      have y := b1.1 (Or.inr (by rw [c1, ← r]; exact k))
      have z := b2.2 (e ▸ h)
      clear a1 a2 a3 b1 b2
      exact ⟨by omega, Or.inr (Or.inl ⟨h, e ▸ h, k, y, by omega⟩)⟩
  · have x := (a1 h).2
    have h2 : ¬ q2 = 0 := e ▸ h
    have y := b1.1 (Or.inl h2)
    have z := b2.1 h2
    clear a1 a2 a3 b1 b2
    exact ⟨by omega, Or.inl ⟨h, h2, y, by omega⟩⟩
theorem zgm_c {q1 q2 v2 f0 f2 x0 x1 x2 k0 k1 k2 r0 r1 r2 p0 p1 p2 : Int} (cs : (¬ q1 = 0 ∧ ¬ q2 = 0 ∧ v2 = 1 ∧ f2 = 1) ∨ (q1 = 0 ∧ q2 = 0 ∧ ¬ f0 = 0 ∧ v2 = 1 ∧ f2 = f0) ∨ (q1 = 0 ∧ q2 = 0 ∧ f0 = 0 ∧ v2 = 0 ∧ f2 = f0)) (t : ¬ q1 = 0 → k1 = x0 ∧ x1 = x0) (u : q1 = 0 → ¬ f0 = 0 → x1 = k0 ∧ k1 = k0) (w : q1 = 0 → f0 = 0 → x1 = x0 ∧ k1 = k0) (t2 : v2 = 1 → ¬ q2 = 0 → p2 = r1 ∧ r2 = r1) (u2 : v2 = 1 → q2 = 0 → r2 = p1 ∧ p2 = p1) (w2 : v2 = 0 → r2 = r1 ∧ p2 = p1) (cr : r1 = r0) (cp : p1 = p0) (cx : x2 = x1) (ck : k2 = k1) (b : 0 ≤ f0 ∧ f0 ≤ 1) (R : x0 = r0) (K : f0 = 1 → k0 = p0) : x2 = r2 ∧ (f2 = 1 → k2 = p2) := by
  rcases cs with ⟨h1, h2, h3, h4⟩ | ⟨h1, h2, h3, h4, h5⟩ | ⟨h1, h2, h3, h4, h5⟩
  · have a := t h1
    have c := t2 h3 h2
    clear t u w t2 u2 w2 K
    exact ⟨by omega, fun _ => by omega⟩
  · have a := u h1 h3
    have c := u2 h4 h2
    have d := K (by omega)
    clear t u w t2 u2 w2 K
    exact ⟨by omega, fun _ => by omega⟩
  · have a := w h1 h3
    have c := w2 h4
    clear t u w t2 u2 w2 K
    exact ⟨by omega, fun q => by exfalso; omega⟩
theorem zse_c {l : Int} {P1 P2 : Prop} {v1 v2 x0 x1 x2 y0 y1 y2 : Int} (a1 : l = -1 → v1 = 0 ∧ x1 = 0) (a2 : ¬ l = -1 → P1 → v1 = x0 + 1 ∧ x1 = x0 + 1) (a3 : ¬ l = -1 → ¬ P1 → v1 = -1 ∧ x1 = x0) (b1 : l = -1 → v2 = 0 ∧ y2 = 0) (b2 : ¬ l = -1 → P2 → v2 = y1 + 1 ∧ y2 = y1 + 1) (b3 : ¬ l = -1 → ¬ P2 → v2 = -1 ∧ y2 = y1) (e : P2 ↔ P1) (r : x0 = y0) (cx : x2 = x1) (cy : y1 = y0) : v2 = v1 ∧ x2 = y2 := by
  by_cases q : l = -1
  · have u := a1 q; have w := b1 q; clear a1 a2 a3 b1 b2 b3; omega
  · by_cases p : P1
    · have u := a2 q p; have w := b2 q (e.2 p); clear a1 a2 a3 b1 b2 b3; omega
    · have u := a3 q p; have w := b3 q (fun z => p (e.1 z)); clear a1 a2 a3 b1 b2 b3; omega
theorem zgm_1 {x : Int} (b : 0 ≤ x ∧ x ≤ 1) (h : ¬ x = 0) : x = 1 := by omega
theorem zmr_p {P : Prop} {x0 x1 x2 y0 y1 y2 d m : Int} (a5 : x0 = y0 + m) (b1 : (P → x1 = d) ∧ (¬ P → x1 = x0)) (d1 : y1 = y0) (b2 : (P → y2 = d - m) ∧ (¬ P → y2 = y1)) (d2 : x2 = x1) : x2 = y2 + m := by
  by_cases h : P
  · have u := b1.1 h; have w := b2.1 h; omega
  · have u := b1.2 h; have w := b2.2 h; omega
theorem zgm_q {w q1 q2 : Int} (a : w = 0 → q1 = 0) (b : ¬ w = 0 → q1 = 1) (c : w = 0 → q2 = 0) (d : ¬ w = 0 → q2 = 1) : q1 = q2 := by
  by_cases h : w = 0
  · rw [a h, c h]
  · rw [b h, d h]
/-- what each call keeps -/
noncomputable def zw_R (g : zi_M) : Prop := zk_I g ∧ (g 0 2 = g 214 62) ∧ (g 0 8 = g 214 13) ∧ (g 190 = g 222) ∧ (g 2 8 = g 214 6) ∧ (g 0 2 = 1 → g 47 8 = g 250 264) ∧ (g 2 11 = g 214 7) ∧ (g 0 2 = 1 → g 47 11 = g 250 265) ∧ (zXw g) ∧ (g 0 2 = 1 → zXwk g) ∧ (zXg g) ∧ (g 0 2 = 1 → zXgk g) ∧ (zBD g) ∧ (zRA 5 220 0 10 (fun _ => 0) g) ∧ (g 0 2 = 1 → zRK 50 275 5 10 (fun _ => 0) g) ∧ (zRA 3 218 0 10 (fun _ => 0) g) ∧ (g 0 2 = 1 → zRK 48 273 5 10 (fun _ => 0) g) ∧ (zRA 4 219 0 10 (fun _ => 0) g) ∧ (g 0 2 = 1 → zRK 49 274 5 10 (fun _ => 0) g) ∧ (zLW g) ∧ (g 0 2 = 1 → zLWk g) ∧ (zFD g) ∧ (zP g)
theorem zPc_le {a : Nat} {i : Int} (h : zPc a i) : a ≤ 164 := by unfold zPc at h; omega
theorem zw_iw : zXw zw_g0 := by
  refine ⟨by decide +kernel, fun m m0 m1 => ?_⟩
  have h : zw_g0 19 5 = 0 := by decide +kernel
  exfalso
  omega
theorem zw_ix : zXg zw_g0 := by
  refine ⟨by decide +kernel, fun m m0 m1 => ?_⟩
  have h : ∀ n : Nat, n < 10 → zw_g0 29 (n : Int) = zw_g0 232 (n : Int) - 1 := by decide +kernel
  have h2 := h m.toNat (by omega)
  rw [show ((m.toNat : Nat) : Int) = m by omega] at h2
  exact h2
theorem zw_bd : zBD zw_g0 := by
  have t : zw_g0 2 11 = 0 := by decide +kernel
  have t7 : zw_g0 214 7 = 0 := by decide +kernel
  have t10 : zw_g0 19 10 = 0 := by decide +kernel
  have t39 : zw_g0 214 39 = 0 := by decide +kernel
  refine ⟨fun k hk => ?_, zBrg_0 (by decide +kernel) (by decide +kernel), ⟨by decide +kernel, fun m m0 m1 => by exfalso; omega⟩, fun n n0 n1 => by exfalso; omega, fun i i0 i1 => ?_, fun h => absurd h (by decide +kernel)⟩
  · rw [t, t7]
    by_cases d : zRw 0 k
    · rw [zVM_rw d]
      obtain ⟨p0, -, -, p3, -, -, -, -, -, -, pk, -, -, -⟩ := zVC_rd (T := 0) (r := 2) (g := zw_g0)
      unfold zC0 at hk
      unfold zRw at d
      by_cases k0 : k = 0
      · rw [k0, p0]; decide +kernel
      · by_cases k3 : k = 3
        · rw [k3, p3]; decide +kernel
        · obtain ⟨i, rfl⟩ : ∃ i, k = 236 + i := ⟨k - 236, by omega⟩
          rw [pk i (by omega) (by omega)]
          have h : ∀ n : Nat, n < 8 → zw_g0 10 (n : Int) = zw_g0 215 (236 + (n : Int)) := by decide +kernel
          have h2 := h i.toNat (by omega)
          rw [show ((i.toNat : Nat) : Int) = i by omega] at h2
          exact h2
    · have nd := zV_no hk d
      rw [zVC_no nd, zVM_no nd]
  · have h : ∀ n : Nat, n < 10 → zw_g0 29 (n : Int) < zw_g0 2 8 := by decide +kernel
    have h2 := h i.toNat (by omega)
    rw [show ((i.toNat : Nat) : Int) = i by omega] at h2
    exact h2
theorem zw_fh {k : Int} (h : 264 ≤ k) : zVC 0 2 zw_g0 k = 0 := by
  unfold zVC
  by_cases d : zdm 0 k
  · rw [zite_p d, zcq_0 (by omega), Int.add_zero]
    unfold zdm at d
    rcases zca_cases 2 k with q | q | q | q | q | q | q | q | q | q | q | q | q | q | q | q | q | q | q | q | q
    all_goals first | (exfalso; omega) | (rw [q.2]; rfl) | (rw [q.2, q.1]; rfl)
  · rw [zite_n d]
theorem zw_fm {k : Int} (h : 264 ≤ k) : zVM 0 zw_g0 k = 0 := by
  unfold zVM
  by_cases d : zdm 0 k
  · rw [zite_p d]
    unfold zdm at d
    rcases zma_cases k with q | q | q | q | q | q | q | q | q | q
    all_goals first | (exfalso; omega) | (rw [q.2]; rfl) | (rw [q.2, q.1]; rfl)
  · rw [zite_n d]
theorem zw_fc {a b : Nat} {o n u : Int} (h : ∀ m : Nat, (m : Int) < n → zw_g0 a (m : Int) + u = zw_g0 b (o + (m : Int))) (i : Int) (i0 : 0 ≤ i) (i1 : i < n) : zw_g0 a i + u = zw_g0 b (o + i) := by
  have h2 := h i.toNat (by omega)
  rw [show ((i.toNat : Nat) : Int) = i by omega] at h2
  exact h2
theorem zw_fz {a b : Nat} {o n : Int} (h : ∀ m : Nat, (m : Int) < n → zw_g0 a (m : Int) = zw_g0 b (o + (m : Int))) (i : Int) (i0 : 0 ≤ i) (i1 : i < n) : zw_g0 a i = zw_g0 b (o + i) := by
  have h2 := h i.toNat (by omega)
  rw [show ((i.toNat : Nat) : Int) = i by omega] at h2
  exact h2
theorem zw_fl {P : Int → Prop} {n : Nat} (h : ∀ m : Nat, m < n → P (m : Int)) (m : Nat) (hm : (m : Int) < (n : Int)) : P (m : Int) := h m (by omega)
theorem zw_fd : zFD zw_g0 := by
  have t : zw_g0 2 11 = 0 := by decide +kernel
  have A : zFA 0 zw_g0 := ⟨by decide +kernel, by decide +kernel, by decide +kernel, by decide +kernel, by decide +kernel, by decide +kernel, zw_fz (n := 10) (zw_fl (n := 10) (P := fun m => zw_g0 6 m = zw_g0 215 (6 + m)) (by decide +kernel)), zw_fz (n := 10) (zw_fl (n := 10) (P := fun m => zw_g0 7 m = zw_g0 215 (16 + m)) (by decide +kernel)), zw_fz (n := 10) (zw_fl (n := 10) (P := fun m => zw_g0 8 m = zw_g0 215 (26 + m)) (by decide +kernel)), zw_fz (n := 200) (zw_fl (n := 200) (P := fun m => zw_g0 9 m = zw_g0 215 (36 + m)) (by decide +kernel)), zw_fz (n := 8) (zw_fl (n := 8) (P := fun m => zw_g0 10 m = zw_g0 215 (236 + m)) (by decide +kernel)), fun i i0 i1 i2 => by exfalso; omega, zw_fc (n := 6) (u := 1) (zw_fl (n := 6) (P := fun m => zw_g0 12 m + 1 = zw_g0 215 (252 + m)) (by decide +kernel)), zw_fz (n := 6) (zw_fl (n := 6) (P := fun m => zw_g0 13 m = zw_g0 215 (258 + m)) (by decide +kernel))⟩
  refine ⟨?_, zFring_0 (by decide +kernel), ⟨by decide +kernel, by decide +kernel, by decide +kernel⟩, fun h => absurd h (by decide +kernel)⟩
  rw [t]
  exact zFA_in A (fun k hk => by rw [zw_fh hk, zw_fm hk])
theorem zw_R0 : zw_R zw_g0 := ⟨zw_g0_I, by decide +kernel, by decide +kernel, funext fun k => rfl, by decide +kernel, by decide +kernel, by decide +kernel, by decide +kernel, zw_iw, fun h => absurd h (by decide +kernel), zw_ix, fun h => absurd h (by decide +kernel), zw_bd, fun k _ _ => rfl, fun h => absurd h (by decide +kernel), fun k _ _ => rfl, fun h => absurd h (by decide +kernel), fun k _ _ => rfl, fun h => absurd h (by decide +kernel), zLW_0 (by decide +kernel) (by decide +kernel) (by decide +kernel), fun h => absurd h (by decide +kernel), zw_fd, zP_0 (by decide +kernel)⟩
