-- A DAY, the reference: plan, weather, dry or rain
noncomputable def zPw (g : zi_M) : Prop := ∀ m : Int, 0 ≤ m → m < g 214 37 → 0 ≤ g 233 (2 * m + 1)
noncomputable def zPv (g : zi_M) : Prop := (∀ n : Int, 0 ≤ n → n < g 214 39 → zPa (g 214 6) (g 214 7) (g 234 (4 * n + 1)) (g 234 (4 * n + 2)) (g 234 (4 * n + 3))) ∧ zPw g
theorem zpn_3 {S T : Int} {PD PA PB PC : Int → Int} {f : Int → Int} : ∀ n : Nat, zpn S T PD PA PB PC n f 3 = f 3
  | 0 => rfl
  | n + 1 => by
    show (zite (α := Int → Int) _ _ _) 3 = _
    have ih := zpn_3 (S := S) (T := T) (PD := PD) (PA := PA) (PB := PB) (PC := PC) (f := f) n
    by_cases q : PD (n : Int) = zpn S T PD PA PB PC n f 0 ∧ zPa S T (PA (n : Int)) (PB (n : Int)) (PC (n : Int))
    · rw [zite_p q]
      have z := (zPa_d q.2).1
      unfold zAc
      repeat (first | (rw [zup_n (by omega)]; exact ih) | exact ih | split)
    · rw [zite_n q]
      exact ih
theorem zMA_k {T : Int} {g g1 : zi_M} {i0 y : Int} (F : zk_fr fr_M_acts g g1) (e : g1 215 = zup (g 215) i0 y) : zVM T g1 = zVM T (zi_u g 215 i0 y) := zVM_c (fun a i ha => by
  by_cases q : a = 215
  · rw [q, e, zup_u]
  · rw [zi_u_ne q]
    exact F a i (fun w => by unfold fr_M_acts at w; omega))
theorem zMA {S T d w x : Int} {g g1 : zi_M} (v : zPa S T d w x) (hS : S ≤ 10) (hT : T ≤ 8) (h : g1 215 = zAc (g 215) d w x) (F : zk_fr fr_M_acts g g1) : zVM T g1 = zAc (zVM T g) d w x := by
  have z := zPa_d v
  unfold zAc at h
  rcases (show d = 0 ∨ d = 1 ∨ d = 2 ∨ d = 3 ∨ d = 4 ∨ d = 5 ∨ d = 6 ∨ d = 7 by omega) with e | e | e | e | e | e | e | e <;> subst e
  · rw [if_pos (by decide)] at h
    rw [zMA_k (T := T) F h, zN_row ⟨by omega, by omega⟩ (by omega)]
    unfold zAc
    rw [if_pos (by decide)]
  · rw [if_neg (by decide), if_pos (by decide)] at h
    rw [zMA_k (T := T) F h, zN_row ⟨by omega, by omega⟩ (by omega)]
    unfold zAc
    rw [if_neg (by decide), if_pos (by decide)]
  · rw [if_neg (by decide), if_neg (by decide), if_pos (by decide)] at h
    rw [zMA_k (T := T) F h, zN_row ⟨by omega, by omega⟩ (by omega)]
    unfold zAc
    rw [if_neg (by decide), if_neg (by decide), if_pos (by decide)]
  · rw [if_neg (by decide), if_neg (by decide), if_neg (by decide), if_pos (by decide)] at h
    rw [zMA_k (T := T) F h, zN_row ⟨by omega, by omega⟩ (by omega)]
    unfold zAc
    rw [if_neg (by decide), if_neg (by decide), if_neg (by decide), if_pos (by decide)]
  · rw [if_neg (by decide), if_neg (by decide), if_neg (by decide), if_neg (by decide), if_pos (by decide)] at h
    rw [zMA_k (T := T) F h, zN_row ⟨by omega, by omega⟩ (by omega)]
    unfold zAc
    rw [if_neg (by decide), if_neg (by decide), if_neg (by decide), if_neg (by decide), if_pos (by decide)]
  · rw [if_neg (by decide), if_neg (by decide), if_neg (by decide), if_neg (by decide), if_neg (by decide), if_pos (by decide)] at h
    rw [zMA_k (T := T) F h, zN_row ⟨by omega, by omega⟩ (by omega)]
    unfold zAc
    rw [if_neg (by decide), if_neg (by decide), if_neg (by decide), if_neg (by decide), if_neg (by decide), if_pos (by decide)]
  · rw [if_neg (by decide), if_neg (by decide), if_neg (by decide), if_neg (by decide), if_neg (by decide), if_neg (by decide), if_pos (by decide)] at h
    rw [zMA_k (T := T) F h, zN_row ⟨by omega, by omega⟩ (by omega)]
    unfold zAc
    rw [show zVM T g (236 + w) = g 215 (236 + w) from zVM_r ⟨by omega, by omega⟩ (by omega)]
    rw [if_neg (by decide), if_neg (by decide), if_neg (by decide), if_neg (by decide), if_neg (by decide), if_neg (by decide), if_pos (by decide)]
  · rw [if_neg (by decide), if_neg (by decide), if_neg (by decide), if_neg (by decide), if_neg (by decide), if_neg (by decide), if_neg (by decide), if_pos (by decide)] at h
    rw [zMA_k (T := T) F h, zN_row ⟨by omega, by omega⟩ (by omega)]
    unfold zAc
    rw [if_neg (by decide), if_neg (by decide), if_neg (by decide), if_neg (by decide), if_neg (by decide), if_neg (by decide), if_neg (by decide), if_pos (by decide)]
/-- the plan: its first n lines -/
noncomputable def zQF (n : Nat) (g0 : zi_M) : Int → Int := zpn (g0 214 6) (g0 214 7) (fun n => g0 234 (4 * n)) (fun n => g0 234 (4 * n + 1)) (fun n => g0 234 (4 * n + 2)) (fun n => g0 234 (4 * n + 3)) n (zVM (g0 214 7) g0)
noncomputable def zQp (n : Int) (g0 g : zi_M) : Prop := zPv g0 → zVM (g0 214 7) g = zQF n.toNat g0
theorem zQp_0 {g : zi_M} : zQp 0 g g := fun _ => rfl
theorem zQF_s {n : Int} {g0 : zi_M} (n0 : 0 ≤ n) : zQF (n + 1).toNat g0 = zite (g0 234 (4 * n) = zQF n.toNat g0 0 ∧ zPa (g0 214 6) (g0 214 7) (g0 234 (4 * n + 1)) (g0 234 (4 * n + 2)) (g0 234 (4 * n + 3))) (zAc (zQF n.toNat g0) (g0 234 (4 * n + 1)) (g0 234 (4 * n + 2)) (g0 234 (4 * n + 3))) (zQF n.toNat g0) := by
  rw [show (n + 1).toNat = n.toNat + 1 by omega]
  have e : ((n.toNat : Nat) : Int) = n := by omega
  unfold zQF
  show zite (g0 234 (4 * ((n.toNat : Nat) : Int)) = _ ∧ zPa _ _ (g0 234 (4 * ((n.toNat : Nat) : Int) + 1)) (g0 234 (4 * ((n.toNat : Nat) : Int) + 2)) (g0 234 (4 * ((n.toNat : Nat) : Int) + 3))) (zAc _ (g0 234 (4 * ((n.toNat : Nat) : Int) + 1)) (g0 234 (4 * ((n.toNat : Nat) : Int) + 2)) (g0 234 (4 * ((n.toNat : Nat) : Int) + 3))) _ = _
  rw [e]
theorem zQp_n {n : Int} {g0 g : zi_M} (h : zQp n g0 g) (f : zMfr g0 g) (n0 : 0 ≤ n) (c : ¬ g 234 (4 * n) = g 215 0) : zQp (n + 1) g0 g := fun q => by
  rw [zQF_s n0, ← h q, zVM_r ⟨by decide, by decide⟩ (by omega), zite_n (fun w => c (by rw [f.1 234 (4 * n) (by omega)]; exact w.1))]
theorem zQp_s {n : Int} {g0 g g10 : zi_M} (h : zQp n g0 g) (f : zMfr g0 g) (I0 : zk_I g0) (n0 : 0 ≤ n) (n1 : n < g 214 39) (c : g 234 (4 * n) = g 215 0) (k : g10 215 = zAc (g 215) (g 234 (4 * n + 1)) (g 234 (4 * n + 2)) (g 234 (4 * n + 3))) (F : zk_fr fr_M_acts g g10) : zQp (n + 1) g0 g10 := fun q => by
  have v := q.1 n n0 (by rw [← f.2.2.2.2.2]; exact n1)
  have b6 : 0 ≤ g0 214 6 ∧ g0 214 6 ≤ 10 := I0.1 214 6
  have b7 : 0 ≤ g0 214 7 ∧ g0 214 7 ≤ 8 := I0.1 214 7
  rw [f.1 234 (4 * n + 1) (by omega), f.1 234 (4 * n + 2) (by omega), f.1 234 (4 * n + 3) (by omega)] at k
  rw [zQF_s n0, ← h q, zVM_r ⟨by decide, by decide⟩ (by omega), zite_p ⟨by rw [← f.1 234 (4 * n) (by omega)]; exact c, v⟩]
  exact zMA v b6.2 b7.2 k F
noncomputable def zQE (g0 g : zi_M) : Prop := zPv g0 → zVM (g0 214 7) g = zQF (g0 214 39).toNat g0
theorem zQp_x {n : Int} {g0 g : zi_M} (h : zQp n g0 g) (e : n = g0 214 39) : zQE g0 g := by
  rw [e] at h
  exact h
noncomputable def zQf (g0 : zi_M) : Int → Int := zQF (g0 214 39).toNat g0
theorem zQw_c {g0 g : zi_M} {d v : Int} (f : zMfr g0 g) (h : zQw g d v) : zQw g0 d v := by
  unfold zQw at *
  rw [← f.2.2.2.2.1, show g0 233 = g 233 from funext fun i => (f.1 233 i (by omega)).symm]
  exact h
theorem zQE_3 {g0 g : zi_M} (h : zQE g0 g) (q : zPv g0) : g 215 3 = g0 215 3 := by
  have e := congrFun (h q) 3
  unfold zQF at e
  rw [zpn_3, zVM_r ⟨by decide, by decide⟩ (by omega), zVM_r ⟨by decide, by decide⟩ (by omega)] at e
  exact e
noncomputable def zQr (g0 g : zi_M) : Prop := zPv g0 → 0 ≤ g0 215 3 → 0 ≤ g 215 3 ∧ ∃ v : Int, zQw g0 (zQf g0 0) v ∧ zVM (g0 214 7) g = zwr v (zQf g0)
theorem zQr_n {g0 g : zi_M} {v : Int} (h : zQE g0 g) (w : zQw g (g 215 0) v) (c : v = -1) (f : zMfr g0 g) : zQr g0 g := fun q r => ⟨by rw [zQE_3 h q]; exact r, v, by
  have e : zQf g0 = zVM (g0 214 7) g := (h q).symm
  rw [e, zVM_r ⟨by decide, by decide⟩ (by omega)]
  exact zQw_c f w, by
  unfold zwr
  rw [zite_n (fun z => z c)]
  exact h q⟩
theorem zQr_y {g0 g g36 : zi_M} {v u : Int} (h : zQE g0 g) (e : g36 = zi_u g 215 3 u) (w2 : zQw g (g 215 0) u) (c : ¬ v = -1) (w : zQw g (g 215 0) v) (f : zMfr g0 g) : zQr g0 g36 := fun q r => by
  have uv : u = v := zWo_u rfl (fun _ _ _ => ⟨rfl, rfl⟩) w w2
  have w0 := zQw_c f w2
  refine ⟨?_, u, ?_, ?_⟩
  · rw [e, zi_u_eq]
    rcases w0 with ⟨m, m0, m1, m2, m3, m4⟩ | ⟨a1, a2⟩
    · rw [m4]
      exact q.2 m m0 m1
    · omega
  · have e : zQf g0 = zVM (g0 214 7) g := (h q).symm
    rw [e, zVM_r ⟨by decide, by decide⟩ (by omega)]
    exact w0
  · unfold zwr
    rw [zite_p (by rw [uv]; exact c), e, zN_row ⟨by decide, by decide⟩ (by omega), h q]
    rfl
noncomputable def zQG (g0 : zi_M) (v : Int) : Int → Int := zdw (g0 214 5) (zLm g0) (zf g0) (g0 214 6).toNat (g0 214 7).toNat (zwr v (zQf g0))
noncomputable def zQb (g0 g : zi_M) : Prop := zLk g0 → zPv g0 → 0 ≤ g0 215 3 → 0 ≤ g 215 3 ∧ ∃ v : Int, zQw g0 (zQf g0 0) v ∧ zVM (g0 214 7) g = zQG g0 v
theorem zQb_r {g0 g g30 : zi_M} (h : zQr g0 g) (f : zMfr g0 g) (c : 0 < g 215 3) (k : zRY g g30) (F : zk_fr fr_M_rains g g30) : zQb g0 g30 := fun l q r => by
  obtain ⟨r1, v, w, z⟩ := h q r
  have o := zMfr_o f
  refine ⟨by rw [F 215 3 (fun w => by unfold fr_M_rains at w; omega)]; exact r1, v, w, ?_⟩
  have kk := k (o.2.2 l) (g0 214 7)
  rw [f.2.1, o.1, o.2.1, f.2.2.1] at kk
  unfold zQG zdw
  rw [← z, zVM_r (i := 3) ⟨by decide, by decide⟩ (by omega), zite_n (by omega), kk]
theorem zMfr_t {g0 g1 g : zi_M} (a : zMfr g0 g1) (b : zMfr g0 g) : zMfr g1 g := ⟨fun x i h => by rw [a.1 x i h, b.1 x i h], by rw [a.2.1, b.2.1], by rw [a.2.2.1, b.2.2.1], by rw [a.2.2.2.1, b.2.2.2.1], by rw [a.2.2.2.2.1, b.2.2.2.2.1], by rw [a.2.2.2.2.2, b.2.2.2.2.2]⟩
noncomputable def zQo (n : Int) (g0 g : zi_M) : Prop := ∃ g1 : zi_M, zQr g0 g1 ∧ g1 215 3 ≤ 0 ∧ zMfr g0 g1 ∧ g 215 3 = g1 215 3 ∧ zMO n g1 g
theorem zQo_0 {g0 g : zi_M} (h : zQr g0 g) (f : zMfr g0 g) (c : g 215 3 ≤ 0) : zQo 0 g0 g := ⟨g, h, c, f, rfl, zMO_0⟩
theorem zQo_s {n : Int} {g0 g g23 : zi_M} (h : zQo n g0 g) (f : zMfr g0 g) (n0 : 0 ≤ n) (k : zMP n g g23) (F : zk_fr fr_M_isDry g g23) : zQo (n + 1) g0 g23 := by
  obtain ⟨g1, a, b, c, e, d⟩ := h
  exact ⟨g1, a, b, c, by rw [F 215 3 (fun w => by unfold fr_M_isDry at w; omega)]; exact e, zMO_s d (zMfr_t c f) n0 k⟩
theorem zQo_x {n : Int} {g0 g : zi_M} (h : zQo n g0 g) (e : n = g0 214 6) : zQb g0 g := fun l q r => by
  obtain ⟨g1, a, b, c, e3, d⟩ := h
  obtain ⟨r1, v, w, z⟩ := a q r
  have o := zMfr_o c
  refine ⟨by rw [e3]; exact r1, v, w, ?_⟩
  have dd := d (o.2.2 l)
  rw [c.2.1, o.1, c.2.2.2.1, e] at dd
  unfold zQG zdw
  rw [← z, zVM_r (i := 3) ⟨by decide, by decide⟩ (by omega), zite_p (by omega), dd]
/-- the day behind -/
noncomputable def zQD (g0 g : zi_M) : Prop := zLk g0 → zPv g0 → 0 ≤ g0 215 3 → 0 ≤ g 215 3 ∧ ∃ v : Int, zQw g0 (zQf g0 0) v ∧ zVM (g0 214 7) g = zde (zQG g0 v)
theorem zQD_of {g0 g g27 : zi_M} (h : zQb g0 g) (e : g27 = zi_u g 215 0 (zi_w (g 215 0 + 1))) : zQD g0 g27 := fun l q r => by
  obtain ⟨r1, v, w, z⟩ := h l q r
  refine ⟨by rw [e, zi_u_ni (by decide)]; exact r1, v, w, ?_⟩
  rw [e, zN_row ⟨by decide, by decide⟩ (by omega), ← z]
  unfold zde
  rw [zVM_r (i := 0) ⟨by decide, by decide⟩ (by omega)]
