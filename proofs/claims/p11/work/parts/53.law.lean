-- by program (wip/gen/mklaw.py): the law, call by call
section
variable {E : sx_E} {d j pc n x y : Nat} {z : Int32} {ls : List (Option Value)} {st : List Value} {g : zi_M} {R : Option Value → sx_M → Prop}
/-- the script, as whole numbers -/
noncomputable def zw_s (E : sx_E) (i : Int) : Int := (sx_xs E i.toNat).toInt
theorem zw_r (E : sx_E) (i : Int) : zi_r (zw_s E i) := zi_r32 _
theorem zi_xlen {pc' : Nat} (ht : sx_tab j pc = some (.arraylength, n, x, y, z)) (hp : pc + 1 = pc') (k : zi_W E d j pc' ls (zi_i ((sx_Ln E : Nat) : Int) :: st) g R) : zi_W E d j pc ls (.ref 1000000000 :: st) g R := by
  intro m hm
  subst hp
  have h3 := k m hm
  refine sx_alX ht ?_
  rw [show zi_i ((sx_Ln E : Nat) : Int) = .int (Int32.ofNat (sx_Ln E)) by show Value.int _ = _; rw [Int32.ofInt_eq_ofNat]] at h3
  exact h3
theorem zi_xald {i : Int} {pc' : Nat} (ht : sx_tab j pc = some (.iaload, n, x, y, z)) (hp : pc + 1 = pc') (hL : sx_Ln E ≤ 3072) (hi : 0 ≤ i ∧ i < ((sx_Ln E : Nat) : Int)) (k : zi_W E d j pc' ls (zi_i (zw_s E i) :: st) g R) : zi_W E d j pc ls (zi_i i :: .ref 1000000000 :: st) g R := by
  intro m hm
  subst hp
  have h3 := k m hm
  have ti : (Int32.ofInt i).toInt = i := zi_to ⟨by omega, by omega⟩
  have cl : (Int32.ofInt i).toNatClampNeg = i.toNat := by show (Int32.ofInt i).toInt.toNat = _; rw [ti]
  refine sx_iaX ht ?_ ?_
  · intro q
    rcases q with q | q
    · rw [Int32.lt_iff_toInt_lt, ti] at q
      have : (0 : Int32).toInt = 0 := rfl
      omega
    · omega
  · rw [cl]
    rw [show zi_i (zw_s E i) = .int (sx_xs E i.toNat) by show Value.int (Int32.ofInt (Int32.toInt _)) = _; rw [Int32.ofInt_toInt]] at h3
    exact h3
end
noncomputable def zw_Q : Option Value → sx_M → Prop := zi_Qb (fun v _ => v = 1)
theorem zw_eqb {p : Prop} {v w : Int} (h : (p → v = 1) ∧ (¬ p → v = 0)) (h2 : (p → w = 1) ∧ (¬ p → w = 0)) : v = w := by
  by_cases c : p
  · rw [h.1 c, h2.1 c]
  · rw [h.2 c, h2.2 c]
theorem zgm_f {q1 q2 v1 v2 f0 f1 f2 m0 m1 m2 : Int} (e : q1 = q2) (r : f0 = m0) (a1 : ¬ q1 = 0 → v1 = 1 ∧ f1 = 1) (a2 : q1 = 0 → ¬ f0 = 0 → v1 = 1 ∧ f1 = f0) (a3 : q1 = 0 → f0 = 0 → f1 = f0) (b1 : (¬ q2 = 0 ∨ ¬ m1 = 0 → v2 = 1) ∧ (q2 = 0 ∧ m1 = 0 → v2 = 0)) (b2 : (¬ q2 = 0 → m2 = 1) ∧ (q2 = 0 → m2 = m1)) (c1 : m1 = m0) (c2 : f2 = f1) : f2 = m2 ∧ ((¬ q1 = 0 ∧ ¬ q2 = 0 ∧ v2 = 1 ∧ f2 = 1) ∨ (q1 = 0 ∧ q2 = 0 ∧ ¬ f0 = 0 ∧ v2 = 1 ∧ f2 = f0) ∨ (q1 = 0 ∧ q2 = 0 ∧ f0 = 0 ∧ v2 = 0 ∧ f2 = f0)) := by
  by_cases h : q1 = 0
  · by_cases k : f0 = 0
    · have x := a3 h k
      have y := b1.2 ⟨e ▸ h, by rw [c1, ← r]; exact k⟩
      have z := b2.2 (e ▸ h)
      clear a1 a2 a3 b1 b2
      exact ⟨by omega, Or.inr (Or.inr ⟨h, e ▸ h, k, y, by omega⟩)⟩
    · have x := (a2 h k).2
      have y := b1.1 (Or.inr (by rw [c1, ← r]; exact k))
      have z := b2.2 (e ▸ h)
      clear a1 a2 a3 b1 b2
      exact ⟨by omega, Or.inr (Or.inl ⟨h, e ▸ h, k, y, by omega⟩)⟩
  · have x := (a1 h).2
    have h2 : ¬ q2 = 0 := e ▸ h
    have y := b1.1 (Or.inl h2)
    have z := b2.1 h2
    clear a1 a2 a3 b1 b2
    exact ⟨by omega, Or.inl ⟨h, h2, y, by omega⟩⟩
theorem zgm_c {q1 q2 v2 f0 f2 x0 x1 x2 k0 k1 k2 r0 r1 r2 p0 p1 p2 : Int} (cs : (¬ q1 = 0 ∧ ¬ q2 = 0 ∧ v2 = 1 ∧ f2 = 1) ∨ (q1 = 0 ∧ q2 = 0 ∧ ¬ f0 = 0 ∧ v2 = 1 ∧ f2 = f0) ∨ (q1 = 0 ∧ q2 = 0 ∧ f0 = 0 ∧ v2 = 0 ∧ f2 = f0)) (t : ¬ q1 = 0 → k1 = x0 ∧ x1 = x0) (u : q1 = 0 → ¬ f0 = 0 → x1 = k0 ∧ k1 = k0) (w : q1 = 0 → f0 = 0 → x1 = x0 ∧ k1 = k0) (t2 : v2 = 1 → ¬ q2 = 0 → p2 = r1 ∧ r2 = r1) (u2 : v2 = 1 → q2 = 0 → r2 = p1 ∧ p2 = p1) (w2 : v2 = 0 → r2 = r1 ∧ p2 = p1) (cr : r1 = r0) (cp : p1 = p0) (cx : x2 = x1) (ck : k2 = k1) (b : 0 ≤ f0 ∧ f0 ≤ 1) (R : x0 = r0) (K : f0 = 1 → k0 = p0) : x2 = r2 ∧ (f2 = 1 → k2 = p2) := by
  rcases cs with ⟨h1, h2, h3, h4⟩ | ⟨h1, h2, h3, h4, h5⟩ | ⟨h1, h2, h3, h4, h5⟩
  · have a := t h1
    have c := t2 h3 h2
    clear t u w t2 u2 w2 K
    exact ⟨by omega, fun _ => by omega⟩
  · have a := u h1 h3
    have c := u2 h4 h2
    have d := K (by omega)
    clear t u w t2 u2 w2 K
    exact ⟨by omega, fun _ => by omega⟩
  · have a := w h1 h3
    have c := w2 h4
    clear t u w t2 u2 w2 K
    exact ⟨by omega, fun q => by exfalso; omega⟩
theorem zse_c {l : Int} {P1 P2 : Prop} {v1 v2 x0 x1 x2 y0 y1 y2 : Int} (a1 : l = -1 → v1 = 0 ∧ x1 = 0) (a2 : ¬ l = -1 → P1 → v1 = x0 + 1 ∧ x1 = x0 + 1) (a3 : ¬ l = -1 → ¬ P1 → v1 = -1 ∧ x1 = x0) (b1 : l = -1 → v2 = 0 ∧ y2 = 0) (b2 : ¬ l = -1 → P2 → v2 = y1 + 1 ∧ y2 = y1 + 1) (b3 : ¬ l = -1 → ¬ P2 → v2 = -1 ∧ y2 = y1) (e : P2 ↔ P1) (r : x0 = y0) (cx : x2 = x1) (cy : y1 = y0) : v2 = v1 ∧ x2 = y2 := by
  by_cases q : l = -1
  · have u := a1 q; have w := b1 q; clear a1 a2 a3 b1 b2 b3; omega
  · by_cases p : P1
    · have u := a2 q p; have w := b2 q (e.2 p); clear a1 a2 a3 b1 b2 b3; omega
    · have u := a3 q p; have w := b3 q (fun z => p (e.1 z)); clear a1 a2 a3 b1 b2 b3; omega
theorem zgm_1 {x : Int} (b : 0 ≤ x ∧ x ≤ 1) (h : ¬ x = 0) : x = 1 := by omega
theorem zmr_p {P : Prop} {x0 x1 x2 y0 y1 y2 d m : Int} (a5 : x0 = y0 + m) (b1 : (P → x1 = d) ∧ (¬ P → x1 = x0)) (d1 : y1 = y0) (b2 : (P → y2 = d - m) ∧ (¬ P → y2 = y1)) (d2 : x2 = x1) : x2 = y2 + m := by
  by_cases h : P
  · have u := b1.1 h; have w := b2.1 h; omega
  · have u := b1.2 h; have w := b2.2 h; omega
theorem zgm_q {w q1 q2 : Int} (a : w = 0 → q1 = 0) (b : ¬ w = 0 → q1 = 1) (c : w = 0 → q2 = 0) (d : ¬ w = 0 → q2 = 1) : q1 = q2 := by
  by_cases h : w = 0
  · rw [a h, c h]
  · rw [b h, d h]
/-- what each call keeps -/
noncomputable def zw_R (g : zi_M) : Prop := zk_I g ∧ (g 191 5 = g 214 33) ∧ (g 191 6 = g 214 34) ∧ (g 0 2 = g 214 62) ∧ (g 0 8 = g 214 13) ∧ (g 190 = g 222) ∧ (g 2 8 = g 214 6) ∧ (g 0 2 = 1 → g 47 8 = g 250 264) ∧ (g 2 11 = g 214 7) ∧ (g 0 2 = 1 → g 47 11 = g 250 265) ∧ (zP g)
theorem zPc_le {a : Nat} {i : Int} (h : zPc a i) : a ≤ 164 := by unfold zPc at h; omega
theorem zw_R0 : zw_R zw_g0 := ⟨zw_g0_I, by decide +kernel, by decide +kernel, by decide +kernel, by decide +kernel, funext fun k => rfl, by decide +kernel, by decide +kernel, by decide +kernel, by decide +kernel, zP_0 (by decide +kernel)⟩
theorem zpf_M_state {a : Nat} {i : Int} (hc : zPc a i) : ¬ fr_M_state a i := fun w => by
  have ha := zPc_le hc
  unfold fr_M_state at w
  clear hc
  omega
set_option maxRecDepth 100000 in
set_option maxHeartbeats 4000000 in
theorem zw_c0 {E : sx_E} {i : Int} {g : zi_M} (hL : sx_Ln E ≤ 3072) (h0 : 0 ≤ i) (h6 : i + 6 ≤ ((sx_Ln E : Nat) : Int)) (R : zw_R g) (k : ∀ g' : zi_M, zw_R g' → zi_W E 420 326 1356 [some (.ref 1000000000), some (.ref 0), some (.ref 214), some (zi_i i)] [] g' zw_Q) : zi_W E 420 326 200 [some (.ref 1000000000), some (.ref 0), some (.ref 214), some (zi_i i)] [] g zw_Q := by
  obtain ⟨I, R0, R1, R2, R3, R4, R5, R6, R7, R8, R9⟩ := R
  refine zi_aload_n (pc' := 201) rfl rfl rfl ?_
  refine zi_aload_n (pc' := 202) rfl rfl rfl ?_
  refine zi_iload_n (pc' := 203) rfl rfl rfl ?_
  refine zi_iconst (pc' := 204) rfl rfl ?_
  refine zi_iadd (pc' := 205) rfl rfl ?_
  refine zi_xald (pc' := 206) rfl rfl hL ⟨by omega, by omega⟩ ?_
  refine zi_callV (d' := 2) (as := [_]) (pc' := 209) rfl rfl rfl rfl (by decide) (s_S_state (Q := fun v g' => zk_I g' ∧ zk_fr fr_S_state g g' ∧ ((-2147483648) ≤ v ∧ v ≤ 2147483647) ∧ (g' 91 1 = 0)) (Nat.le_refl _) (k_S_state I (zw_r _ _) (fun v g' I' F' h0 h1 => ⟨I', F', h0, h1⟩))) (zi_ki (fun v1 g1 h1 => ?_))
  obtain ⟨I1, F1, p1_0, p1_1⟩ := h1
  have c1_0_2 : g1 0 2 = g 0 2 := F1 0 2 (by first | (simp [fr_S_state]; done) | (unfold fr_S_state; omega))
  have c1_0_8 : g1 0 8 = g 0 8 := F1 0 8 (by first | (simp [fr_S_state]; done) | (unfold fr_S_state; omega))
  have c1_2_8 : g1 2 8 = g 2 8 := F1 2 8 (by first | (simp [fr_S_state]; done) | (unfold fr_S_state; omega))
  have c1_2_11 : g1 2 11 = g 2 11 := F1 2 11 (by first | (simp [fr_S_state]; done) | (unfold fr_S_state; omega))
  have c1_47_8 : g1 47 8 = g 47 8 := F1 47 8 (by first | (simp [fr_S_state]; done) | (unfold fr_S_state; omega))
  have c1_47_11 : g1 47 11 = g 47 11 := F1 47 11 (by first | (simp [fr_S_state]; done) | (unfold fr_S_state; omega))
  have c1_191_5 : g1 191 5 = g 191 5 := F1 191 5 (by first | (simp [fr_S_state]; done) | (unfold fr_S_state; omega))
  have c1_191_6 : g1 191 6 = g 191 6 := F1 191 6 (by first | (simp [fr_S_state]; done) | (unfold fr_S_state; omega))
  have c1_214_6 : g1 214 6 = g 214 6 := F1 214 6 (by first | (simp [fr_S_state]; done) | (unfold fr_S_state; omega))
  have c1_214_7 : g1 214 7 = g 214 7 := F1 214 7 (by first | (simp [fr_S_state]; done) | (unfold fr_S_state; omega))
  have c1_214_13 : g1 214 13 = g 214 13 := F1 214 13 (by first | (simp [fr_S_state]; done) | (unfold fr_S_state; omega))
  have c1_214_33 : g1 214 33 = g 214 33 := F1 214 33 (by first | (simp [fr_S_state]; done) | (unfold fr_S_state; omega))
  have c1_214_34 : g1 214 34 = g 214 34 := F1 214 34 (by first | (simp [fr_S_state]; done) | (unfold fr_S_state; omega))
  have c1_214_62 : g1 214 62 = g 214 62 := F1 214 62 (by first | (simp [fr_S_state]; done) | (unfold fr_S_state; omega))
  have c1_250_264 : g1 250 264 = g 250 264 := F1 250 264 (by first | (simp [fr_S_state]; done) | (unfold fr_S_state; omega))
  have c1_250_265 : g1 250 265 = g 250 265 := F1 250 265 (by first | (simp [fr_S_state]; done) | (unfold fr_S_state; omega))
  have Z1 : zP g1 := zP_0 p1_1
  refine zi_pop (pc' := 210) rfl rfl rfl ?_
  refine zi_aload_n (pc' := 211) rfl rfl rfl ?_
  refine zi_aload_n (pc' := 212) rfl rfl rfl ?_
  refine zi_iload_n (pc' := 213) rfl rfl rfl ?_
  refine zi_iconst (pc' := 214) rfl rfl ?_
  refine zi_iadd (pc' := 215) rfl rfl ?_
  refine zi_xald (pc' := 216) rfl rfl hL ⟨by omega, by omega⟩ ?_
  refine zi_callV (d' := 1) (as := [_]) (pc' := 219) rfl rfl rfl rfl (by decide) (s_M_state (Q := fun v g' => zk_I g' ∧ zk_fr fr_M_state g1 g') (Nat.le_refl _) (k_M_state I1 (zw_r _ _) (fun v g' I' F' h0 => ⟨I', F'⟩))) (zi_ki (fun v2 g2 h2 => ?_))
  obtain ⟨I2, F2⟩ := h2
  have c2_0_2 : g2 0 2 = g1 0 2 := F2 0 2 (by first | (simp [fr_M_state]; done) | (unfold fr_M_state; omega))
  have c2_0_8 : g2 0 8 = g1 0 8 := F2 0 8 (by first | (simp [fr_M_state]; done) | (unfold fr_M_state; omega))
  have c2_2_8 : g2 2 8 = g1 2 8 := F2 2 8 (by first | (simp [fr_M_state]; done) | (unfold fr_M_state; omega))
  have c2_2_11 : g2 2 11 = g1 2 11 := F2 2 11 (by first | (simp [fr_M_state]; done) | (unfold fr_M_state; omega))
  have c2_47_8 : g2 47 8 = g1 47 8 := F2 47 8 (by first | (simp [fr_M_state]; done) | (unfold fr_M_state; omega))
  have c2_47_11 : g2 47 11 = g1 47 11 := F2 47 11 (by first | (simp [fr_M_state]; done) | (unfold fr_M_state; omega))
  have c2_191_5 : g2 191 5 = g1 191 5 := F2 191 5 (by first | (simp [fr_M_state]; done) | (unfold fr_M_state; omega))
  have c2_191_6 : g2 191 6 = g1 191 6 := F2 191 6 (by first | (simp [fr_M_state]; done) | (unfold fr_M_state; omega))
  have c2_214_6 : g2 214 6 = g1 214 6 := F2 214 6 (by first | (simp [fr_M_state]; done) | (unfold fr_M_state; omega))
  have c2_214_7 : g2 214 7 = g1 214 7 := F2 214 7 (by first | (simp [fr_M_state]; done) | (unfold fr_M_state; omega))
  have c2_214_13 : g2 214 13 = g1 214 13 := F2 214 13 (by first | (simp [fr_M_state]; done) | (unfold fr_M_state; omega))
  have c2_214_33 : g2 214 33 = g1 214 33 := F2 214 33 (by first | (simp [fr_M_state]; done) | (unfold fr_M_state; omega))
  have c2_214_34 : g2 214 34 = g1 214 34 := F2 214 34 (by first | (simp [fr_M_state]; done) | (unfold fr_M_state; omega))
  have c2_214_62 : g2 214 62 = g1 214 62 := F2 214 62 (by first | (simp [fr_M_state]; done) | (unfold fr_M_state; omega))
  have c2_250_264 : g2 250 264 = g1 250 264 := F2 250 264 (by first | (simp [fr_M_state]; done) | (unfold fr_M_state; omega))
  have c2_250_265 : g2 250 265 = g1 250 265 := F2 250 265 (by first | (simp [fr_M_state]; done) | (unfold fr_M_state; omega))
  have Z2 : zP g2 := zP_eq (fun a i hc => F2 a i (zpf_M_state hc)) Z1
  refine zi_pop (pc' := 220) rfl rfl rfl ?_
  refine zi_goto (x := 1356) rfl ?_
  exact k _ ⟨I2, (by rw [c2_191_5, c1_191_5, c2_214_33, c1_214_33]; exact R0), (by rw [c2_191_6, c1_191_6, c2_214_34, c1_214_34]; exact R1), (by rw [c2_0_2, c1_0_2, c2_214_62, c1_214_62]; exact R2), (by rw [c2_0_8, c1_0_8, c2_214_13, c1_214_13]; exact R3), (funext fun k => by rw [F2 190 k (by first | (simp [fr_M_state]; done) | (unfold fr_M_state; omega)), F1 190 k (by first | (simp [fr_S_state]; done) | (unfold fr_S_state; omega)), F2 222 k (by first | (simp [fr_M_state]; done) | (unfold fr_M_state; omega)), F1 222 k (by first | (simp [fr_S_state]; done) | (unfold fr_S_state; omega))]; exact congrFun R4 k), (by rw [c2_2_8, c1_2_8, c2_214_6, c1_214_6]; exact R5), (fun q => by rw [c2_47_8, c1_47_8, c2_250_264, c1_250_264]; exact R6 (by rw [c2_0_2, c1_0_2] at q; exact q)), (by rw [c2_2_11, c1_2_11, c2_214_7, c1_214_7]; exact R7), (fun q => by rw [c2_47_11, c1_47_11, c2_250_265, c1_250_265]; exact R8 (by rw [c2_0_2, c1_0_2] at q; exact q)), Z2⟩
theorem zpf_M_spout {a : Nat} {i : Int} (hc : zPc a i) : ¬ fr_M_spout a i := fun w => by
  have ha := zPc_le hc
  unfold fr_M_spout at w
  clear hc
  omega
set_option maxRecDepth 100000 in
set_option maxHeartbeats 4000000 in
theorem zw_c1 {E : sx_E} {i : Int} {g : zi_M} (hL : sx_Ln E ≤ 3072) (h0 : 0 ≤ i) (h6 : i + 6 ≤ ((sx_Ln E : Nat) : Int)) (R : zw_R g) (k : ∀ g' : zi_M, zw_R g' → zi_W E 420 326 1356 [some (.ref 1000000000), some (.ref 0), some (.ref 214), some (zi_i i)] [] g' zw_Q) : zi_W E 420 326 223 [some (.ref 1000000000), some (.ref 0), some (.ref 214), some (zi_i i)] [] g zw_Q := by
  obtain ⟨I, R0, R1, R2, R3, R4, R5, R6, R7, R8, R9⟩ := R
  refine zi_aload_n (pc' := 224) rfl rfl rfl ?_
  refine zi_aload_n (pc' := 225) rfl rfl rfl ?_
  refine zi_iload_n (pc' := 226) rfl rfl rfl ?_
  refine zi_iconst (pc' := 227) rfl rfl ?_
  refine zi_iadd (pc' := 228) rfl rfl ?_
  refine zi_xald (pc' := 229) rfl rfl hL ⟨by omega, by omega⟩ ?_
  refine zi_aload_n (pc' := 230) rfl rfl rfl ?_
  refine zi_iload_n (pc' := 231) rfl rfl rfl ?_
  refine zi_iconst (pc' := 232) rfl rfl ?_
  refine zi_iadd (pc' := 233) rfl rfl ?_
  refine zi_xald (pc' := 234) rfl rfl hL ⟨by omega, by omega⟩ ?_
  refine zi_aload_n (pc' := 235) rfl rfl rfl ?_
  refine zi_iload_n (pc' := 236) rfl rfl rfl ?_
  refine zi_iconst (pc' := 237) rfl rfl ?_
  refine zi_iadd (pc' := 238) rfl rfl ?_
  refine zi_xald (pc' := 239) rfl rfl hL ⟨by omega, by omega⟩ ?_
  refine zi_callV (d' := 2) (as := [_, _, _]) (pc' := 242) rfl rfl rfl rfl (by decide) (s_S_spout (Q := fun v g' => zk_I g' ∧ zk_fr fr_S_spout g g' ∧ ((-1) ≤ v ∧ v ≤ 9) ∧ (0 ≤ (zw_s E (i + 1)) ∧ (zw_s E (i + 1)) ≤ 5 ∧ 0 ≤ (zw_s E (i + 2)) ∧ (zw_s E (i + 2)) ≤ 3 ∧ 0 ≤ (zw_s E (i + 3)) ∧ (zw_s E (i + 3)) ≤ 99 ∧ g 2 8 < 10 → v = g 2 8 ∧ g' 2 8 = g 2 8 + 1) ∧ (¬ (0 ≤ (zw_s E (i + 1)) ∧ (zw_s E (i + 1)) ≤ 5 ∧ 0 ≤ (zw_s E (i + 2)) ∧ (zw_s E (i + 2)) ≤ 3 ∧ 0 ≤ (zw_s E (i + 3)) ∧ (zw_s E (i + 3)) ≤ 99 ∧ g 2 8 < 10) → v = -1 ∧ g' 2 8 = g 2 8) ∧ (¬ v = -1 → g' 91 1 = 0) ∧ (v = -1 → g' = g) ∧ (∀ k : Int, 0 ≤ k ∧ k < 10 → (¬ v = -1 ∧ k = g 2 8 → g' 5 k = (zw_s E (i + 3))) ∧ (¬ (¬ v = -1 ∧ k = g 2 8) → g' 5 k = g 5 k))) (Nat.le_refl _) (k_S_spout I (zw_r _ _) (zw_r _ _) (zw_r _ _) (fun v g' I' F' h0 h1 h2 h3 h4 h5 => ⟨I', F', h0, h1, h2, h3, h4, h5⟩))) (zi_ki (fun v1 g1 h1 => ?_))
  obtain ⟨I1, F1, p1_0, p1_1, p1_2, p1_3, p1_4, p1_5⟩ := h1
  have c1_0_2 : g1 0 2 = g 0 2 := F1 0 2 (by first | (simp [fr_S_spout]; done) | (unfold fr_S_spout; omega))
  have c1_0_8 : g1 0 8 = g 0 8 := F1 0 8 (by first | (simp [fr_S_spout]; done) | (unfold fr_S_spout; omega))
  have c1_2_11 : g1 2 11 = g 2 11 := F1 2 11 (by first | (simp [fr_S_spout]; done) | (unfold fr_S_spout; omega))
  have c1_47_8 : g1 47 8 = g 47 8 := F1 47 8 (by first | (simp [fr_S_spout]; done) | (unfold fr_S_spout; omega))
  have c1_47_11 : g1 47 11 = g 47 11 := F1 47 11 (by first | (simp [fr_S_spout]; done) | (unfold fr_S_spout; omega))
  have c1_191_5 : g1 191 5 = g 191 5 := F1 191 5 (by first | (simp [fr_S_spout]; done) | (unfold fr_S_spout; omega))
  have c1_191_6 : g1 191 6 = g 191 6 := F1 191 6 (by first | (simp [fr_S_spout]; done) | (unfold fr_S_spout; omega))
  have c1_214_6 : g1 214 6 = g 214 6 := F1 214 6 (by first | (simp [fr_S_spout]; done) | (unfold fr_S_spout; omega))
  have c1_214_7 : g1 214 7 = g 214 7 := F1 214 7 (by first | (simp [fr_S_spout]; done) | (unfold fr_S_spout; omega))
  have c1_214_13 : g1 214 13 = g 214 13 := F1 214 13 (by first | (simp [fr_S_spout]; done) | (unfold fr_S_spout; omega))
  have c1_214_33 : g1 214 33 = g 214 33 := F1 214 33 (by first | (simp [fr_S_spout]; done) | (unfold fr_S_spout; omega))
  have c1_214_34 : g1 214 34 = g 214 34 := F1 214 34 (by first | (simp [fr_S_spout]; done) | (unfold fr_S_spout; omega))
  have c1_214_62 : g1 214 62 = g 214 62 := F1 214 62 (by first | (simp [fr_S_spout]; done) | (unfold fr_S_spout; omega))
  have c1_250_264 : g1 250 264 = g 250 264 := F1 250 264 (by first | (simp [fr_S_spout]; done) | (unfold fr_S_spout; omega))
  have c1_250_265 : g1 250 265 = g 250 265 := F1 250 265 (by first | (simp [fr_S_spout]; done) | (unfold fr_S_spout; omega))
  have Z1 : zP g1 := by
    by_cases hv : v1 = -1
    · rw [p1_4 hv]; exact R9
    · exact zP_0 (p1_3 hv)
  clear p1_4
  refine zi_pop (pc' := 243) rfl rfl rfl ?_
  refine zi_aload_n (pc' := 244) rfl rfl rfl ?_
  refine zi_aload_n (pc' := 245) rfl rfl rfl ?_
  refine zi_iload_n (pc' := 246) rfl rfl rfl ?_
  refine zi_iconst (pc' := 247) rfl rfl ?_
  refine zi_iadd (pc' := 248) rfl rfl ?_
  refine zi_xald (pc' := 249) rfl rfl hL ⟨by omega, by omega⟩ ?_
  refine zi_aload_n (pc' := 250) rfl rfl rfl ?_
  refine zi_iload_n (pc' := 251) rfl rfl rfl ?_
  refine zi_iconst (pc' := 252) rfl rfl ?_
  refine zi_iadd (pc' := 253) rfl rfl ?_
  refine zi_xald (pc' := 254) rfl rfl hL ⟨by omega, by omega⟩ ?_
  refine zi_aload_n (pc' := 255) rfl rfl rfl ?_
  refine zi_iload_n (pc' := 256) rfl rfl rfl ?_
  refine zi_iconst (pc' := 257) rfl rfl ?_
  refine zi_iadd (pc' := 258) rfl rfl ?_
  refine zi_xald (pc' := 259) rfl rfl hL ⟨by omega, by omega⟩ ?_
  refine zi_callV (d' := 2) (as := [_, _, _]) (pc' := 262) rfl rfl rfl rfl (by decide) (s_M_spout (Q := fun v g' => zk_I g' ∧ zk_fr fr_M_spout g1 g' ∧ ((-1) ≤ v ∧ v ≤ 9) ∧ (0 ≤ (zw_s E (i + 1)) ∧ (zw_s E (i + 1)) ≤ 5 ∧ 0 ≤ (zw_s E (i + 2)) ∧ (zw_s E (i + 2)) ≤ 3 ∧ 0 ≤ (zw_s E (i + 3)) ∧ (zw_s E (i + 3)) ≤ 99 ∧ g1 214 6 < 10 → v = g1 214 6 ∧ g' 214 6 = g1 214 6 + 1) ∧ (¬ (0 ≤ (zw_s E (i + 1)) ∧ (zw_s E (i + 1)) ≤ 5 ∧ 0 ≤ (zw_s E (i + 2)) ∧ (zw_s E (i + 2)) ≤ 3 ∧ 0 ≤ (zw_s E (i + 3)) ∧ (zw_s E (i + 3)) ≤ 99 ∧ g1 214 6 < 10) → v = -1 ∧ g' 214 6 = g1 214 6) ∧ (∀ k : Int, 0 ≤ k ∧ k < 10 → (¬ v = -1 ∧ k = g1 214 6 → g' 220 k = (zw_s E (i + 3))) ∧ (¬ (¬ v = -1 ∧ k = g1 214 6) → g' 220 k = g1 220 k))) (Nat.le_refl _) (k_M_spout I1 (zw_r _ _) (zw_r _ _) (zw_r _ _) (fun v g' I' F' h0 h1 h2 h3 => ⟨I', F', h0, h1, h2, h3⟩))) (zi_ki (fun v2 g2 h2 => ?_))
  obtain ⟨I2, F2, p2_0, p2_1, p2_2, p2_3⟩ := h2
  have c2_0_2 : g2 0 2 = g1 0 2 := F2 0 2 (by first | (simp [fr_M_spout]; done) | (unfold fr_M_spout; omega))
  have c2_0_8 : g2 0 8 = g1 0 8 := F2 0 8 (by first | (simp [fr_M_spout]; done) | (unfold fr_M_spout; omega))
  have c2_2_8 : g2 2 8 = g1 2 8 := F2 2 8 (by first | (simp [fr_M_spout]; done) | (unfold fr_M_spout; omega))
  have c2_2_11 : g2 2 11 = g1 2 11 := F2 2 11 (by first | (simp [fr_M_spout]; done) | (unfold fr_M_spout; omega))
  have c2_47_8 : g2 47 8 = g1 47 8 := F2 47 8 (by first | (simp [fr_M_spout]; done) | (unfold fr_M_spout; omega))
  have c2_47_11 : g2 47 11 = g1 47 11 := F2 47 11 (by first | (simp [fr_M_spout]; done) | (unfold fr_M_spout; omega))
  have c2_191_5 : g2 191 5 = g1 191 5 := F2 191 5 (by first | (simp [fr_M_spout]; done) | (unfold fr_M_spout; omega))
  have c2_191_6 : g2 191 6 = g1 191 6 := F2 191 6 (by first | (simp [fr_M_spout]; done) | (unfold fr_M_spout; omega))
  have c2_214_7 : g2 214 7 = g1 214 7 := F2 214 7 (by first | (simp [fr_M_spout]; done) | (unfold fr_M_spout; omega))
  have c2_214_13 : g2 214 13 = g1 214 13 := F2 214 13 (by first | (simp [fr_M_spout]; done) | (unfold fr_M_spout; omega))
  have c2_214_33 : g2 214 33 = g1 214 33 := F2 214 33 (by first | (simp [fr_M_spout]; done) | (unfold fr_M_spout; omega))
  have c2_214_34 : g2 214 34 = g1 214 34 := F2 214 34 (by first | (simp [fr_M_spout]; done) | (unfold fr_M_spout; omega))
  have c2_214_62 : g2 214 62 = g1 214 62 := F2 214 62 (by first | (simp [fr_M_spout]; done) | (unfold fr_M_spout; omega))
  have c2_250_264 : g2 250 264 = g1 250 264 := F2 250 264 (by first | (simp [fr_M_spout]; done) | (unfold fr_M_spout; omega))
  have c2_250_265 : g2 250 265 = g1 250 265 := F2 250 265 (by first | (simp [fr_M_spout]; done) | (unfold fr_M_spout; omega))
  have Z2 : zP g2 := zP_eq (fun a i hc => F2 a i (zpf_M_spout hc)) Z1
  refine zi_pop (pc' := 263) rfl rfl rfl ?_
  refine zi_goto (x := 1356) rfl ?_
  exact k _ ⟨I2, (by rw [c2_191_5, c1_191_5, c2_214_33, c1_214_33]; exact R0), (by rw [c2_191_6, c1_191_6, c2_214_34, c1_214_34]; exact R1), (by rw [c2_0_2, c1_0_2, c2_214_62, c1_214_62]; exact R2), (by rw [c2_0_8, c1_0_8, c2_214_13, c1_214_13]; exact R3), (funext fun k => by rw [F2 190 k (by first | (simp [fr_M_spout]; done) | (unfold fr_M_spout; omega)), F1 190 k (by first | (simp [fr_S_spout]; done) | (unfold fr_S_spout; omega)), F2 222 k (by first | (simp [fr_M_spout]; done) | (unfold fr_M_spout; omega)), F1 222 k (by first | (simp [fr_S_spout]; done) | (unfold fr_S_spout; omega))]; exact congrFun R4 k), by omega, (fun q => by rw [c2_47_8, c1_47_8, c2_250_264, c1_250_264]; exact R6 (by rw [c2_0_2, c1_0_2] at q; exact q)), (by rw [c2_2_11, c1_2_11, c2_214_7, c1_214_7]; exact R7), (fun q => by rw [c2_47_11, c1_47_11, c2_250_265, c1_250_265]; exact R8 (by rw [c2_0_2, c1_0_2] at q; exact q)), Z2⟩
theorem zpf_M_sitter {a : Nat} {i : Int} (hc : zPc a i) : ¬ fr_M_sitter a i := fun w => by
  have ha := zPc_le hc
  unfold fr_M_sitter at w
  clear hc
  omega
set_option maxRecDepth 100000 in
set_option maxHeartbeats 4000000 in
theorem zw_c2 {E : sx_E} {i : Int} {g : zi_M} (hL : sx_Ln E ≤ 3072) (h0 : 0 ≤ i) (h6 : i + 6 ≤ ((sx_Ln E : Nat) : Int)) (R : zw_R g) (k : ∀ g' : zi_M, zw_R g' → zi_W E 420 326 1356 [some (.ref 1000000000), some (.ref 0), some (.ref 214), some (zi_i i)] [] g' zw_Q) : zi_W E 420 326 266 [some (.ref 1000000000), some (.ref 0), some (.ref 214), some (zi_i i)] [] g zw_Q := by
  obtain ⟨I, R0, R1, R2, R3, R4, R5, R6, R7, R8, R9⟩ := R
  refine zi_aload_n (pc' := 267) rfl rfl rfl ?_
  refine zi_aload_n (pc' := 268) rfl rfl rfl ?_
  refine zi_iload_n (pc' := 269) rfl rfl rfl ?_
  refine zi_iconst (pc' := 270) rfl rfl ?_
  refine zi_iadd (pc' := 271) rfl rfl ?_
  refine zi_xald (pc' := 272) rfl rfl hL ⟨by omega, by omega⟩ ?_
  refine zi_callV (d' := 2) (as := [_]) (pc' := 275) rfl rfl rfl rfl (by decide) (s_S_sitter (Q := fun v g' => zk_I g' ∧ zk_fr fr_S_sitter g g' ∧ ((-1) ≤ v ∧ v ≤ 7) ∧ (0 ≤ (zw_s E (i + 1)) ∧ (zw_s E (i + 1)) ≤ 65535 ∧ g 2 11 < 8 → v = g 2 11 ∧ g' 2 11 = g 2 11 + 1) ∧ (¬ (0 ≤ (zw_s E (i + 1)) ∧ (zw_s E (i + 1)) ≤ 65535 ∧ g 2 11 < 8) → v = -1 ∧ g' 2 11 = g 2 11) ∧ (¬ v = -1 → g' 91 1 = 0) ∧ (v = -1 → g' = g)) (Nat.le_refl _) (k_S_sitter I (zw_r _ _) (fun v g' I' F' h0 h1 h2 h3 h4 => ⟨I', F', h0, h1, h2, h3, h4⟩))) (zi_ki (fun v1 g1 h1 => ?_))
  obtain ⟨I1, F1, p1_0, p1_1, p1_2, p1_3, p1_4⟩ := h1
  have c1_0_2 : g1 0 2 = g 0 2 := F1 0 2 (by first | (simp [fr_S_sitter]; done) | (unfold fr_S_sitter; omega))
  have c1_0_8 : g1 0 8 = g 0 8 := F1 0 8 (by first | (simp [fr_S_sitter]; done) | (unfold fr_S_sitter; omega))
  have c1_2_8 : g1 2 8 = g 2 8 := F1 2 8 (by first | (simp [fr_S_sitter]; done) | (unfold fr_S_sitter; omega))
  have c1_47_8 : g1 47 8 = g 47 8 := F1 47 8 (by first | (simp [fr_S_sitter]; done) | (unfold fr_S_sitter; omega))
  have c1_47_11 : g1 47 11 = g 47 11 := F1 47 11 (by first | (simp [fr_S_sitter]; done) | (unfold fr_S_sitter; omega))
  have c1_191_5 : g1 191 5 = g 191 5 := F1 191 5 (by first | (simp [fr_S_sitter]; done) | (unfold fr_S_sitter; omega))
  have c1_191_6 : g1 191 6 = g 191 6 := F1 191 6 (by first | (simp [fr_S_sitter]; done) | (unfold fr_S_sitter; omega))
  have c1_214_6 : g1 214 6 = g 214 6 := F1 214 6 (by first | (simp [fr_S_sitter]; done) | (unfold fr_S_sitter; omega))
  have c1_214_7 : g1 214 7 = g 214 7 := F1 214 7 (by first | (simp [fr_S_sitter]; done) | (unfold fr_S_sitter; omega))
  have c1_214_13 : g1 214 13 = g 214 13 := F1 214 13 (by first | (simp [fr_S_sitter]; done) | (unfold fr_S_sitter; omega))
  have c1_214_33 : g1 214 33 = g 214 33 := F1 214 33 (by first | (simp [fr_S_sitter]; done) | (unfold fr_S_sitter; omega))
  have c1_214_34 : g1 214 34 = g 214 34 := F1 214 34 (by first | (simp [fr_S_sitter]; done) | (unfold fr_S_sitter; omega))
  have c1_214_62 : g1 214 62 = g 214 62 := F1 214 62 (by first | (simp [fr_S_sitter]; done) | (unfold fr_S_sitter; omega))
  have c1_250_264 : g1 250 264 = g 250 264 := F1 250 264 (by first | (simp [fr_S_sitter]; done) | (unfold fr_S_sitter; omega))
  have c1_250_265 : g1 250 265 = g 250 265 := F1 250 265 (by first | (simp [fr_S_sitter]; done) | (unfold fr_S_sitter; omega))
  have Z1 : zP g1 := by
    by_cases hv : v1 = -1
    · rw [p1_4 hv]; exact R9
    · exact zP_0 (p1_3 hv)
  clear p1_4
  refine zi_pop (pc' := 276) rfl rfl rfl ?_
  refine zi_aload_n (pc' := 277) rfl rfl rfl ?_
  refine zi_aload_n (pc' := 278) rfl rfl rfl ?_
  refine zi_iload_n (pc' := 279) rfl rfl rfl ?_
  refine zi_iconst (pc' := 280) rfl rfl ?_
  refine zi_iadd (pc' := 281) rfl rfl ?_
  refine zi_xald (pc' := 282) rfl rfl hL ⟨by omega, by omega⟩ ?_
  refine zi_callV (d' := 2) (as := [_]) (pc' := 285) rfl rfl rfl rfl (by decide) (s_M_sitter (Q := fun v g' => zk_I g' ∧ zk_fr fr_M_sitter g1 g' ∧ ((-1) ≤ v ∧ v ≤ 7) ∧ (0 ≤ (zw_s E (i + 1)) ∧ (zw_s E (i + 1)) ≤ 65535 ∧ g1 214 7 < 8 → v = g1 214 7 ∧ g' 214 7 = g1 214 7 + 1) ∧ (¬ (0 ≤ (zw_s E (i + 1)) ∧ (zw_s E (i + 1)) ≤ 65535 ∧ g1 214 7 < 8) → v = -1 ∧ g' 214 7 = g1 214 7)) (Nat.le_refl _) (k_M_sitter I1 (zw_r _ _) (fun v g' I' F' h0 h1 h2 => ⟨I', F', h0, h1, h2⟩))) (zi_ki (fun v2 g2 h2 => ?_))
  obtain ⟨I2, F2, p2_0, p2_1, p2_2⟩ := h2
  have c2_0_2 : g2 0 2 = g1 0 2 := F2 0 2 (by first | (simp [fr_M_sitter]; done) | (unfold fr_M_sitter; omega))
  have c2_0_8 : g2 0 8 = g1 0 8 := F2 0 8 (by first | (simp [fr_M_sitter]; done) | (unfold fr_M_sitter; omega))
  have c2_2_8 : g2 2 8 = g1 2 8 := F2 2 8 (by first | (simp [fr_M_sitter]; done) | (unfold fr_M_sitter; omega))
  have c2_2_11 : g2 2 11 = g1 2 11 := F2 2 11 (by first | (simp [fr_M_sitter]; done) | (unfold fr_M_sitter; omega))
  have c2_47_8 : g2 47 8 = g1 47 8 := F2 47 8 (by first | (simp [fr_M_sitter]; done) | (unfold fr_M_sitter; omega))
  have c2_47_11 : g2 47 11 = g1 47 11 := F2 47 11 (by first | (simp [fr_M_sitter]; done) | (unfold fr_M_sitter; omega))
  have c2_191_5 : g2 191 5 = g1 191 5 := F2 191 5 (by first | (simp [fr_M_sitter]; done) | (unfold fr_M_sitter; omega))
  have c2_191_6 : g2 191 6 = g1 191 6 := F2 191 6 (by first | (simp [fr_M_sitter]; done) | (unfold fr_M_sitter; omega))
  have c2_214_6 : g2 214 6 = g1 214 6 := F2 214 6 (by first | (simp [fr_M_sitter]; done) | (unfold fr_M_sitter; omega))
  have c2_214_13 : g2 214 13 = g1 214 13 := F2 214 13 (by first | (simp [fr_M_sitter]; done) | (unfold fr_M_sitter; omega))
  have c2_214_33 : g2 214 33 = g1 214 33 := F2 214 33 (by first | (simp [fr_M_sitter]; done) | (unfold fr_M_sitter; omega))
  have c2_214_34 : g2 214 34 = g1 214 34 := F2 214 34 (by first | (simp [fr_M_sitter]; done) | (unfold fr_M_sitter; omega))
  have c2_214_62 : g2 214 62 = g1 214 62 := F2 214 62 (by first | (simp [fr_M_sitter]; done) | (unfold fr_M_sitter; omega))
  have c2_250_264 : g2 250 264 = g1 250 264 := F2 250 264 (by first | (simp [fr_M_sitter]; done) | (unfold fr_M_sitter; omega))
  have c2_250_265 : g2 250 265 = g1 250 265 := F2 250 265 (by first | (simp [fr_M_sitter]; done) | (unfold fr_M_sitter; omega))
  have Z2 : zP g2 := zP_eq (fun a i hc => F2 a i (zpf_M_sitter hc)) Z1
  refine zi_pop (pc' := 286) rfl rfl rfl ?_
  refine zi_goto (x := 1356) rfl ?_
  exact k _ ⟨I2, (by rw [c2_191_5, c1_191_5, c2_214_33, c1_214_33]; exact R0), (by rw [c2_191_6, c1_191_6, c2_214_34, c1_214_34]; exact R1), (by rw [c2_0_2, c1_0_2, c2_214_62, c1_214_62]; exact R2), (by rw [c2_0_8, c1_0_8, c2_214_13, c1_214_13]; exact R3), (funext fun k => by rw [F2 190 k (by first | (simp [fr_M_sitter]; done) | (unfold fr_M_sitter; omega)), F1 190 k (by first | (simp [fr_S_sitter]; done) | (unfold fr_S_sitter; omega)), F2 222 k (by first | (simp [fr_M_sitter]; done) | (unfold fr_M_sitter; omega)), F1 222 k (by first | (simp [fr_S_sitter]; done) | (unfold fr_S_sitter; omega))]; exact congrFun R4 k), (by rw [c2_2_8, c1_2_8, c2_214_6, c1_214_6]; exact R5), (fun q => by rw [c2_47_8, c1_47_8, c2_250_264, c1_250_264]; exact R6 (by rw [c2_0_2, c1_0_2] at q; exact q)), by omega, (fun q => by rw [c2_47_11, c1_47_11, c2_250_265, c1_250_265]; exact R8 (by rw [c2_0_2, c1_0_2] at q; exact q)), Z2⟩
theorem zpf_M_set {a : Nat} {i : Int} (hc : zPc a i) : ¬ fr_M_set a i := fun w => by
  have ha := zPc_le hc
  unfold fr_M_set at w
  clear hc
  omega
set_option maxRecDepth 100000 in
set_option maxHeartbeats 4000000 in
theorem zw_c3 {E : sx_E} {i : Int} {g : zi_M} (hL : sx_Ln E ≤ 3072) (h0 : 0 ≤ i) (h6 : i + 6 ≤ ((sx_Ln E : Nat) : Int)) (R : zw_R g) (k : ∀ g' : zi_M, zw_R g' → zi_W E 420 326 1356 [some (.ref 1000000000), some (.ref 0), some (.ref 214), some (zi_i i)] [] g' zw_Q) : zi_W E 420 326 289 [some (.ref 1000000000), some (.ref 0), some (.ref 214), some (zi_i i)] [] g zw_Q := by
  obtain ⟨I, R0, R1, R2, R3, R4, R5, R6, R7, R8, R9⟩ := R
  refine zi_aload_n (pc' := 290) rfl rfl rfl ?_
  refine zi_aload_n (pc' := 291) rfl rfl rfl ?_
  refine zi_iload_n (pc' := 292) rfl rfl rfl ?_
  refine zi_iconst (pc' := 293) rfl rfl ?_
  refine zi_iadd (pc' := 294) rfl rfl ?_
  refine zi_xald (pc' := 295) rfl rfl hL ⟨by omega, by omega⟩ ?_
  refine zi_aload_n (pc' := 296) rfl rfl rfl ?_
  refine zi_iload_n (pc' := 297) rfl rfl rfl ?_
  refine zi_iconst (pc' := 298) rfl rfl ?_
  refine zi_iadd (pc' := 299) rfl rfl ?_
  refine zi_xald (pc' := 300) rfl rfl hL ⟨by omega, by omega⟩ ?_
  refine zi_aload_n (pc' := 301) rfl rfl rfl ?_
  refine zi_iload_n (pc' := 302) rfl rfl rfl ?_
  refine zi_iconst (pc' := 303) rfl rfl ?_
  refine zi_iadd (pc' := 304) rfl rfl ?_
  refine zi_xald (pc' := 305) rfl rfl hL ⟨by omega, by omega⟩ ?_
  refine zi_callV (d' := 2) (as := [_, _, _]) (pc' := 308) rfl rfl rfl rfl (by decide) (s_S_set (Q := fun v g' => zk_I g' ∧ zk_fr fr_S_set g g' ∧ (0 ≤ v ∧ v ≤ 1) ∧ (zPs (g 2 8) (g 2 11) (zw_s E (i + 1)) (zw_s E (i + 2)) (zw_s E (i + 3)) → v = 1) ∧ (¬ zPs (g 2 8) (g 2 11) (zw_s E (i + 1)) (zw_s E (i + 2)) (zw_s E (i + 3)) → v = 0) ∧ (¬ v = 0 → g' 91 1 = 0) ∧ (v = 0 → g' = g) ∧ (∀ k : Int, 0 ≤ k ∧ k < 10 → (¬ v = 0 ∧ (zw_s E (i + 1)) = 1 ∧ k = (zw_s E (i + 2)) → g' 5 k = (zw_s E (i + 3))) ∧ (¬ (¬ v = 0 ∧ (zw_s E (i + 1)) = 1 ∧ k = (zw_s E (i + 2))) → g' 5 k = g 5 k))) (Nat.le_refl _) (k_S_set I (zw_r _ _) (zw_r _ _) (zw_r _ _) (fun v g' I' F' h0 h1 h2 h3 h4 h5 => ⟨I', F', h0, h1, h2, h3, h4, h5⟩))) (zi_kb (fun v1 g1 b1 h1 => ?_))
  obtain ⟨I1, F1, p1_0, p1_1, p1_2, p1_3, p1_4, p1_5⟩ := h1
  have c1_0_2 : g1 0 2 = g 0 2 := F1 0 2 (by first | (simp [fr_S_set]; done) | (unfold fr_S_set; omega))
  have c1_0_8 : g1 0 8 = g 0 8 := F1 0 8 (by first | (simp [fr_S_set]; done) | (unfold fr_S_set; omega))
  have c1_2_8 : g1 2 8 = g 2 8 := F1 2 8 (by first | (simp [fr_S_set]; done) | (unfold fr_S_set; omega))
  have c1_2_11 : g1 2 11 = g 2 11 := F1 2 11 (by first | (simp [fr_S_set]; done) | (unfold fr_S_set; omega))
  have c1_47_8 : g1 47 8 = g 47 8 := F1 47 8 (by first | (simp [fr_S_set]; done) | (unfold fr_S_set; omega))
  have c1_47_11 : g1 47 11 = g 47 11 := F1 47 11 (by first | (simp [fr_S_set]; done) | (unfold fr_S_set; omega))
  have c1_191_5 : g1 191 5 = g 191 5 := F1 191 5 (by first | (simp [fr_S_set]; done) | (unfold fr_S_set; omega))
  have c1_191_6 : g1 191 6 = g 191 6 := F1 191 6 (by first | (simp [fr_S_set]; done) | (unfold fr_S_set; omega))
  have c1_214_6 : g1 214 6 = g 214 6 := F1 214 6 (by first | (simp [fr_S_set]; done) | (unfold fr_S_set; omega))
  have c1_214_7 : g1 214 7 = g 214 7 := F1 214 7 (by first | (simp [fr_S_set]; done) | (unfold fr_S_set; omega))
  have c1_214_13 : g1 214 13 = g 214 13 := F1 214 13 (by first | (simp [fr_S_set]; done) | (unfold fr_S_set; omega))
  have c1_214_33 : g1 214 33 = g 214 33 := F1 214 33 (by first | (simp [fr_S_set]; done) | (unfold fr_S_set; omega))
  have c1_214_34 : g1 214 34 = g 214 34 := F1 214 34 (by first | (simp [fr_S_set]; done) | (unfold fr_S_set; omega))
  have c1_214_62 : g1 214 62 = g 214 62 := F1 214 62 (by first | (simp [fr_S_set]; done) | (unfold fr_S_set; omega))
  have c1_250_264 : g1 250 264 = g 250 264 := F1 250 264 (by first | (simp [fr_S_set]; done) | (unfold fr_S_set; omega))
  have c1_250_265 : g1 250 265 = g 250 265 := F1 250 265 (by first | (simp [fr_S_set]; done) | (unfold fr_S_set; omega))
  have Z1 : zP g1 := by
    by_cases hv : v1 = 0
    · rw [p1_4 hv]; exact R9
    · exact zP_0 (p1_3 hv)
  clear p1_4
  refine zi_pop (pc' := 309) rfl rfl rfl ?_
  refine zi_aload_n (pc' := 310) rfl rfl rfl ?_
  refine zi_aload_n (pc' := 311) rfl rfl rfl ?_
  refine zi_iload_n (pc' := 312) rfl rfl rfl ?_
  refine zi_iconst (pc' := 313) rfl rfl ?_
  refine zi_iadd (pc' := 314) rfl rfl ?_
  refine zi_xald (pc' := 315) rfl rfl hL ⟨by omega, by omega⟩ ?_
  refine zi_aload_n (pc' := 316) rfl rfl rfl ?_
  refine zi_iload_n (pc' := 317) rfl rfl rfl ?_
  refine zi_iconst (pc' := 318) rfl rfl ?_
  refine zi_iadd (pc' := 319) rfl rfl ?_
  refine zi_xald (pc' := 320) rfl rfl hL ⟨by omega, by omega⟩ ?_
  refine zi_aload_n (pc' := 321) rfl rfl rfl ?_
  refine zi_iload_n (pc' := 322) rfl rfl rfl ?_
  refine zi_iconst (pc' := 323) rfl rfl ?_
  refine zi_iadd (pc' := 324) rfl rfl ?_
  refine zi_xald (pc' := 325) rfl rfl hL ⟨by omega, by omega⟩ ?_
  refine zi_callV (d' := 3) (as := [_, _, _]) (pc' := 328) rfl rfl rfl rfl (by decide) (s_M_set (Q := fun v g' => zk_I g' ∧ zk_fr fr_M_set g1 g') (Nat.le_refl _) (k_M_set I1 (zw_r _ _) (zw_r _ _) (zw_r _ _) (fun v g' I' F' h0 h1 h2 h3 => ⟨I', F'⟩))) (zi_kb (fun v2 g2 b2 h2 => ?_))
  obtain ⟨I2, F2⟩ := h2
  have c2_0_2 : g2 0 2 = g1 0 2 := F2 0 2 (by first | (simp [fr_M_set]; done) | (unfold fr_M_set; omega))
  have c2_0_8 : g2 0 8 = g1 0 8 := F2 0 8 (by first | (simp [fr_M_set]; done) | (unfold fr_M_set; omega))
  have c2_2_8 : g2 2 8 = g1 2 8 := F2 2 8 (by first | (simp [fr_M_set]; done) | (unfold fr_M_set; omega))
  have c2_2_11 : g2 2 11 = g1 2 11 := F2 2 11 (by first | (simp [fr_M_set]; done) | (unfold fr_M_set; omega))
  have c2_47_8 : g2 47 8 = g1 47 8 := F2 47 8 (by first | (simp [fr_M_set]; done) | (unfold fr_M_set; omega))
  have c2_47_11 : g2 47 11 = g1 47 11 := F2 47 11 (by first | (simp [fr_M_set]; done) | (unfold fr_M_set; omega))
  have c2_191_5 : g2 191 5 = g1 191 5 := F2 191 5 (by first | (simp [fr_M_set]; done) | (unfold fr_M_set; omega))
  have c2_191_6 : g2 191 6 = g1 191 6 := F2 191 6 (by first | (simp [fr_M_set]; done) | (unfold fr_M_set; omega))
  have c2_214_6 : g2 214 6 = g1 214 6 := F2 214 6 (by first | (simp [fr_M_set]; done) | (unfold fr_M_set; omega))
  have c2_214_7 : g2 214 7 = g1 214 7 := F2 214 7 (by first | (simp [fr_M_set]; done) | (unfold fr_M_set; omega))
  have c2_214_13 : g2 214 13 = g1 214 13 := F2 214 13 (by first | (simp [fr_M_set]; done) | (unfold fr_M_set; omega))
  have c2_214_33 : g2 214 33 = g1 214 33 := F2 214 33 (by first | (simp [fr_M_set]; done) | (unfold fr_M_set; omega))
  have c2_214_34 : g2 214 34 = g1 214 34 := F2 214 34 (by first | (simp [fr_M_set]; done) | (unfold fr_M_set; omega))
  have c2_214_62 : g2 214 62 = g1 214 62 := F2 214 62 (by first | (simp [fr_M_set]; done) | (unfold fr_M_set; omega))
  have c2_250_264 : g2 250 264 = g1 250 264 := F2 250 264 (by first | (simp [fr_M_set]; done) | (unfold fr_M_set; omega))
  have c2_250_265 : g2 250 265 = g1 250 265 := F2 250 265 (by first | (simp [fr_M_set]; done) | (unfold fr_M_set; omega))
  have Z2 : zP g2 := zP_eq (fun a i hc => F2 a i (zpf_M_set hc)) Z1
  refine zi_pop (pc' := 329) rfl rfl rfl ?_
  refine zi_goto (x := 1356) rfl ?_
  exact k _ ⟨I2, (by rw [c2_191_5, c1_191_5, c2_214_33, c1_214_33]; exact R0), (by rw [c2_191_6, c1_191_6, c2_214_34, c1_214_34]; exact R1), (by rw [c2_0_2, c1_0_2, c2_214_62, c1_214_62]; exact R2), (by rw [c2_0_8, c1_0_8, c2_214_13, c1_214_13]; exact R3), (funext fun k => by rw [F2 190 k (by first | (simp [fr_M_set]; done) | (unfold fr_M_set; omega)), F1 190 k (by first | (simp [fr_S_set]; done) | (unfold fr_S_set; omega)), F2 222 k (by first | (simp [fr_M_set]; done) | (unfold fr_M_set; omega)), F1 222 k (by first | (simp [fr_S_set]; done) | (unfold fr_S_set; omega))]; exact congrFun R4 k), (by rw [c2_2_8, c1_2_8, c2_214_6, c1_214_6]; exact R5), (fun q => by rw [c2_47_8, c1_47_8, c2_250_264, c1_250_264]; exact R6 (by rw [c2_0_2, c1_0_2] at q; exact q)), (by rw [c2_2_11, c1_2_11, c2_214_7, c1_214_7]; exact R7), (fun q => by rw [c2_47_11, c1_47_11, c2_250_265, c1_250_265]; exact R8 (by rw [c2_0_2, c1_0_2] at q; exact q)), Z2⟩
theorem zpf_M_act {a : Nat} {i : Int} (hc : zPc a i) : ¬ fr_M_act a i := fun w => by
  have ha := zPc_le hc
  unfold fr_M_act at w
  clear hc
  omega
set_option maxRecDepth 100000 in
set_option maxHeartbeats 4000000 in
theorem zw_c4 {E : sx_E} {i : Int} {g : zi_M} (hL : sx_Ln E ≤ 3072) (h0 : 0 ≤ i) (h6 : i + 6 ≤ ((sx_Ln E : Nat) : Int)) (R : zw_R g) (k : ∀ g' : zi_M, zw_R g' → zi_W E 420 326 1356 [some (.ref 1000000000), some (.ref 0), some (.ref 214), some (zi_i i)] [] g' zw_Q) : zi_W E 420 326 332 [some (.ref 1000000000), some (.ref 0), some (.ref 214), some (zi_i i)] [] g zw_Q := by
  obtain ⟨I, R0, R1, R2, R3, R4, R5, R6, R7, R8, R9⟩ := R
  refine zi_aload_n (pc' := 333) rfl rfl rfl ?_
  refine zi_aload_n (pc' := 334) rfl rfl rfl ?_
  refine zi_iload_n (pc' := 335) rfl rfl rfl ?_
  refine zi_iconst (pc' := 336) rfl rfl ?_
  refine zi_iadd (pc' := 337) rfl rfl ?_
  refine zi_xald (pc' := 338) rfl rfl hL ⟨by omega, by omega⟩ ?_
  refine zi_aload_n (pc' := 339) rfl rfl rfl ?_
  refine zi_iload_n (pc' := 340) rfl rfl rfl ?_
  refine zi_iconst (pc' := 341) rfl rfl ?_
  refine zi_iadd (pc' := 342) rfl rfl ?_
  refine zi_xald (pc' := 343) rfl rfl hL ⟨by omega, by omega⟩ ?_
  refine zi_aload_n (pc' := 344) rfl rfl rfl ?_
  refine zi_iload_n (pc' := 345) rfl rfl rfl ?_
  refine zi_iconst (pc' := 346) rfl rfl ?_
  refine zi_iadd (pc' := 347) rfl rfl ?_
  refine zi_xald (pc' := 348) rfl rfl hL ⟨by omega, by omega⟩ ?_
  refine zi_callV (d' := 4) (as := [_, _, _]) (pc' := 351) rfl rfl rfl rfl (by decide) (s_S_act (Q := fun v g' => zk_I g' ∧ zk_fr fr_S_act g g' ∧ (0 ≤ v ∧ v ≤ 1) ∧ (zPa (g 2 8) (g 2 11) (zw_s E (i + 1)) (zw_s E (i + 2)) (zw_s E (i + 3)) → v = 1) ∧ (¬ zPa (g 2 8) (g 2 11) (zw_s E (i + 1)) (zw_s E (i + 2)) (zw_s E (i + 3)) → v = 0) ∧ (zP g → zP g')) (Nat.le_refl _) (k_S_act I (zw_r _ _) (zw_r _ _) (zw_r _ _) (fun v g' I' F' h0 h1 h2 h3 => ⟨I', F', h0, h1, h2, h3⟩))) (zi_kb (fun v1 g1 b1 h1 => ?_))
  obtain ⟨I1, F1, p1_0, p1_1, p1_2, p1_3⟩ := h1
  have c1_0_2 : g1 0 2 = g 0 2 := F1 0 2 (by first | (simp [fr_S_act]; done) | (unfold fr_S_act; omega))
  have c1_0_8 : g1 0 8 = g 0 8 := F1 0 8 (by first | (simp [fr_S_act]; done) | (unfold fr_S_act; omega))
  have c1_2_8 : g1 2 8 = g 2 8 := F1 2 8 (by first | (simp [fr_S_act]; done) | (unfold fr_S_act; omega))
  have c1_2_11 : g1 2 11 = g 2 11 := F1 2 11 (by first | (simp [fr_S_act]; done) | (unfold fr_S_act; omega))
  have c1_47_8 : g1 47 8 = g 47 8 := F1 47 8 (by first | (simp [fr_S_act]; done) | (unfold fr_S_act; omega))
  have c1_47_11 : g1 47 11 = g 47 11 := F1 47 11 (by first | (simp [fr_S_act]; done) | (unfold fr_S_act; omega))
  have c1_191_5 : g1 191 5 = g 191 5 := F1 191 5 (by first | (simp [fr_S_act]; done) | (unfold fr_S_act; omega))
  have c1_191_6 : g1 191 6 = g 191 6 := F1 191 6 (by first | (simp [fr_S_act]; done) | (unfold fr_S_act; omega))
  have c1_214_6 : g1 214 6 = g 214 6 := F1 214 6 (by first | (simp [fr_S_act]; done) | (unfold fr_S_act; omega))
  have c1_214_7 : g1 214 7 = g 214 7 := F1 214 7 (by first | (simp [fr_S_act]; done) | (unfold fr_S_act; omega))
  have c1_214_13 : g1 214 13 = g 214 13 := F1 214 13 (by first | (simp [fr_S_act]; done) | (unfold fr_S_act; omega))
  have c1_214_33 : g1 214 33 = g 214 33 := F1 214 33 (by first | (simp [fr_S_act]; done) | (unfold fr_S_act; omega))
  have c1_214_34 : g1 214 34 = g 214 34 := F1 214 34 (by first | (simp [fr_S_act]; done) | (unfold fr_S_act; omega))
  have c1_214_62 : g1 214 62 = g 214 62 := F1 214 62 (by first | (simp [fr_S_act]; done) | (unfold fr_S_act; omega))
  have c1_250_264 : g1 250 264 = g 250 264 := F1 250 264 (by first | (simp [fr_S_act]; done) | (unfold fr_S_act; omega))
  have c1_250_265 : g1 250 265 = g 250 265 := F1 250 265 (by first | (simp [fr_S_act]; done) | (unfold fr_S_act; omega))
  have Z1 : zP g1 := p1_3 R9
  clear p1_3
  refine zi_pop (pc' := 352) rfl rfl rfl ?_
  refine zi_aload_n (pc' := 353) rfl rfl rfl ?_
  refine zi_aload_n (pc' := 354) rfl rfl rfl ?_
  refine zi_iload_n (pc' := 355) rfl rfl rfl ?_
  refine zi_iconst (pc' := 356) rfl rfl ?_
  refine zi_iadd (pc' := 357) rfl rfl ?_
  refine zi_xald (pc' := 358) rfl rfl hL ⟨by omega, by omega⟩ ?_
  refine zi_aload_n (pc' := 359) rfl rfl rfl ?_
  refine zi_iload_n (pc' := 360) rfl rfl rfl ?_
  refine zi_iconst (pc' := 361) rfl rfl ?_
  refine zi_iadd (pc' := 362) rfl rfl ?_
  refine zi_xald (pc' := 363) rfl rfl hL ⟨by omega, by omega⟩ ?_
  refine zi_aload_n (pc' := 364) rfl rfl rfl ?_
  refine zi_iload_n (pc' := 365) rfl rfl rfl ?_
  refine zi_iconst (pc' := 366) rfl rfl ?_
  refine zi_iadd (pc' := 367) rfl rfl ?_
  refine zi_xald (pc' := 368) rfl rfl hL ⟨by omega, by omega⟩ ?_
  refine zi_callV (d' := 3) (as := [_, _, _]) (pc' := 371) rfl rfl rfl rfl (by decide) (s_M_act (Q := fun v g' => zk_I g' ∧ zk_fr fr_M_act g1 g') (Nat.le_refl _) (k_M_act I1 (zw_r _ _) (zw_r _ _) (zw_r _ _) (fun v g' I' F' h0 h1 h2 => ⟨I', F'⟩))) (zi_kb (fun v2 g2 b2 h2 => ?_))
  obtain ⟨I2, F2⟩ := h2
  have c2_0_2 : g2 0 2 = g1 0 2 := F2 0 2 (by first | (simp [fr_M_act]; done) | (unfold fr_M_act; omega))
  have c2_0_8 : g2 0 8 = g1 0 8 := F2 0 8 (by first | (simp [fr_M_act]; done) | (unfold fr_M_act; omega))
  have c2_2_8 : g2 2 8 = g1 2 8 := F2 2 8 (by first | (simp [fr_M_act]; done) | (unfold fr_M_act; omega))
  have c2_2_11 : g2 2 11 = g1 2 11 := F2 2 11 (by first | (simp [fr_M_act]; done) | (unfold fr_M_act; omega))
  have c2_47_8 : g2 47 8 = g1 47 8 := F2 47 8 (by first | (simp [fr_M_act]; done) | (unfold fr_M_act; omega))
  have c2_47_11 : g2 47 11 = g1 47 11 := F2 47 11 (by first | (simp [fr_M_act]; done) | (unfold fr_M_act; omega))
  have c2_191_5 : g2 191 5 = g1 191 5 := F2 191 5 (by first | (simp [fr_M_act]; done) | (unfold fr_M_act; omega))
  have c2_191_6 : g2 191 6 = g1 191 6 := F2 191 6 (by first | (simp [fr_M_act]; done) | (unfold fr_M_act; omega))
  have c2_214_6 : g2 214 6 = g1 214 6 := F2 214 6 (by first | (simp [fr_M_act]; done) | (unfold fr_M_act; omega))
  have c2_214_7 : g2 214 7 = g1 214 7 := F2 214 7 (by first | (simp [fr_M_act]; done) | (unfold fr_M_act; omega))
  have c2_214_13 : g2 214 13 = g1 214 13 := F2 214 13 (by first | (simp [fr_M_act]; done) | (unfold fr_M_act; omega))
  have c2_214_33 : g2 214 33 = g1 214 33 := F2 214 33 (by first | (simp [fr_M_act]; done) | (unfold fr_M_act; omega))
  have c2_214_34 : g2 214 34 = g1 214 34 := F2 214 34 (by first | (simp [fr_M_act]; done) | (unfold fr_M_act; omega))
  have c2_214_62 : g2 214 62 = g1 214 62 := F2 214 62 (by first | (simp [fr_M_act]; done) | (unfold fr_M_act; omega))
  have c2_250_264 : g2 250 264 = g1 250 264 := F2 250 264 (by first | (simp [fr_M_act]; done) | (unfold fr_M_act; omega))
  have c2_250_265 : g2 250 265 = g1 250 265 := F2 250 265 (by first | (simp [fr_M_act]; done) | (unfold fr_M_act; omega))
  have Z2 : zP g2 := zP_eq (fun a i hc => F2 a i (zpf_M_act hc)) Z1
  refine zi_pop (pc' := 372) rfl rfl rfl ?_
  refine zi_goto (x := 1356) rfl ?_
  exact k _ ⟨I2, (by rw [c2_191_5, c1_191_5, c2_214_33, c1_214_33]; exact R0), (by rw [c2_191_6, c1_191_6, c2_214_34, c1_214_34]; exact R1), (by rw [c2_0_2, c1_0_2, c2_214_62, c1_214_62]; exact R2), (by rw [c2_0_8, c1_0_8, c2_214_13, c1_214_13]; exact R3), (funext fun k => by rw [F2 190 k (by first | (simp [fr_M_act]; done) | (unfold fr_M_act; omega)), F1 190 k (by first | (simp [fr_S_act]; done) | (unfold fr_S_act; omega)), F2 222 k (by first | (simp [fr_M_act]; done) | (unfold fr_M_act; omega)), F1 222 k (by first | (simp [fr_S_act]; done) | (unfold fr_S_act; omega))]; exact congrFun R4 k), (by rw [c2_2_8, c1_2_8, c2_214_6, c1_214_6]; exact R5), (fun q => by rw [c2_47_8, c1_47_8, c2_250_264, c1_250_264]; exact R6 (by rw [c2_0_2, c1_0_2] at q; exact q)), (by rw [c2_2_11, c1_2_11, c2_214_7, c1_214_7]; exact R7), (fun q => by rw [c2_47_11, c1_47_11, c2_250_265, c1_250_265]; exact R8 (by rw [c2_0_2, c1_0_2] at q; exact q)), Z2⟩
theorem zpf_M_days {a : Nat} {i : Int} (hc : zPc a i) : ¬ fr_M_days a i := fun w => by
  have ha := zPc_le hc
  unfold fr_M_days at w
  clear hc
  omega
set_option maxRecDepth 100000 in
set_option maxHeartbeats 4000000 in
theorem zw_c5 {E : sx_E} {i : Int} {g : zi_M} (hL : sx_Ln E ≤ 3072) (h0 : 0 ≤ i) (h6 : i + 6 ≤ ((sx_Ln E : Nat) : Int)) (R : zw_R g) (k : ∀ g' : zi_M, zw_R g' → zi_W E 420 326 1356 [some (.ref 1000000000), some (.ref 0), some (.ref 214), some (zi_i i)] [] g' zw_Q) : zi_W E 420 326 375 [some (.ref 1000000000), some (.ref 0), some (.ref 214), some (zi_i i)] [] g zw_Q := by
  obtain ⟨I, R0, R1, R2, R3, R4, R5, R6, R7, R8, R9⟩ := R
  refine zi_aload_n (pc' := 376) rfl rfl rfl ?_
  refine zi_aload_n (pc' := 377) rfl rfl rfl ?_
  refine zi_iload_n (pc' := 378) rfl rfl rfl ?_
  refine zi_iconst (pc' := 379) rfl rfl ?_
  refine zi_iadd (pc' := 380) rfl rfl ?_
  refine zi_xald (pc' := 381) rfl rfl hL ⟨by omega, by omega⟩ ?_
  refine zi_callV (d' := 8) (as := [_]) (pc' := 384) rfl rfl rfl rfl (by decide) (s_S_days (Q := fun v g' => zk_I g' ∧ zk_fr fr_S_days g g' ∧ ((-2147483648) ≤ v ∧ v ≤ 2147483647) ∧ (zP g → zP g')) (Nat.le_refl _) (k_S_days I (zw_r _ _) (fun v g' I' F' h0 h1 => ⟨I', F', h0, h1⟩))) (zi_ki (fun v1 g1 h1 => ?_))
  obtain ⟨I1, F1, p1_0, p1_1⟩ := h1
  have c1_0_2 : g1 0 2 = g 0 2 := F1 0 2 (by first | (simp [fr_S_days]; done) | (unfold fr_S_days; omega))
  have c1_0_8 : g1 0 8 = g 0 8 := F1 0 8 (by first | (simp [fr_S_days]; done) | (unfold fr_S_days; omega))
  have c1_2_8 : g1 2 8 = g 2 8 := F1 2 8 (by first | (simp [fr_S_days]; done) | (unfold fr_S_days; omega))
  have c1_2_11 : g1 2 11 = g 2 11 := F1 2 11 (by first | (simp [fr_S_days]; done) | (unfold fr_S_days; omega))
  have c1_47_8 : g1 47 8 = g 47 8 := F1 47 8 (by first | (simp [fr_S_days]; done) | (unfold fr_S_days; omega))
  have c1_47_11 : g1 47 11 = g 47 11 := F1 47 11 (by first | (simp [fr_S_days]; done) | (unfold fr_S_days; omega))
  have c1_191_5 : g1 191 5 = g 191 5 := F1 191 5 (by first | (simp [fr_S_days]; done) | (unfold fr_S_days; omega))
  have c1_191_6 : g1 191 6 = g 191 6 := F1 191 6 (by first | (simp [fr_S_days]; done) | (unfold fr_S_days; omega))
  have c1_214_6 : g1 214 6 = g 214 6 := F1 214 6 (by first | (simp [fr_S_days]; done) | (unfold fr_S_days; omega))
  have c1_214_7 : g1 214 7 = g 214 7 := F1 214 7 (by first | (simp [fr_S_days]; done) | (unfold fr_S_days; omega))
  have c1_214_13 : g1 214 13 = g 214 13 := F1 214 13 (by first | (simp [fr_S_days]; done) | (unfold fr_S_days; omega))
  have c1_214_33 : g1 214 33 = g 214 33 := F1 214 33 (by first | (simp [fr_S_days]; done) | (unfold fr_S_days; omega))
  have c1_214_34 : g1 214 34 = g 214 34 := F1 214 34 (by first | (simp [fr_S_days]; done) | (unfold fr_S_days; omega))
  have c1_214_62 : g1 214 62 = g 214 62 := F1 214 62 (by first | (simp [fr_S_days]; done) | (unfold fr_S_days; omega))
  have c1_250_264 : g1 250 264 = g 250 264 := F1 250 264 (by first | (simp [fr_S_days]; done) | (unfold fr_S_days; omega))
  have c1_250_265 : g1 250 265 = g 250 265 := F1 250 265 (by first | (simp [fr_S_days]; done) | (unfold fr_S_days; omega))
  have Z1 : zP g1 := p1_1 R9
  clear p1_1
  refine zi_pop (pc' := 385) rfl rfl rfl ?_
  refine zi_aload_n (pc' := 386) rfl rfl rfl ?_
  refine zi_aload_n (pc' := 387) rfl rfl rfl ?_
  refine zi_iload_n (pc' := 388) rfl rfl rfl ?_
  refine zi_iconst (pc' := 389) rfl rfl ?_
  refine zi_iadd (pc' := 390) rfl rfl ?_
  refine zi_xald (pc' := 391) rfl rfl hL ⟨by omega, by omega⟩ ?_
  refine zi_callV (d' := 10) (as := [_]) (pc' := 394) rfl rfl rfl rfl (by decide) (s_M_days (Q := fun v g' => zk_I g' ∧ zk_fr fr_M_days g1 g') (Nat.le_refl _) (k_M_days I1 (zw_r _ _) (fun v g' I' F' h0 => ⟨I', F'⟩))) (zi_ki (fun v2 g2 h2 => ?_))
  obtain ⟨I2, F2⟩ := h2
  have c2_0_2 : g2 0 2 = g1 0 2 := F2 0 2 (by first | (simp [fr_M_days]; done) | (unfold fr_M_days; omega))
  have c2_0_8 : g2 0 8 = g1 0 8 := F2 0 8 (by first | (simp [fr_M_days]; done) | (unfold fr_M_days; omega))
  have c2_2_8 : g2 2 8 = g1 2 8 := F2 2 8 (by first | (simp [fr_M_days]; done) | (unfold fr_M_days; omega))
  have c2_2_11 : g2 2 11 = g1 2 11 := F2 2 11 (by first | (simp [fr_M_days]; done) | (unfold fr_M_days; omega))
  have c2_47_8 : g2 47 8 = g1 47 8 := F2 47 8 (by first | (simp [fr_M_days]; done) | (unfold fr_M_days; omega))
  have c2_47_11 : g2 47 11 = g1 47 11 := F2 47 11 (by first | (simp [fr_M_days]; done) | (unfold fr_M_days; omega))
  have c2_191_5 : g2 191 5 = g1 191 5 := F2 191 5 (by first | (simp [fr_M_days]; done) | (unfold fr_M_days; omega))
  have c2_191_6 : g2 191 6 = g1 191 6 := F2 191 6 (by first | (simp [fr_M_days]; done) | (unfold fr_M_days; omega))
  have c2_214_6 : g2 214 6 = g1 214 6 := F2 214 6 (by first | (simp [fr_M_days]; done) | (unfold fr_M_days; omega))
  have c2_214_7 : g2 214 7 = g1 214 7 := F2 214 7 (by first | (simp [fr_M_days]; done) | (unfold fr_M_days; omega))
  have c2_214_13 : g2 214 13 = g1 214 13 := F2 214 13 (by first | (simp [fr_M_days]; done) | (unfold fr_M_days; omega))
  have c2_214_33 : g2 214 33 = g1 214 33 := F2 214 33 (by first | (simp [fr_M_days]; done) | (unfold fr_M_days; omega))
  have c2_214_34 : g2 214 34 = g1 214 34 := F2 214 34 (by first | (simp [fr_M_days]; done) | (unfold fr_M_days; omega))
  have c2_214_62 : g2 214 62 = g1 214 62 := F2 214 62 (by first | (simp [fr_M_days]; done) | (unfold fr_M_days; omega))
  have c2_250_264 : g2 250 264 = g1 250 264 := F2 250 264 (by first | (simp [fr_M_days]; done) | (unfold fr_M_days; omega))
  have c2_250_265 : g2 250 265 = g1 250 265 := F2 250 265 (by first | (simp [fr_M_days]; done) | (unfold fr_M_days; omega))
  have Z2 : zP g2 := zP_eq (fun a i hc => F2 a i (zpf_M_days hc)) Z1
  refine zi_pop (pc' := 395) rfl rfl rfl ?_
  refine zi_goto (x := 1356) rfl ?_
  exact k _ ⟨I2, (by rw [c2_191_5, c1_191_5, c2_214_33, c1_214_33]; exact R0), (by rw [c2_191_6, c1_191_6, c2_214_34, c1_214_34]; exact R1), (by rw [c2_0_2, c1_0_2, c2_214_62, c1_214_62]; exact R2), (by rw [c2_0_8, c1_0_8, c2_214_13, c1_214_13]; exact R3), (funext fun k => by rw [F2 190 k (by first | (simp [fr_M_days]; done) | (unfold fr_M_days; omega)), F1 190 k (by first | (simp [fr_S_days]; done) | (unfold fr_S_days; omega)), F2 222 k (by first | (simp [fr_M_days]; done) | (unfold fr_M_days; omega)), F1 222 k (by first | (simp [fr_S_days]; done) | (unfold fr_S_days; omega))]; exact congrFun R4 k), (by rw [c2_2_8, c1_2_8, c2_214_6, c1_214_6]; exact R5), (fun q => by rw [c2_47_8, c1_47_8, c2_250_264, c1_250_264]; exact R6 (by rw [c2_0_2, c1_0_2] at q; exact q)), (by rw [c2_2_11, c1_2_11, c2_214_7, c1_214_7]; exact R7), (fun q => by rw [c2_47_11, c1_47_11, c2_250_265, c1_250_265]; exact R8 (by rw [c2_0_2, c1_0_2] at q; exact q)), Z2⟩
theorem zpf_S_feed {a : Nat} {i : Int} (hc : zPc a i) : ¬ fr_S_feed a i := fun w => by
  unfold fr_S_feed at w
  unfold zPc at hc
  omega
theorem zpf_M_feed {a : Nat} {i : Int} (hc : zPc a i) : ¬ fr_M_feed a i := fun w => by
  have ha := zPc_le hc
  unfold fr_M_feed at w
  clear hc
  omega
set_option maxRecDepth 100000 in
set_option maxHeartbeats 4000000 in
theorem zw_c6 {E : sx_E} {i : Int} {g : zi_M} (hL : sx_Ln E ≤ 3072) (h0 : 0 ≤ i) (h6 : i + 6 ≤ ((sx_Ln E : Nat) : Int)) (R : zw_R g) (k : ∀ g' : zi_M, zw_R g' → zi_W E 420 326 1356 [some (.ref 1000000000), some (.ref 0), some (.ref 214), some (zi_i i)] [] g' zw_Q) : zi_W E 420 326 398 [some (.ref 1000000000), some (.ref 0), some (.ref 214), some (zi_i i)] [] g zw_Q := by
  obtain ⟨I, R0, R1, R2, R3, R4, R5, R6, R7, R8, R9⟩ := R
  refine zi_aload_n (pc' := 399) rfl rfl rfl ?_
  refine zi_aload_n (pc' := 400) rfl rfl rfl ?_
  refine zi_iload_n (pc' := 401) rfl rfl rfl ?_
  refine zi_iconst (pc' := 402) rfl rfl ?_
  refine zi_iadd (pc' := 403) rfl rfl ?_
  refine zi_xald (pc' := 404) rfl rfl hL ⟨by omega, by omega⟩ ?_
  refine zi_aload_n (pc' := 405) rfl rfl rfl ?_
  refine zi_iload_n (pc' := 406) rfl rfl rfl ?_
  refine zi_iconst (pc' := 407) rfl rfl ?_
  refine zi_iadd (pc' := 408) rfl rfl ?_
  refine zi_xald (pc' := 409) rfl rfl hL ⟨by omega, by omega⟩ ?_
  refine zi_aload_n (pc' := 410) rfl rfl rfl ?_
  refine zi_iload_n (pc' := 411) rfl rfl rfl ?_
  refine zi_iconst (pc' := 412) rfl rfl ?_
  refine zi_iadd (pc' := 413) rfl rfl ?_
  refine zi_xald (pc' := 414) rfl rfl hL ⟨by omega, by omega⟩ ?_
  refine zi_aload_n (pc' := 415) rfl rfl rfl ?_
  refine zi_iload_n (pc' := 416) rfl rfl rfl ?_
  refine zi_iconst (pc' := 417) rfl rfl ?_
  refine zi_iadd (pc' := 418) rfl rfl ?_
  refine zi_xald (pc' := 419) rfl rfl hL ⟨by omega, by omega⟩ ?_
  refine zi_aload_n (pc' := 420) rfl rfl rfl ?_
  refine zi_iload_n (pc' := 421) rfl rfl rfl ?_
  refine zi_iconst (pc' := 422) rfl rfl ?_
  refine zi_iadd (pc' := 423) rfl rfl ?_
  refine zi_xald (pc' := 424) rfl rfl hL ⟨by omega, by omega⟩ ?_
  refine zi_callV (d' := 2) (as := [_, _, _, _, _]) (pc' := 427) rfl rfl rfl rfl (by decide) (s_S_feed (Q := fun v g' => zk_I g' ∧ zk_fr fr_S_feed g g' ∧ ((-1) ≤ v ∧ v ≤ 400) ∧ (g 0 8 ≤ 380 → v = g 0 8 + 20 ∧ g' 0 8 = g 0 8 + 20) ∧ (380 < g 0 8 → v = -1 ∧ g' 0 8 = g 0 8) ∧ (g 0 8 ≤ 380 → g' 190 = zfd (g 190) (g 0 8) (zw_s E (i + 1)) (zw_s E (i + 2)) (zw_s E (i + 3)) (zw_s E (i + 4)) (zw_s E (i + 5))) ∧ (380 < g 0 8 → g' 190 = g 190)) (Nat.le_refl _) (k_S_feed I (zw_r _ _) (zw_r _ _) (zw_r _ _) (zw_r _ _) (zw_r _ _) (fun v g' I' F' h0 h1 h2 h3 h4 => ⟨I', F', h0, h1, h2, h3, h4⟩))) (zi_ki (fun v1 g1 h1 => ?_))
  obtain ⟨I1, F1, p1_0, p1_1, p1_2, p1_3, p1_4⟩ := h1
  have c1_0_2 : g1 0 2 = g 0 2 := F1 0 2 (by first | (simp [fr_S_feed]; done) | (unfold fr_S_feed; omega))
  have c1_2_8 : g1 2 8 = g 2 8 := F1 2 8 (by first | (simp [fr_S_feed]; done) | (unfold fr_S_feed; omega))
  have c1_2_11 : g1 2 11 = g 2 11 := F1 2 11 (by first | (simp [fr_S_feed]; done) | (unfold fr_S_feed; omega))
  have c1_47_8 : g1 47 8 = g 47 8 := F1 47 8 (by first | (simp [fr_S_feed]; done) | (unfold fr_S_feed; omega))
  have c1_47_11 : g1 47 11 = g 47 11 := F1 47 11 (by first | (simp [fr_S_feed]; done) | (unfold fr_S_feed; omega))
  have c1_191_5 : g1 191 5 = g 191 5 := F1 191 5 (by first | (simp [fr_S_feed]; done) | (unfold fr_S_feed; omega))
  have c1_191_6 : g1 191 6 = g 191 6 := F1 191 6 (by first | (simp [fr_S_feed]; done) | (unfold fr_S_feed; omega))
  have c1_214_6 : g1 214 6 = g 214 6 := F1 214 6 (by first | (simp [fr_S_feed]; done) | (unfold fr_S_feed; omega))
  have c1_214_7 : g1 214 7 = g 214 7 := F1 214 7 (by first | (simp [fr_S_feed]; done) | (unfold fr_S_feed; omega))
  have c1_214_13 : g1 214 13 = g 214 13 := F1 214 13 (by first | (simp [fr_S_feed]; done) | (unfold fr_S_feed; omega))
  have c1_214_33 : g1 214 33 = g 214 33 := F1 214 33 (by first | (simp [fr_S_feed]; done) | (unfold fr_S_feed; omega))
  have c1_214_34 : g1 214 34 = g 214 34 := F1 214 34 (by first | (simp [fr_S_feed]; done) | (unfold fr_S_feed; omega))
  have c1_214_62 : g1 214 62 = g 214 62 := F1 214 62 (by first | (simp [fr_S_feed]; done) | (unfold fr_S_feed; omega))
  have c1_250_264 : g1 250 264 = g 250 264 := F1 250 264 (by first | (simp [fr_S_feed]; done) | (unfold fr_S_feed; omega))
  have c1_250_265 : g1 250 265 = g 250 265 := F1 250 265 (by first | (simp [fr_S_feed]; done) | (unfold fr_S_feed; omega))
  have Z1 : zP g1 := zP_eq (fun a i hc => F1 a i (zpf_S_feed hc)) R9
  refine zi_pop (pc' := 428) rfl rfl rfl ?_
  refine zi_aload_n (pc' := 429) rfl rfl rfl ?_
  refine zi_aload_n (pc' := 430) rfl rfl rfl ?_
  refine zi_iload_n (pc' := 431) rfl rfl rfl ?_
  refine zi_iconst (pc' := 432) rfl rfl ?_
  refine zi_iadd (pc' := 433) rfl rfl ?_
  refine zi_xald (pc' := 434) rfl rfl hL ⟨by omega, by omega⟩ ?_
  refine zi_aload_n (pc' := 435) rfl rfl rfl ?_
  refine zi_iload_n (pc' := 436) rfl rfl rfl ?_
  refine zi_iconst (pc' := 437) rfl rfl ?_
  refine zi_iadd (pc' := 438) rfl rfl ?_
  refine zi_xald (pc' := 439) rfl rfl hL ⟨by omega, by omega⟩ ?_
  refine zi_aload_n (pc' := 440) rfl rfl rfl ?_
  refine zi_iload_n (pc' := 441) rfl rfl rfl ?_
  refine zi_iconst (pc' := 442) rfl rfl ?_
  refine zi_iadd (pc' := 443) rfl rfl ?_
  refine zi_xald (pc' := 444) rfl rfl hL ⟨by omega, by omega⟩ ?_
  refine zi_aload_n (pc' := 445) rfl rfl rfl ?_
  refine zi_iload_n (pc' := 446) rfl rfl rfl ?_
  refine zi_iconst (pc' := 447) rfl rfl ?_
  refine zi_iadd (pc' := 448) rfl rfl ?_
  refine zi_xald (pc' := 449) rfl rfl hL ⟨by omega, by omega⟩ ?_
  refine zi_aload_n (pc' := 450) rfl rfl rfl ?_
  refine zi_iload_n (pc' := 451) rfl rfl rfl ?_
  refine zi_iconst (pc' := 452) rfl rfl ?_
  refine zi_iadd (pc' := 453) rfl rfl ?_
  refine zi_xald (pc' := 454) rfl rfl hL ⟨by omega, by omega⟩ ?_
  refine zi_callV (d' := 2) (as := [_, _, _, _, _]) (pc' := 457) rfl rfl rfl rfl (by decide) (s_M_feed (Q := fun v g' => zk_I g' ∧ zk_fr fr_M_feed g1 g' ∧ ((-1) ≤ v ∧ v ≤ 400) ∧ (g1 214 13 ≤ 380 → v = g1 214 13 + 20 ∧ g' 214 13 = g1 214 13 + 20) ∧ (380 < g1 214 13 → v = -1 ∧ g' 214 13 = g1 214 13) ∧ (g1 214 13 ≤ 380 → g' 222 = zfd (g1 222) (g1 214 13) (zw_s E (i + 1)) (zw_s E (i + 2)) (zw_s E (i + 3)) (zw_s E (i + 4)) (zw_s E (i + 5))) ∧ (380 < g1 214 13 → g' 222 = g1 222)) (Nat.le_refl _) (k_M_feed I1 (zw_r _ _) (zw_r _ _) (zw_r _ _) (zw_r _ _) (zw_r _ _) (fun v g' I' F' h0 h1 h2 h3 h4 => ⟨I', F', h0, h1, h2, h3, h4⟩))) (zi_ki (fun v2 g2 h2 => ?_))
  obtain ⟨I2, F2, p2_0, p2_1, p2_2, p2_3, p2_4⟩ := h2
  have c2_0_2 : g2 0 2 = g1 0 2 := F2 0 2 (by first | (simp [fr_M_feed]; done) | (unfold fr_M_feed; omega))
  have c2_0_8 : g2 0 8 = g1 0 8 := F2 0 8 (by first | (simp [fr_M_feed]; done) | (unfold fr_M_feed; omega))
  have c2_2_8 : g2 2 8 = g1 2 8 := F2 2 8 (by first | (simp [fr_M_feed]; done) | (unfold fr_M_feed; omega))
  have c2_2_11 : g2 2 11 = g1 2 11 := F2 2 11 (by first | (simp [fr_M_feed]; done) | (unfold fr_M_feed; omega))
  have c2_47_8 : g2 47 8 = g1 47 8 := F2 47 8 (by first | (simp [fr_M_feed]; done) | (unfold fr_M_feed; omega))
  have c2_47_11 : g2 47 11 = g1 47 11 := F2 47 11 (by first | (simp [fr_M_feed]; done) | (unfold fr_M_feed; omega))
  have c2_191_5 : g2 191 5 = g1 191 5 := F2 191 5 (by first | (simp [fr_M_feed]; done) | (unfold fr_M_feed; omega))
  have c2_191_6 : g2 191 6 = g1 191 6 := F2 191 6 (by first | (simp [fr_M_feed]; done) | (unfold fr_M_feed; omega))
  have c2_214_6 : g2 214 6 = g1 214 6 := F2 214 6 (by first | (simp [fr_M_feed]; done) | (unfold fr_M_feed; omega))
  have c2_214_7 : g2 214 7 = g1 214 7 := F2 214 7 (by first | (simp [fr_M_feed]; done) | (unfold fr_M_feed; omega))
  have c2_214_33 : g2 214 33 = g1 214 33 := F2 214 33 (by first | (simp [fr_M_feed]; done) | (unfold fr_M_feed; omega))
  have c2_214_34 : g2 214 34 = g1 214 34 := F2 214 34 (by first | (simp [fr_M_feed]; done) | (unfold fr_M_feed; omega))
  have c2_214_62 : g2 214 62 = g1 214 62 := F2 214 62 (by first | (simp [fr_M_feed]; done) | (unfold fr_M_feed; omega))
  have c2_250_264 : g2 250 264 = g1 250 264 := F2 250 264 (by first | (simp [fr_M_feed]; done) | (unfold fr_M_feed; omega))
  have c2_250_265 : g2 250 265 = g1 250 265 := F2 250 265 (by first | (simp [fr_M_feed]; done) | (unfold fr_M_feed; omega))
  have ta_ : g2 190 = g2 222 := zTA_f R4 R3 p1_3 p1_4 p2_3 p2_4 (fun k => F1 222 k (by first | (simp [fr_S_feed]; done) | (unfold fr_S_feed; omega))) (F1 214 13 (by first | (simp [fr_S_feed]; done) | (unfold fr_S_feed; omega))) (fun k => F2 190 k (by first | (simp [fr_M_feed]; done) | (unfold fr_M_feed; omega)))
  have Z2 : zP g2 := zP_eq (fun a i hc => F2 a i (zpf_M_feed hc)) Z1
  refine zi_pop (pc' := 458) rfl rfl rfl ?_
  refine zi_goto (x := 1356) rfl ?_
  exact k _ ⟨I2, (by rw [c2_191_5, c1_191_5, c2_214_33, c1_214_33]; exact R0), (by rw [c2_191_6, c1_191_6, c2_214_34, c1_214_34]; exact R1), (by rw [c2_0_2, c1_0_2, c2_214_62, c1_214_62]; exact R2), by omega, ta_, (by rw [c2_2_8, c1_2_8, c2_214_6, c1_214_6]; exact R5), (fun q => by rw [c2_47_8, c1_47_8, c2_250_264, c1_250_264]; exact R6 (by rw [c2_0_2, c1_0_2] at q; exact q)), (by rw [c2_2_11, c1_2_11, c2_214_7, c1_214_7]; exact R7), (fun q => by rw [c2_47_11, c1_47_11, c2_250_265, c1_250_265]; exact R8 (by rw [c2_0_2, c1_0_2] at q; exact q)), Z2⟩
theorem zpf_S_end {a : Nat} {i : Int} (hc : zPc a i) : ¬ fr_S_end a i := fun w => by
  unfold fr_S_end at w
  unfold zPc at hc
  omega
theorem zpf_M_end {a : Nat} {i : Int} (hc : zPc a i) : ¬ fr_M_end a i := fun w => by
  have ha := zPc_le hc
  unfold fr_M_end at w
  clear hc
  omega
set_option maxRecDepth 100000 in
set_option maxHeartbeats 4000000 in
theorem zw_c7 {E : sx_E} {i : Int} {g : zi_M} (hL : sx_Ln E ≤ 3072) (h0 : 0 ≤ i) (h6 : i + 6 ≤ ((sx_Ln E : Nat) : Int)) (R : zw_R g) (k : ∀ g' : zi_M, zw_R g' → zi_W E 420 326 1356 [some (.ref 1000000000), some (.ref 0), some (.ref 214), some (zi_i i)] [] g' zw_Q) : zi_W E 420 326 461 [some (.ref 1000000000), some (.ref 0), some (.ref 214), some (zi_i i)] [] g zw_Q := by
  obtain ⟨I, R0, R1, R2, R3, R4, R5, R6, R7, R8, R9⟩ := R
  refine zi_aload_n (pc' := 462) rfl rfl rfl ?_
  refine zi_aload_n (pc' := 463) rfl rfl rfl ?_
  refine zi_iload_n (pc' := 464) rfl rfl rfl ?_
  refine zi_iconst (pc' := 465) rfl rfl ?_
  refine zi_iadd (pc' := 466) rfl rfl ?_
  refine zi_xald (pc' := 467) rfl rfl hL ⟨by omega, by omega⟩ ?_
  refine zi_callV (d' := 1) (as := [_]) (pc' := 470) rfl rfl rfl rfl (by decide) (s_S_end (Q := fun v g' => zk_I g' ∧ zk_fr fr_S_end g g' ∧ (0 ≤ v ∧ v ≤ 1) ∧ (0 ≤ (zw_s E (i + 1)) ∧ (zw_s E (i + 1)) ≤ g 0 8 → v = 1 ∧ g' 0 8 = (zw_s E (i + 1))) ∧ (¬ (0 ≤ (zw_s E (i + 1)) ∧ (zw_s E (i + 1)) ≤ g 0 8) → v = 0 ∧ g' 0 8 = g 0 8)) (Nat.le_refl _) (k_S_end I (zw_r _ _) (fun v g' I' F' h0 h1 h2 => ⟨I', F', h0, h1, h2⟩))) (zi_kb (fun v1 g1 b1 h1 => ?_))
  obtain ⟨I1, F1, p1_0, p1_1, p1_2⟩ := h1
  have c1_0_2 : g1 0 2 = g 0 2 := F1 0 2 (by first | (simp [fr_S_end]; done) | (unfold fr_S_end; omega))
  have c1_2_8 : g1 2 8 = g 2 8 := F1 2 8 (by first | (simp [fr_S_end]; done) | (unfold fr_S_end; omega))
  have c1_2_11 : g1 2 11 = g 2 11 := F1 2 11 (by first | (simp [fr_S_end]; done) | (unfold fr_S_end; omega))
  have c1_47_8 : g1 47 8 = g 47 8 := F1 47 8 (by first | (simp [fr_S_end]; done) | (unfold fr_S_end; omega))
  have c1_47_11 : g1 47 11 = g 47 11 := F1 47 11 (by first | (simp [fr_S_end]; done) | (unfold fr_S_end; omega))
  have c1_191_5 : g1 191 5 = g 191 5 := F1 191 5 (by first | (simp [fr_S_end]; done) | (unfold fr_S_end; omega))
  have c1_191_6 : g1 191 6 = g 191 6 := F1 191 6 (by first | (simp [fr_S_end]; done) | (unfold fr_S_end; omega))
  have c1_214_6 : g1 214 6 = g 214 6 := F1 214 6 (by first | (simp [fr_S_end]; done) | (unfold fr_S_end; omega))
  have c1_214_7 : g1 214 7 = g 214 7 := F1 214 7 (by first | (simp [fr_S_end]; done) | (unfold fr_S_end; omega))
  have c1_214_13 : g1 214 13 = g 214 13 := F1 214 13 (by first | (simp [fr_S_end]; done) | (unfold fr_S_end; omega))
  have c1_214_33 : g1 214 33 = g 214 33 := F1 214 33 (by first | (simp [fr_S_end]; done) | (unfold fr_S_end; omega))
  have c1_214_34 : g1 214 34 = g 214 34 := F1 214 34 (by first | (simp [fr_S_end]; done) | (unfold fr_S_end; omega))
  have c1_214_62 : g1 214 62 = g 214 62 := F1 214 62 (by first | (simp [fr_S_end]; done) | (unfold fr_S_end; omega))
  have c1_250_264 : g1 250 264 = g 250 264 := F1 250 264 (by first | (simp [fr_S_end]; done) | (unfold fr_S_end; omega))
  have c1_250_265 : g1 250 265 = g 250 265 := F1 250 265 (by first | (simp [fr_S_end]; done) | (unfold fr_S_end; omega))
  have Z1 : zP g1 := zP_eq (fun a i hc => F1 a i (zpf_S_end hc)) R9
  refine zi_pop (pc' := 471) rfl rfl rfl ?_
  refine zi_aload_n (pc' := 472) rfl rfl rfl ?_
  refine zi_aload_n (pc' := 473) rfl rfl rfl ?_
  refine zi_iload_n (pc' := 474) rfl rfl rfl ?_
  refine zi_iconst (pc' := 475) rfl rfl ?_
  refine zi_iadd (pc' := 476) rfl rfl ?_
  refine zi_xald (pc' := 477) rfl rfl hL ⟨by omega, by omega⟩ ?_
  refine zi_callV (d' := 2) (as := [_]) (pc' := 480) rfl rfl rfl rfl (by decide) (s_M_end (Q := fun v g' => zk_I g' ∧ zk_fr fr_M_end g1 g' ∧ (0 ≤ v ∧ v ≤ 1) ∧ (0 ≤ (zw_s E (i + 1)) ∧ (zw_s E (i + 1)) ≤ g1 214 13 → v = 1 ∧ g' 214 13 = (zw_s E (i + 1))) ∧ (¬ (0 ≤ (zw_s E (i + 1)) ∧ (zw_s E (i + 1)) ≤ g1 214 13) → v = 0 ∧ g' 214 13 = g1 214 13)) (Nat.le_refl _) (k_M_end I1 (zw_r _ _) (fun v g' I' F' h0 h1 h2 => ⟨I', F', h0, h1, h2⟩))) (zi_kb (fun v2 g2 b2 h2 => ?_))
  obtain ⟨I2, F2, p2_0, p2_1, p2_2⟩ := h2
  have c2_0_2 : g2 0 2 = g1 0 2 := F2 0 2 (by first | (simp [fr_M_end]; done) | (unfold fr_M_end; omega))
  have c2_0_8 : g2 0 8 = g1 0 8 := F2 0 8 (by first | (simp [fr_M_end]; done) | (unfold fr_M_end; omega))
  have c2_2_8 : g2 2 8 = g1 2 8 := F2 2 8 (by first | (simp [fr_M_end]; done) | (unfold fr_M_end; omega))
  have c2_2_11 : g2 2 11 = g1 2 11 := F2 2 11 (by first | (simp [fr_M_end]; done) | (unfold fr_M_end; omega))
  have c2_47_8 : g2 47 8 = g1 47 8 := F2 47 8 (by first | (simp [fr_M_end]; done) | (unfold fr_M_end; omega))
  have c2_47_11 : g2 47 11 = g1 47 11 := F2 47 11 (by first | (simp [fr_M_end]; done) | (unfold fr_M_end; omega))
  have c2_191_5 : g2 191 5 = g1 191 5 := F2 191 5 (by first | (simp [fr_M_end]; done) | (unfold fr_M_end; omega))
  have c2_191_6 : g2 191 6 = g1 191 6 := F2 191 6 (by first | (simp [fr_M_end]; done) | (unfold fr_M_end; omega))
  have c2_214_6 : g2 214 6 = g1 214 6 := F2 214 6 (by first | (simp [fr_M_end]; done) | (unfold fr_M_end; omega))
  have c2_214_7 : g2 214 7 = g1 214 7 := F2 214 7 (by first | (simp [fr_M_end]; done) | (unfold fr_M_end; omega))
  have c2_214_33 : g2 214 33 = g1 214 33 := F2 214 33 (by first | (simp [fr_M_end]; done) | (unfold fr_M_end; omega))
  have c2_214_34 : g2 214 34 = g1 214 34 := F2 214 34 (by first | (simp [fr_M_end]; done) | (unfold fr_M_end; omega))
  have c2_214_62 : g2 214 62 = g1 214 62 := F2 214 62 (by first | (simp [fr_M_end]; done) | (unfold fr_M_end; omega))
  have c2_250_264 : g2 250 264 = g1 250 264 := F2 250 264 (by first | (simp [fr_M_end]; done) | (unfold fr_M_end; omega))
  have c2_250_265 : g2 250 265 = g1 250 265 := F2 250 265 (by first | (simp [fr_M_end]; done) | (unfold fr_M_end; omega))
  have Z2 : zP g2 := zP_eq (fun a i hc => F2 a i (zpf_M_end hc)) Z1
  refine zi_pop (pc' := 481) rfl rfl rfl ?_
  refine zi_goto (x := 1356) rfl ?_
  exact k _ ⟨I2, (by rw [c2_191_5, c1_191_5, c2_214_33, c1_214_33]; exact R0), (by rw [c2_191_6, c1_191_6, c2_214_34, c1_214_34]; exact R1), (by rw [c2_0_2, c1_0_2, c2_214_62, c1_214_62]; exact R2), by omega, (funext fun k => by rw [F2 190 k (by first | (simp [fr_M_end]; done) | (unfold fr_M_end; omega)), F1 190 k (by first | (simp [fr_S_end]; done) | (unfold fr_S_end; omega)), F2 222 k (by first | (simp [fr_M_end]; done) | (unfold fr_M_end; omega)), F1 222 k (by first | (simp [fr_S_end]; done) | (unfold fr_S_end; omega))]; exact congrFun R4 k), (by rw [c2_2_8, c1_2_8, c2_214_6, c1_214_6]; exact R5), (fun q => by rw [c2_47_8, c1_47_8, c2_250_264, c1_250_264]; exact R6 (by rw [c2_0_2, c1_0_2] at q; exact q)), (by rw [c2_2_11, c1_2_11, c2_214_7, c1_214_7]; exact R7), (fun q => by rw [c2_47_11, c1_47_11, c2_250_265, c1_250_265]; exact R8 (by rw [c2_0_2, c1_0_2] at q; exact q)), Z2⟩
theorem zpf_M_text {a : Nat} {i : Int} (hc : zPc a i) : ¬ fr_M_text a i := fun w => by
  have ha := zPc_le hc
  unfold fr_M_text at w
  clear hc
  omega
set_option maxRecDepth 100000 in
set_option maxHeartbeats 4000000 in
theorem zw_c8 {E : sx_E} {i : Int} {g : zi_M} (hL : sx_Ln E ≤ 3072) (h0 : 0 ≤ i) (h6 : i + 6 ≤ ((sx_Ln E : Nat) : Int)) (R : zw_R g) (k : ∀ g' : zi_M, zw_R g' → zi_W E 420 326 1356 [some (.ref 1000000000), some (.ref 0), some (.ref 214), some (zi_i i)] [] g' zw_Q) : zi_W E 420 326 484 [some (.ref 1000000000), some (.ref 0), some (.ref 214), some (zi_i i)] [] g zw_Q := by
  obtain ⟨I, R0, R1, R2, R3, R4, R5, R6, R7, R8, R9⟩ := R
  refine zi_aload_n (pc' := 485) rfl rfl rfl ?_
  refine zi_aload_n (pc' := 486) rfl rfl rfl ?_
  refine zi_iload_n (pc' := 487) rfl rfl rfl ?_
  refine zi_iconst (pc' := 488) rfl rfl ?_
  refine zi_iadd (pc' := 489) rfl rfl ?_
  refine zi_xald (pc' := 490) rfl rfl hL ⟨by omega, by omega⟩ ?_
  refine zi_callV (d' := 12) (as := [_]) (pc' := 493) rfl rfl rfl rfl (by decide) (s_S_text (Q := fun v g' => zk_I g' ∧ zk_fr fr_S_text g g' ∧ ((-1) ≤ v ∧ v ≤ 17) ∧ (g' 0 8 = 0) ∧ (g' 91 1 = 0 ∨ g' 91 1 = g 91 1) ∧ (0 ≤ (zw_s E (i + 1)) → (zw_s E (i + 1)) ≤ 3 → zySs (1000000001 + (zw_s E (i + 1)).toNat) (g 190) (g 0 8) g') ∧ ((zw_s E (i + 1)) = 2 → zySw g g' v) ∧ (¬ (zw_s E (i + 1)) = 2 → zyUw g g') ∧ ((zw_s E (i + 1)) = 1 → zySg (g 2 8) g g' v) ∧ (¬ (zw_s E (i + 1)) = 1 → zyUg g g') ∧ ((zw_s E (i + 1)) = 3 → zySp (g 2 8) (g 2 11) g g' v) ∧ (¬ (zw_s E (i + 1)) = 3 → zyUp g g') ∧ ((zw_s E (i + 1)) < 0 ∨ 3 < (zw_s E (i + 1)) → v = -1 ∧ g' 191 5 = 0 ∧ g' 191 6 = -1) ∧ (¬ ((zw_s E (i + 1)) = 2 ∨ (zw_s E (i + 1)) = 3) → g' 91 1 = g 91 1) ∧ ((zw_s E (i + 1)) = 0 → zqVc v g')) (Nat.le_refl _) (k_S_text I (zw_r _ _) (fun v g' I' F' h0 h1 h2 h3 h4 h5 h6 h7 h8 h9 h10 h11 h12 => ⟨I', F', h0, h1, h2, h3, h4, h5, h6, h7, h8, h9, h10, h11, h12⟩))) (zi_ki (fun v1 g1 h1 => ?_))
  obtain ⟨I1, F1, p1_0, p1_1, p1_2, p1_3, p1_4, p1_5, p1_6, p1_7, p1_8, p1_9, p1_10, p1_11, p1_12⟩ := h1
  have c1_0_2 : g1 0 2 = g 0 2 := F1 0 2 (by first | (simp [fr_S_text]; done) | (unfold fr_S_text; omega))
  have c1_2_8 : g1 2 8 = g 2 8 := F1 2 8 (by first | (simp [fr_S_text]; done) | (unfold fr_S_text; omega))
  have c1_2_11 : g1 2 11 = g 2 11 := F1 2 11 (by first | (simp [fr_S_text]; done) | (unfold fr_S_text; omega))
  have c1_47_8 : g1 47 8 = g 47 8 := F1 47 8 (by first | (simp [fr_S_text]; done) | (unfold fr_S_text; omega))
  have c1_47_11 : g1 47 11 = g 47 11 := F1 47 11 (by first | (simp [fr_S_text]; done) | (unfold fr_S_text; omega))
  have c1_214_6 : g1 214 6 = g 214 6 := F1 214 6 (by first | (simp [fr_S_text]; done) | (unfold fr_S_text; omega))
  have c1_214_7 : g1 214 7 = g 214 7 := F1 214 7 (by first | (simp [fr_S_text]; done) | (unfold fr_S_text; omega))
  have c1_214_13 : g1 214 13 = g 214 13 := F1 214 13 (by first | (simp [fr_S_text]; done) | (unfold fr_S_text; omega))
  have c1_214_33 : g1 214 33 = g 214 33 := F1 214 33 (by first | (simp [fr_S_text]; done) | (unfold fr_S_text; omega))
  have c1_214_34 : g1 214 34 = g 214 34 := F1 214 34 (by first | (simp [fr_S_text]; done) | (unfold fr_S_text; omega))
  have c1_214_62 : g1 214 62 = g 214 62 := F1 214 62 (by first | (simp [fr_S_text]; done) | (unfold fr_S_text; omega))
  have c1_250_264 : g1 250 264 = g 250 264 := F1 250 264 (by first | (simp [fr_S_text]; done) | (unfold fr_S_text; omega))
  have c1_250_265 : g1 250 265 = g 250 265 := F1 250 265 (by first | (simp [fr_S_text]; done) | (unfold fr_S_text; omega))
  have Z1 : zP g1 := by
    rcases p1_2 with h | h
    · exact zP_0 h
    · refine zP_eq (fun a i hc => ?_) R9
      by_cases q : a = 91 ∧ i = 1
      · rw [q.1, q.2]; exact h
      · exact F1 a i (fun w => by unfold fr_S_text at w; unfold zPc at hc; omega)
  refine zi_pop (pc' := 494) rfl rfl rfl ?_
  refine zi_aload_n (pc' := 495) rfl rfl rfl ?_
  refine zi_aload_n (pc' := 496) rfl rfl rfl ?_
  refine zi_iload_n (pc' := 497) rfl rfl rfl ?_
  refine zi_iconst (pc' := 498) rfl rfl ?_
  refine zi_iadd (pc' := 499) rfl rfl ?_
  refine zi_xald (pc' := 500) rfl rfl hL ⟨by omega, by omega⟩ ?_
  refine zi_callV (d' := 11) (as := [_]) (pc' := 503) rfl rfl rfl rfl (by decide) (s_M_text (Q := fun v g' => zk_I g' ∧ zk_fr fr_M_text g1 g' ∧ ((-1) ≤ v ∧ v ≤ 16) ∧ (g' 214 13 = 0) ∧ ((zw_s E (i + 1)) = 2 → zyMw g1 g' v) ∧ (¬ (zw_s E (i + 1)) = 2 → zyNw g1 g') ∧ ((zw_s E (i + 1)) = 1 → zyMg g1 g' v) ∧ (¬ (zw_s E (i + 1)) = 1 → zyNg g1 g') ∧ ((zw_s E (i + 1)) = 3 → zyMp g1 g' v) ∧ (¬ (zw_s E (i + 1)) = 3 → zyNp g1 g') ∧ ((zw_s E (i + 1)) < 0 ∨ 3 < (zw_s E (i + 1)) → v = -1 ∧ g' 214 33 = 0 ∧ g' 214 34 = -1) ∧ (¬ ((zw_s E (i + 1)) = 2 ∨ (zw_s E (i + 1)) = 3) → g' 214 3 = g1 214 3) ∧ ((zw_s E (i + 1)) = 0 → zqVr (zyM g1) v g')) (Nat.le_refl _) (k_M_text I1 (zw_r _ _) (zTA_pre R4 R3 p1_3 (fun k => F1 222 k (by first | (simp [fr_S_text]; done) | (unfold fr_S_text; omega))) (F1 214 13 (by first | (simp [fr_S_text]; done) | (unfold fr_S_text; omega)))) (zqT_pre R4 R3 p1_3 (fun k => F1 222 k (by first | (simp [fr_S_text]; done) | (unfold fr_S_text; omega))) (F1 214 13 (by first | (simp [fr_S_text]; done) | (unfold fr_S_text; omega)))) (fun v g' I' F' h0 h1 h2 h3 h4 h5 h6 h7 h8 h9 h10 => ⟨I', F', h0, h1, h2, h3, h4, h5, h6, h7, h8, h9, h10⟩))) (zi_ki (fun v2 g2 h2 => ?_))
  obtain ⟨I2, F2, p2_0, p2_1, p2_2, p2_3, p2_4, p2_5, p2_6, p2_7, p2_8, p2_9, p2_10⟩ := h2
  have c2_0_2 : g2 0 2 = g1 0 2 := F2 0 2 (by first | (simp [fr_M_text]; done) | (unfold fr_M_text; omega))
  have c2_0_8 : g2 0 8 = g1 0 8 := F2 0 8 (by first | (simp [fr_M_text]; done) | (unfold fr_M_text; omega))
  have c2_2_8 : g2 2 8 = g1 2 8 := F2 2 8 (by first | (simp [fr_M_text]; done) | (unfold fr_M_text; omega))
  have c2_2_11 : g2 2 11 = g1 2 11 := F2 2 11 (by first | (simp [fr_M_text]; done) | (unfold fr_M_text; omega))
  have c2_47_8 : g2 47 8 = g1 47 8 := F2 47 8 (by first | (simp [fr_M_text]; done) | (unfold fr_M_text; omega))
  have c2_47_11 : g2 47 11 = g1 47 11 := F2 47 11 (by first | (simp [fr_M_text]; done) | (unfold fr_M_text; omega))
  have c2_191_5 : g2 191 5 = g1 191 5 := F2 191 5 (by first | (simp [fr_M_text]; done) | (unfold fr_M_text; omega))
  have c2_191_6 : g2 191 6 = g1 191 6 := F2 191 6 (by first | (simp [fr_M_text]; done) | (unfold fr_M_text; omega))
  have c2_214_6 : g2 214 6 = g1 214 6 := F2 214 6 (by first | (simp [fr_M_text]; done) | (unfold fr_M_text; omega))
  have c2_214_7 : g2 214 7 = g1 214 7 := F2 214 7 (by first | (simp [fr_M_text]; done) | (unfold fr_M_text; omega))
  have c2_214_62 : g2 214 62 = g1 214 62 := F2 214 62 (by first | (simp [fr_M_text]; done) | (unfold fr_M_text; omega))
  have c2_250_264 : g2 250 264 = g1 250 264 := F2 250 264 (by first | (simp [fr_M_text]; done) | (unfold fr_M_text; omega))
  have c2_250_265 : g2 250 265 = g1 250 265 := F2 250 265 (by first | (simp [fr_M_text]; done) | (unfold fr_M_text; omega))
  have tq_ := zqT_eq (by omega) (by omega) p1_12 p1_6 p1_4 p1_8 p1_10 p2_10 p2_4 p2_2 p2_6 p2_8 (fun k => F2 191 k (by first | (simp [fr_M_text]; done) | (unfold fr_M_text; omega)))
  have Z2 : zP g2 := zP_eq (fun a i hc => F2 a i (zpf_M_text hc)) Z1
  refine zi_pop (pc' := 504) rfl rfl rfl ?_
  refine zi_goto (x := 1356) rfl ?_
  exact k _ ⟨I2, tq_.2.1, tq_.2.2, (by rw [c2_0_2, c1_0_2, c2_214_62, c1_214_62]; exact R2), by omega, (funext fun k => by rw [F2 190 k (by first | (simp [fr_M_text]; done) | (unfold fr_M_text; omega)), F1 190 k (by first | (simp [fr_S_text]; done) | (unfold fr_S_text; omega)), F2 222 k (by first | (simp [fr_M_text]; done) | (unfold fr_M_text; omega)), F1 222 k (by first | (simp [fr_S_text]; done) | (unfold fr_S_text; omega))]; exact congrFun R4 k), (by rw [c2_2_8, c1_2_8, c2_214_6, c1_214_6]; exact R5), (fun q => by rw [c2_47_8, c1_47_8, c2_250_264, c1_250_264]; exact R6 (by rw [c2_0_2, c1_0_2] at q; exact q)), (by rw [c2_2_11, c1_2_11, c2_214_7, c1_214_7]; exact R7), (fun q => by rw [c2_47_11, c1_47_11, c2_250_265, c1_250_265]; exact R8 (by rw [c2_0_2, c1_0_2] at q; exact q)), Z2⟩
theorem zpf_M_fault {a : Nat} {i : Int} (hc : zPc a i) : ¬ fr_M_fault a i := fun w => by
  have ha := zPc_le hc
  unfold fr_M_fault at w
  clear hc
  omega
set_option maxRecDepth 100000 in
set_option maxHeartbeats 4000000 in
theorem zw_c9 {E : sx_E} {i : Int} {g : zi_M} (hL : sx_Ln E ≤ 3072) (h0 : 0 ≤ i) (h6 : i + 6 ≤ ((sx_Ln E : Nat) : Int)) (R : zw_R g) (k : ∀ g' : zi_M, zw_R g' → zi_W E 420 326 1356 [some (.ref 1000000000), some (.ref 0), some (.ref 214), some (zi_i i)] [] g' zw_Q) : zi_W E 420 326 507 [some (.ref 1000000000), some (.ref 0), some (.ref 214), some (zi_i i)] [] g zw_Q := by
  obtain ⟨I, R0, R1, R2, R3, R4, R5, R6, R7, R8, R9⟩ := R
  refine zi_aload_n (pc' := 508) rfl rfl rfl ?_
  refine zi_aload_n (pc' := 509) rfl rfl rfl ?_
  refine zi_iload_n (pc' := 510) rfl rfl rfl ?_
  refine zi_iconst (pc' := 511) rfl rfl ?_
  refine zi_iadd (pc' := 512) rfl rfl ?_
  refine zi_xald (pc' := 513) rfl rfl hL ⟨by omega, by omega⟩ ?_
  refine zi_callV (d' := 1) (as := [_]) (pc' := 516) rfl rfl rfl rfl (by decide) (s_S_fault (Q := fun v g' => g' = g ∧ (((zw_s E (i + 1)) = 0) → v = g 191 5) ∧ (((zw_s E (i + 1)) = 1) → v = g 191 6) ∧ (¬ (zw_s E (i + 1)) = 0 → ¬ (zw_s E (i + 1)) = 1 → v = (-1)) ∧ ((zw_s E (i + 1)) = 0 → v = g 191 5) ∧ ((zw_s E (i + 1)) = 1 → v = g 191 6) ∧ (¬ (zw_s E (i + 1)) = 0 → ¬ (zw_s E (i + 1)) = 1 → v = -1)) (Nat.le_refl _) (k_S_fault I (zw_r _ _) (fun v h0 h1 h2 h3 h4 h5 => ⟨rfl, h0, h1, h2, h3, h4, h5⟩))) (zi_ki (fun v1 g1 h1 => ?_))
  obtain ⟨E1, p1_0, p1_1, p1_2, p1_3, p1_4, p1_5⟩ := h1
  rw [E1]
  refine zi_aload_n (pc' := 517) rfl rfl rfl ?_
  refine zi_aload_n (pc' := 518) rfl rfl rfl ?_
  refine zi_iload_n (pc' := 519) rfl rfl rfl ?_
  refine zi_iconst (pc' := 520) rfl rfl ?_
  refine zi_iadd (pc' := 521) rfl rfl ?_
  refine zi_xald (pc' := 522) rfl rfl hL ⟨by omega, by omega⟩ ?_
  refine zi_callV (d' := 1) (as := [_]) (pc' := 525) rfl rfl rfl rfl (by decide) (s_M_fault (Q := fun v g' => zk_I g' ∧ zk_fr fr_M_fault g g' ∧ ((-1) ≤ v ∧ v ≤ 400) ∧ ((zw_s E (i + 1)) = 0 → v = g 214 33) ∧ ((zw_s E (i + 1)) = 1 → v = g 214 34) ∧ (¬ (zw_s E (i + 1)) = 0 → ¬ (zw_s E (i + 1)) = 1 → v = -1)) (Nat.le_refl _) (k_M_fault I (zw_r _ _) (fun v g' I' F' h0 h1 h2 h3 => ⟨I', F', h0, h1, h2, h3⟩))) (zi_ki (fun v2 g2 h2 => ?_))
  obtain ⟨I2, F2, p2_0, p2_1, p2_2, p2_3⟩ := h2
  have c2_0_2 : g2 0 2 = g 0 2 := F2 0 2 (by first | (simp [fr_M_fault]; done) | (unfold fr_M_fault; omega))
  have c2_0_8 : g2 0 8 = g 0 8 := F2 0 8 (by first | (simp [fr_M_fault]; done) | (unfold fr_M_fault; omega))
  have c2_2_8 : g2 2 8 = g 2 8 := F2 2 8 (by first | (simp [fr_M_fault]; done) | (unfold fr_M_fault; omega))
  have c2_2_11 : g2 2 11 = g 2 11 := F2 2 11 (by first | (simp [fr_M_fault]; done) | (unfold fr_M_fault; omega))
  have c2_47_8 : g2 47 8 = g 47 8 := F2 47 8 (by first | (simp [fr_M_fault]; done) | (unfold fr_M_fault; omega))
  have c2_47_11 : g2 47 11 = g 47 11 := F2 47 11 (by first | (simp [fr_M_fault]; done) | (unfold fr_M_fault; omega))
  have c2_191_5 : g2 191 5 = g 191 5 := F2 191 5 (by first | (simp [fr_M_fault]; done) | (unfold fr_M_fault; omega))
  have c2_191_6 : g2 191 6 = g 191 6 := F2 191 6 (by first | (simp [fr_M_fault]; done) | (unfold fr_M_fault; omega))
  have c2_214_6 : g2 214 6 = g 214 6 := F2 214 6 (by first | (simp [fr_M_fault]; done) | (unfold fr_M_fault; omega))
  have c2_214_7 : g2 214 7 = g 214 7 := F2 214 7 (by first | (simp [fr_M_fault]; done) | (unfold fr_M_fault; omega))
  have c2_214_13 : g2 214 13 = g 214 13 := F2 214 13 (by first | (simp [fr_M_fault]; done) | (unfold fr_M_fault; omega))
  have c2_214_33 : g2 214 33 = g 214 33 := F2 214 33 (by first | (simp [fr_M_fault]; done) | (unfold fr_M_fault; omega))
  have c2_214_34 : g2 214 34 = g 214 34 := F2 214 34 (by first | (simp [fr_M_fault]; done) | (unfold fr_M_fault; omega))
  have c2_214_62 : g2 214 62 = g 214 62 := F2 214 62 (by first | (simp [fr_M_fault]; done) | (unfold fr_M_fault; omega))
  have c2_250_264 : g2 250 264 = g 250 264 := F2 250 264 (by first | (simp [fr_M_fault]; done) | (unfold fr_M_fault; omega))
  have c2_250_265 : g2 250 265 = g 250 265 := F2 250 265 (by first | (simp [fr_M_fault]; done) | (unfold fr_M_fault; omega))
  have Z2 : zP g2 := zP_eq (fun a i hc => F2 a i (zpf_M_fault hc)) R9
  have e2 : v2 = v1 := by omega
  refine zi_icmp_eq (x := 1356) (pc' := 528) rfl rfl ⟨by omega, by omega⟩ (by rw [e2]; exact ⟨by omega, by omega⟩) (fun c => ?_) (fun c => absurd e2.symm c)
  exact k _ ⟨I2, (by rw [c2_191_5, c2_214_33]; exact R0), (by rw [c2_191_6, c2_214_34]; exact R1), (by rw [c2_0_2, c2_214_62]; exact R2), (by rw [c2_0_8, c2_214_13]; exact R3), (funext fun k => by rw [F2 190 k (by first | (simp [fr_M_fault]; done) | (unfold fr_M_fault; omega)), F2 222 k (by first | (simp [fr_M_fault]; done) | (unfold fr_M_fault; omega))]; exact congrFun R4 k), (by rw [c2_2_8, c2_214_6]; exact R5), (fun q => by rw [c2_47_8, c2_250_264]; exact R6 (by rw [c2_0_2] at q; exact q)), (by rw [c2_2_11, c2_214_7]; exact R7), (fun q => by rw [c2_47_11, c2_250_265]; exact R8 (by rw [c2_0_2] at q; exact q)), Z2⟩
theorem zpf_S_of {a : Nat} {i : Int} (hc : zPc a i) : ¬ fr_S_of a i := fun w => by
  unfold fr_S_of at w
  unfold zPc at hc
  omega
theorem zpf_M_of {a : Nat} {i : Int} (hc : zPc a i) : ¬ fr_M_of a i := fun w => by
  have ha := zPc_le hc
  unfold fr_M_of at w
  clear hc
  omega
set_option maxRecDepth 100000 in
set_option maxHeartbeats 4000000 in
theorem zw_c10 {E : sx_E} {i : Int} {g : zi_M} (hL : sx_Ln E ≤ 3072) (h0 : 0 ≤ i) (h6 : i + 6 ≤ ((sx_Ln E : Nat) : Int)) (R : zw_R g) (k : ∀ g' : zi_M, zw_R g' → zi_W E 420 326 1356 [some (.ref 1000000000), some (.ref 0), some (.ref 214), some (zi_i i)] [] g' zw_Q) : zi_W E 420 326 530 [some (.ref 1000000000), some (.ref 0), some (.ref 214), some (zi_i i)] [] g zw_Q := by
  obtain ⟨I, R0, R1, R2, R3, R4, R5, R6, R7, R8, R9⟩ := R
  refine zi_aload_n (pc' := 531) rfl rfl rfl ?_
  refine zi_aload_n (pc' := 532) rfl rfl rfl ?_
  refine zi_iload_n (pc' := 533) rfl rfl rfl ?_
  refine zi_iconst (pc' := 534) rfl rfl ?_
  refine zi_iadd (pc' := 535) rfl rfl ?_
  refine zi_xald (pc' := 536) rfl rfl hL ⟨by omega, by omega⟩ ?_
  refine zi_aload_n (pc' := 537) rfl rfl rfl ?_
  refine zi_iload_n (pc' := 538) rfl rfl rfl ?_
  refine zi_iconst (pc' := 539) rfl rfl ?_
  refine zi_iadd (pc' := 540) rfl rfl ?_
  refine zi_xald (pc' := 541) rfl rfl hL ⟨by omega, by omega⟩ ?_
  refine zi_callV (d' := 4) (as := [_, _]) (pc' := 544) rfl rfl rfl rfl (by decide) (s_S_of (Q := fun v g' => zk_I g' ∧ zk_fr fr_S_of g g') (Nat.le_refl _) (k_S_of I (zw_r _ _) (zw_r _ _) (fun v g' I' F' h0 => ⟨I', F'⟩))) (zi_ki (fun v1 g1 h1 => ?_))
  obtain ⟨I1, F1⟩ := h1
  have c1_0_2 : g1 0 2 = g 0 2 := F1 0 2 (by first | (simp [fr_S_of]; done) | (unfold fr_S_of; omega))
  have c1_0_8 : g1 0 8 = g 0 8 := F1 0 8 (by first | (simp [fr_S_of]; done) | (unfold fr_S_of; omega))
  have c1_2_8 : g1 2 8 = g 2 8 := F1 2 8 (by first | (simp [fr_S_of]; done) | (unfold fr_S_of; omega))
  have c1_2_11 : g1 2 11 = g 2 11 := F1 2 11 (by first | (simp [fr_S_of]; done) | (unfold fr_S_of; omega))
  have c1_47_8 : g1 47 8 = g 47 8 := F1 47 8 (by first | (simp [fr_S_of]; done) | (unfold fr_S_of; omega))
  have c1_47_11 : g1 47 11 = g 47 11 := F1 47 11 (by first | (simp [fr_S_of]; done) | (unfold fr_S_of; omega))
  have c1_191_5 : g1 191 5 = g 191 5 := F1 191 5 (by first | (simp [fr_S_of]; done) | (unfold fr_S_of; omega))
  have c1_191_6 : g1 191 6 = g 191 6 := F1 191 6 (by first | (simp [fr_S_of]; done) | (unfold fr_S_of; omega))
  have c1_214_6 : g1 214 6 = g 214 6 := F1 214 6 (by first | (simp [fr_S_of]; done) | (unfold fr_S_of; omega))
  have c1_214_7 : g1 214 7 = g 214 7 := F1 214 7 (by first | (simp [fr_S_of]; done) | (unfold fr_S_of; omega))
  have c1_214_13 : g1 214 13 = g 214 13 := F1 214 13 (by first | (simp [fr_S_of]; done) | (unfold fr_S_of; omega))
  have c1_214_33 : g1 214 33 = g 214 33 := F1 214 33 (by first | (simp [fr_S_of]; done) | (unfold fr_S_of; omega))
  have c1_214_34 : g1 214 34 = g 214 34 := F1 214 34 (by first | (simp [fr_S_of]; done) | (unfold fr_S_of; omega))
  have c1_214_62 : g1 214 62 = g 214 62 := F1 214 62 (by first | (simp [fr_S_of]; done) | (unfold fr_S_of; omega))
  have c1_250_264 : g1 250 264 = g 250 264 := F1 250 264 (by first | (simp [fr_S_of]; done) | (unfold fr_S_of; omega))
  have c1_250_265 : g1 250 265 = g 250 265 := F1 250 265 (by first | (simp [fr_S_of]; done) | (unfold fr_S_of; omega))
  have Z1 : zP g1 := zP_eq (fun a i hc => F1 a i (zpf_S_of hc)) R9
  refine zi_pop (pc' := 545) rfl rfl rfl ?_
  refine zi_aload_n (pc' := 546) rfl rfl rfl ?_
  refine zi_aload_n (pc' := 547) rfl rfl rfl ?_
  refine zi_iload_n (pc' := 548) rfl rfl rfl ?_
  refine zi_iconst (pc' := 549) rfl rfl ?_
  refine zi_iadd (pc' := 550) rfl rfl ?_
  refine zi_xald (pc' := 551) rfl rfl hL ⟨by omega, by omega⟩ ?_
  refine zi_aload_n (pc' := 552) rfl rfl rfl ?_
  refine zi_iload_n (pc' := 553) rfl rfl rfl ?_
  refine zi_iconst (pc' := 554) rfl rfl ?_
  refine zi_iadd (pc' := 555) rfl rfl ?_
  refine zi_xald (pc' := 556) rfl rfl hL ⟨by omega, by omega⟩ ?_
  refine zi_callV (d' := 6) (as := [_, _]) (pc' := 559) rfl rfl rfl rfl (by decide) (s_M_of (Q := fun v g' => zk_I g' ∧ zk_fr fr_M_of g1 g') (Nat.le_refl _) (k_M_of I1 (zw_r _ _) (zw_r _ _) (fun v g' I' F' h0 => ⟨I', F'⟩))) (zi_ki (fun v2 g2 h2 => ?_))
  obtain ⟨I2, F2⟩ := h2
  have c2_0_2 : g2 0 2 = g1 0 2 := F2 0 2 (by first | (simp [fr_M_of]; done) | (unfold fr_M_of; omega))
  have c2_0_8 : g2 0 8 = g1 0 8 := F2 0 8 (by first | (simp [fr_M_of]; done) | (unfold fr_M_of; omega))
  have c2_2_8 : g2 2 8 = g1 2 8 := F2 2 8 (by first | (simp [fr_M_of]; done) | (unfold fr_M_of; omega))
  have c2_2_11 : g2 2 11 = g1 2 11 := F2 2 11 (by first | (simp [fr_M_of]; done) | (unfold fr_M_of; omega))
  have c2_47_8 : g2 47 8 = g1 47 8 := F2 47 8 (by first | (simp [fr_M_of]; done) | (unfold fr_M_of; omega))
  have c2_47_11 : g2 47 11 = g1 47 11 := F2 47 11 (by first | (simp [fr_M_of]; done) | (unfold fr_M_of; omega))
  have c2_191_5 : g2 191 5 = g1 191 5 := F2 191 5 (by first | (simp [fr_M_of]; done) | (unfold fr_M_of; omega))
  have c2_191_6 : g2 191 6 = g1 191 6 := F2 191 6 (by first | (simp [fr_M_of]; done) | (unfold fr_M_of; omega))
  have c2_214_6 : g2 214 6 = g1 214 6 := F2 214 6 (by first | (simp [fr_M_of]; done) | (unfold fr_M_of; omega))
  have c2_214_7 : g2 214 7 = g1 214 7 := F2 214 7 (by first | (simp [fr_M_of]; done) | (unfold fr_M_of; omega))
  have c2_214_13 : g2 214 13 = g1 214 13 := F2 214 13 (by first | (simp [fr_M_of]; done) | (unfold fr_M_of; omega))
  have c2_214_33 : g2 214 33 = g1 214 33 := F2 214 33 (by first | (simp [fr_M_of]; done) | (unfold fr_M_of; omega))
  have c2_214_34 : g2 214 34 = g1 214 34 := F2 214 34 (by first | (simp [fr_M_of]; done) | (unfold fr_M_of; omega))
  have c2_214_62 : g2 214 62 = g1 214 62 := F2 214 62 (by first | (simp [fr_M_of]; done) | (unfold fr_M_of; omega))
  have c2_250_264 : g2 250 264 = g1 250 264 := F2 250 264 (by first | (simp [fr_M_of]; done) | (unfold fr_M_of; omega))
  have c2_250_265 : g2 250 265 = g1 250 265 := F2 250 265 (by first | (simp [fr_M_of]; done) | (unfold fr_M_of; omega))
  have Z2 : zP g2 := zP_eq (fun a i hc => F2 a i (zpf_M_of hc)) Z1
  refine zi_pop (pc' := 560) rfl rfl rfl ?_
  refine zi_goto (x := 1356) rfl ?_
  exact k _ ⟨I2, (by rw [c2_191_5, c1_191_5, c2_214_33, c1_214_33]; exact R0), (by rw [c2_191_6, c1_191_6, c2_214_34, c1_214_34]; exact R1), (by rw [c2_0_2, c1_0_2, c2_214_62, c1_214_62]; exact R2), (by rw [c2_0_8, c1_0_8, c2_214_13, c1_214_13]; exact R3), (funext fun k => by rw [F2 190 k (by first | (simp [fr_M_of]; done) | (unfold fr_M_of; omega)), F1 190 k (by first | (simp [fr_S_of]; done) | (unfold fr_S_of; omega)), F2 222 k (by first | (simp [fr_M_of]; done) | (unfold fr_M_of; omega)), F1 222 k (by first | (simp [fr_S_of]; done) | (unfold fr_S_of; omega))]; exact congrFun R4 k), (by rw [c2_2_8, c1_2_8, c2_214_6, c1_214_6]; exact R5), (fun q => by rw [c2_47_8, c1_47_8, c2_250_264, c1_250_264]; exact R6 (by rw [c2_0_2, c1_0_2] at q; exact q)), (by rw [c2_2_11, c1_2_11, c2_214_7, c1_214_7]; exact R7), (fun q => by rw [c2_47_11, c1_47_11, c2_250_265, c1_250_265]; exact R8 (by rw [c2_0_2, c1_0_2] at q; exact q)), Z2⟩
theorem zpf_M_who {a : Nat} {i : Int} (hc : zPc a i) : ¬ fr_M_who a i := fun w => by
  have ha := zPc_le hc
  unfold fr_M_who at w
  clear hc
  omega
set_option maxRecDepth 100000 in
set_option maxHeartbeats 4000000 in
theorem zw_c11 {E : sx_E} {i : Int} {g : zi_M} (hL : sx_Ln E ≤ 3072) (h0 : 0 ≤ i) (h6 : i + 6 ≤ ((sx_Ln E : Nat) : Int)) (R : zw_R g) (k : ∀ g' : zi_M, zw_R g' → zi_W E 420 326 1356 [some (.ref 1000000000), some (.ref 0), some (.ref 214), some (zi_i i)] [] g' zw_Q) : zi_W E 420 326 563 [some (.ref 1000000000), some (.ref 0), some (.ref 214), some (zi_i i)] [] g zw_Q := by
  obtain ⟨I, R0, R1, R2, R3, R4, R5, R6, R7, R8, R9⟩ := R
  refine zi_aload_n (pc' := 564) rfl rfl rfl ?_
  refine zi_aload_n (pc' := 565) rfl rfl rfl ?_
  refine zi_iload_n (pc' := 566) rfl rfl rfl ?_
  refine zi_iconst (pc' := 567) rfl rfl ?_
  refine zi_iadd (pc' := 568) rfl rfl ?_
  refine zi_xald (pc' := 569) rfl rfl hL ⟨by omega, by omega⟩ ?_
  refine zi_aload_n (pc' := 570) rfl rfl rfl ?_
  refine zi_iload_n (pc' := 571) rfl rfl rfl ?_
  refine zi_iconst (pc' := 572) rfl rfl ?_
  refine zi_iadd (pc' := 573) rfl rfl ?_
  refine zi_xald (pc' := 574) rfl rfl hL ⟨by omega, by omega⟩ ?_
  refine zi_callV (d' := 2) (as := [_, _]) (pc' := 577) rfl rfl rfl rfl (by decide) (s_S_who (Q := fun v g' => g' = g) (Nat.le_refl _) (k_S_who I (zw_r _ _) (zw_r _ _) (by intros; rfl))) (zi_ki (fun v1 g1 h1 => ?_))
  have E1 : g1 = g := h1
  rw [E1]
  refine zi_pop (pc' := 578) rfl rfl rfl ?_
  refine zi_aload_n (pc' := 579) rfl rfl rfl ?_
  refine zi_aload_n (pc' := 580) rfl rfl rfl ?_
  refine zi_iload_n (pc' := 581) rfl rfl rfl ?_
  refine zi_iconst (pc' := 582) rfl rfl ?_
  refine zi_iadd (pc' := 583) rfl rfl ?_
  refine zi_xald (pc' := 584) rfl rfl hL ⟨by omega, by omega⟩ ?_
  refine zi_aload_n (pc' := 585) rfl rfl rfl ?_
  refine zi_iload_n (pc' := 586) rfl rfl rfl ?_
  refine zi_iconst (pc' := 587) rfl rfl ?_
  refine zi_iadd (pc' := 588) rfl rfl ?_
  refine zi_xald (pc' := 589) rfl rfl hL ⟨by omega, by omega⟩ ?_
  refine zi_callV (d' := 2) (as := [_, _]) (pc' := 592) rfl rfl rfl rfl (by decide) (s_M_who (Q := fun v g' => zk_I g' ∧ zk_fr fr_M_who g g') (Nat.le_refl _) (k_M_who I (zw_r _ _) (zw_r _ _) (fun v g' I' F' h0 => ⟨I', F'⟩))) (zi_ki (fun v2 g2 h2 => ?_))
  obtain ⟨I2, F2⟩ := h2
  have c2_0_2 : g2 0 2 = g 0 2 := F2 0 2 (by first | (simp [fr_M_who]; done) | (unfold fr_M_who; omega))
  have c2_0_8 : g2 0 8 = g 0 8 := F2 0 8 (by first | (simp [fr_M_who]; done) | (unfold fr_M_who; omega))
  have c2_2_8 : g2 2 8 = g 2 8 := F2 2 8 (by first | (simp [fr_M_who]; done) | (unfold fr_M_who; omega))
  have c2_2_11 : g2 2 11 = g 2 11 := F2 2 11 (by first | (simp [fr_M_who]; done) | (unfold fr_M_who; omega))
  have c2_47_8 : g2 47 8 = g 47 8 := F2 47 8 (by first | (simp [fr_M_who]; done) | (unfold fr_M_who; omega))
  have c2_47_11 : g2 47 11 = g 47 11 := F2 47 11 (by first | (simp [fr_M_who]; done) | (unfold fr_M_who; omega))
  have c2_191_5 : g2 191 5 = g 191 5 := F2 191 5 (by first | (simp [fr_M_who]; done) | (unfold fr_M_who; omega))
  have c2_191_6 : g2 191 6 = g 191 6 := F2 191 6 (by first | (simp [fr_M_who]; done) | (unfold fr_M_who; omega))
  have c2_214_6 : g2 214 6 = g 214 6 := F2 214 6 (by first | (simp [fr_M_who]; done) | (unfold fr_M_who; omega))
  have c2_214_7 : g2 214 7 = g 214 7 := F2 214 7 (by first | (simp [fr_M_who]; done) | (unfold fr_M_who; omega))
  have c2_214_13 : g2 214 13 = g 214 13 := F2 214 13 (by first | (simp [fr_M_who]; done) | (unfold fr_M_who; omega))
  have c2_214_33 : g2 214 33 = g 214 33 := F2 214 33 (by first | (simp [fr_M_who]; done) | (unfold fr_M_who; omega))
  have c2_214_34 : g2 214 34 = g 214 34 := F2 214 34 (by first | (simp [fr_M_who]; done) | (unfold fr_M_who; omega))
  have c2_214_62 : g2 214 62 = g 214 62 := F2 214 62 (by first | (simp [fr_M_who]; done) | (unfold fr_M_who; omega))
  have c2_250_264 : g2 250 264 = g 250 264 := F2 250 264 (by first | (simp [fr_M_who]; done) | (unfold fr_M_who; omega))
  have c2_250_265 : g2 250 265 = g 250 265 := F2 250 265 (by first | (simp [fr_M_who]; done) | (unfold fr_M_who; omega))
  have Z2 : zP g2 := zP_eq (fun a i hc => F2 a i (zpf_M_who hc)) R9
  refine zi_pop (pc' := 593) rfl rfl rfl ?_
  refine zi_goto (x := 1356) rfl ?_
  exact k _ ⟨I2, (by rw [c2_191_5, c2_214_33]; exact R0), (by rw [c2_191_6, c2_214_34]; exact R1), (by rw [c2_0_2, c2_214_62]; exact R2), (by rw [c2_0_8, c2_214_13]; exact R3), (funext fun k => by rw [F2 190 k (by first | (simp [fr_M_who]; done) | (unfold fr_M_who; omega)), F2 222 k (by first | (simp [fr_M_who]; done) | (unfold fr_M_who; omega))]; exact congrFun R4 k), (by rw [c2_2_8, c2_214_6]; exact R5), (fun q => by rw [c2_47_8, c2_250_264]; exact R6 (by rw [c2_0_2] at q; exact q)), (by rw [c2_2_11, c2_214_7]; exact R7), (fun q => by rw [c2_47_11, c2_250_265]; exact R8 (by rw [c2_0_2] at q; exact q)), Z2⟩
theorem zpf_M_jar {a : Nat} {i : Int} (hc : zPc a i) : ¬ fr_M_jar a i := fun w => by
  have ha := zPc_le hc
  unfold fr_M_jar at w
  clear hc
  omega
set_option maxRecDepth 100000 in
set_option maxHeartbeats 4000000 in
theorem zw_c12 {E : sx_E} {i : Int} {g : zi_M} (hL : sx_Ln E ≤ 3072) (h0 : 0 ≤ i) (h6 : i + 6 ≤ ((sx_Ln E : Nat) : Int)) (R : zw_R g) (k : ∀ g' : zi_M, zw_R g' → zi_W E 420 326 1356 [some (.ref 1000000000), some (.ref 0), some (.ref 214), some (zi_i i)] [] g' zw_Q) : zi_W E 420 326 596 [some (.ref 1000000000), some (.ref 0), some (.ref 214), some (zi_i i)] [] g zw_Q := by
  obtain ⟨I, R0, R1, R2, R3, R4, R5, R6, R7, R8, R9⟩ := R
  refine zi_aload_n (pc' := 597) rfl rfl rfl ?_
  refine zi_aload_n (pc' := 598) rfl rfl rfl ?_
  refine zi_iload_n (pc' := 599) rfl rfl rfl ?_
  refine zi_iconst (pc' := 600) rfl rfl ?_
  refine zi_iadd (pc' := 601) rfl rfl ?_
  refine zi_xald (pc' := 602) rfl rfl hL ⟨by omega, by omega⟩ ?_
  refine zi_aload_n (pc' := 603) rfl rfl rfl ?_
  refine zi_iload_n (pc' := 604) rfl rfl rfl ?_
  refine zi_iconst (pc' := 605) rfl rfl ?_
  refine zi_iadd (pc' := 606) rfl rfl ?_
  refine zi_xald (pc' := 607) rfl rfl hL ⟨by omega, by omega⟩ ?_
  refine zi_callV (d' := 1) (as := [_, _]) (pc' := 610) rfl rfl rfl rfl (by decide) (s_S_jar (Q := fun v g' => g' = g) (Nat.le_refl _) (k_S_jar I (zw_r _ _) (zw_r _ _) (by intros; rfl))) (zi_ki (fun v1 g1 h1 => ?_))
  have E1 : g1 = g := h1
  rw [E1]
  refine zi_pop (pc' := 611) rfl rfl rfl ?_
  refine zi_aload_n (pc' := 612) rfl rfl rfl ?_
  refine zi_aload_n (pc' := 613) rfl rfl rfl ?_
  refine zi_iload_n (pc' := 614) rfl rfl rfl ?_
  refine zi_iconst (pc' := 615) rfl rfl ?_
  refine zi_iadd (pc' := 616) rfl rfl ?_
  refine zi_xald (pc' := 617) rfl rfl hL ⟨by omega, by omega⟩ ?_
  refine zi_aload_n (pc' := 618) rfl rfl rfl ?_
  refine zi_iload_n (pc' := 619) rfl rfl rfl ?_
  refine zi_iconst (pc' := 620) rfl rfl ?_
  refine zi_iadd (pc' := 621) rfl rfl ?_
  refine zi_xald (pc' := 622) rfl rfl hL ⟨by omega, by omega⟩ ?_
  refine zi_callV (d' := 2) (as := [_, _]) (pc' := 625) rfl rfl rfl rfl (by decide) (s_M_jar (Q := fun v g' => zk_I g' ∧ zk_fr fr_M_jar g g') (Nat.le_refl _) (k_M_jar I (zw_r _ _) (zw_r _ _) (fun v g' I' F' h0 => ⟨I', F'⟩))) (zi_ki (fun v2 g2 h2 => ?_))
  obtain ⟨I2, F2⟩ := h2
  have c2_0_2 : g2 0 2 = g 0 2 := F2 0 2 (by first | (simp [fr_M_jar]; done) | (unfold fr_M_jar; omega))
  have c2_0_8 : g2 0 8 = g 0 8 := F2 0 8 (by first | (simp [fr_M_jar]; done) | (unfold fr_M_jar; omega))
  have c2_2_8 : g2 2 8 = g 2 8 := F2 2 8 (by first | (simp [fr_M_jar]; done) | (unfold fr_M_jar; omega))
  have c2_2_11 : g2 2 11 = g 2 11 := F2 2 11 (by first | (simp [fr_M_jar]; done) | (unfold fr_M_jar; omega))
  have c2_47_8 : g2 47 8 = g 47 8 := F2 47 8 (by first | (simp [fr_M_jar]; done) | (unfold fr_M_jar; omega))
  have c2_47_11 : g2 47 11 = g 47 11 := F2 47 11 (by first | (simp [fr_M_jar]; done) | (unfold fr_M_jar; omega))
  have c2_191_5 : g2 191 5 = g 191 5 := F2 191 5 (by first | (simp [fr_M_jar]; done) | (unfold fr_M_jar; omega))
  have c2_191_6 : g2 191 6 = g 191 6 := F2 191 6 (by first | (simp [fr_M_jar]; done) | (unfold fr_M_jar; omega))
  have c2_214_6 : g2 214 6 = g 214 6 := F2 214 6 (by first | (simp [fr_M_jar]; done) | (unfold fr_M_jar; omega))
  have c2_214_7 : g2 214 7 = g 214 7 := F2 214 7 (by first | (simp [fr_M_jar]; done) | (unfold fr_M_jar; omega))
  have c2_214_13 : g2 214 13 = g 214 13 := F2 214 13 (by first | (simp [fr_M_jar]; done) | (unfold fr_M_jar; omega))
  have c2_214_33 : g2 214 33 = g 214 33 := F2 214 33 (by first | (simp [fr_M_jar]; done) | (unfold fr_M_jar; omega))
  have c2_214_34 : g2 214 34 = g 214 34 := F2 214 34 (by first | (simp [fr_M_jar]; done) | (unfold fr_M_jar; omega))
  have c2_214_62 : g2 214 62 = g 214 62 := F2 214 62 (by first | (simp [fr_M_jar]; done) | (unfold fr_M_jar; omega))
  have c2_250_264 : g2 250 264 = g 250 264 := F2 250 264 (by first | (simp [fr_M_jar]; done) | (unfold fr_M_jar; omega))
  have c2_250_265 : g2 250 265 = g 250 265 := F2 250 265 (by first | (simp [fr_M_jar]; done) | (unfold fr_M_jar; omega))
  have Z2 : zP g2 := zP_eq (fun a i hc => F2 a i (zpf_M_jar hc)) R9
  refine zi_pop (pc' := 626) rfl rfl rfl ?_
  refine zi_goto (x := 1356) rfl ?_
  exact k _ ⟨I2, (by rw [c2_191_5, c2_214_33]; exact R0), (by rw [c2_191_6, c2_214_34]; exact R1), (by rw [c2_0_2, c2_214_62]; exact R2), (by rw [c2_0_8, c2_214_13]; exact R3), (funext fun k => by rw [F2 190 k (by first | (simp [fr_M_jar]; done) | (unfold fr_M_jar; omega)), F2 222 k (by first | (simp [fr_M_jar]; done) | (unfold fr_M_jar; omega))]; exact congrFun R4 k), (by rw [c2_2_8, c2_214_6]; exact R5), (fun q => by rw [c2_47_8, c2_250_264]; exact R6 (by rw [c2_0_2] at q; exact q)), (by rw [c2_2_11, c2_214_7]; exact R7), (fun q => by rw [c2_47_11, c2_250_265]; exact R8 (by rw [c2_0_2] at q; exact q)), Z2⟩
theorem zpf_M_weather {a : Nat} {i : Int} (hc : zPc a i) : ¬ fr_M_weather a i := fun w => by
  have ha := zPc_le hc
  unfold fr_M_weather at w
  clear hc
  omega
set_option maxRecDepth 100000 in
set_option maxHeartbeats 4000000 in
theorem zw_c13 {E : sx_E} {i : Int} {g : zi_M} (hL : sx_Ln E ≤ 3072) (h0 : 0 ≤ i) (h6 : i + 6 ≤ ((sx_Ln E : Nat) : Int)) (R : zw_R g) (k : ∀ g' : zi_M, zw_R g' → zi_W E 420 326 1356 [some (.ref 1000000000), some (.ref 0), some (.ref 214), some (zi_i i)] [] g' zw_Q) : zi_W E 420 326 629 [some (.ref 1000000000), some (.ref 0), some (.ref 214), some (zi_i i)] [] g zw_Q := by
  obtain ⟨I, R0, R1, R2, R3, R4, R5, R6, R7, R8, R9⟩ := R
  refine zi_aload_n (pc' := 630) rfl rfl rfl ?_
  refine zi_aload_n (pc' := 631) rfl rfl rfl ?_
  refine zi_iload_n (pc' := 632) rfl rfl rfl ?_
  refine zi_iconst (pc' := 633) rfl rfl ?_
  refine zi_iadd (pc' := 634) rfl rfl ?_
  refine zi_xald (pc' := 635) rfl rfl hL ⟨by omega, by omega⟩ ?_
  refine zi_callV (d' := 2) (as := [_]) (pc' := 638) rfl rfl rfl rfl (by decide) (s_S_weather (Q := fun v g' => g' = g) (Nat.le_refl _) (k_S_weather I (zw_r _ _) (by intros; rfl))) (zi_ki (fun v1 g1 h1 => ?_))
  have E1 : g1 = g := h1
  rw [E1]
  refine zi_pop (pc' := 639) rfl rfl rfl ?_
  refine zi_aload_n (pc' := 640) rfl rfl rfl ?_
  refine zi_aload_n (pc' := 641) rfl rfl rfl ?_
  refine zi_iload_n (pc' := 642) rfl rfl rfl ?_
  refine zi_iconst (pc' := 643) rfl rfl ?_
  refine zi_iadd (pc' := 644) rfl rfl ?_
  refine zi_xald (pc' := 645) rfl rfl hL ⟨by omega, by omega⟩ ?_
  refine zi_callV (d' := 2) (as := [_]) (pc' := 648) rfl rfl rfl rfl (by decide) (s_M_weather (Q := fun v g' => zk_I g' ∧ zk_fr fr_M_weather g g') (Nat.le_refl _) (k_M_weather I (zw_r _ _) (fun v g' I' F' h0 h1 => ⟨I', F'⟩))) (zi_ki (fun v2 g2 h2 => ?_))
  obtain ⟨I2, F2⟩ := h2
  have c2_0_2 : g2 0 2 = g 0 2 := F2 0 2 (by first | (simp [fr_M_weather]; done) | (unfold fr_M_weather; omega))
  have c2_0_8 : g2 0 8 = g 0 8 := F2 0 8 (by first | (simp [fr_M_weather]; done) | (unfold fr_M_weather; omega))
  have c2_2_8 : g2 2 8 = g 2 8 := F2 2 8 (by first | (simp [fr_M_weather]; done) | (unfold fr_M_weather; omega))
  have c2_2_11 : g2 2 11 = g 2 11 := F2 2 11 (by first | (simp [fr_M_weather]; done) | (unfold fr_M_weather; omega))
  have c2_47_8 : g2 47 8 = g 47 8 := F2 47 8 (by first | (simp [fr_M_weather]; done) | (unfold fr_M_weather; omega))
  have c2_47_11 : g2 47 11 = g 47 11 := F2 47 11 (by first | (simp [fr_M_weather]; done) | (unfold fr_M_weather; omega))
  have c2_191_5 : g2 191 5 = g 191 5 := F2 191 5 (by first | (simp [fr_M_weather]; done) | (unfold fr_M_weather; omega))
  have c2_191_6 : g2 191 6 = g 191 6 := F2 191 6 (by first | (simp [fr_M_weather]; done) | (unfold fr_M_weather; omega))
  have c2_214_6 : g2 214 6 = g 214 6 := F2 214 6 (by first | (simp [fr_M_weather]; done) | (unfold fr_M_weather; omega))
  have c2_214_7 : g2 214 7 = g 214 7 := F2 214 7 (by first | (simp [fr_M_weather]; done) | (unfold fr_M_weather; omega))
  have c2_214_13 : g2 214 13 = g 214 13 := F2 214 13 (by first | (simp [fr_M_weather]; done) | (unfold fr_M_weather; omega))
  have c2_214_33 : g2 214 33 = g 214 33 := F2 214 33 (by first | (simp [fr_M_weather]; done) | (unfold fr_M_weather; omega))
  have c2_214_34 : g2 214 34 = g 214 34 := F2 214 34 (by first | (simp [fr_M_weather]; done) | (unfold fr_M_weather; omega))
  have c2_214_62 : g2 214 62 = g 214 62 := F2 214 62 (by first | (simp [fr_M_weather]; done) | (unfold fr_M_weather; omega))
  have c2_250_264 : g2 250 264 = g 250 264 := F2 250 264 (by first | (simp [fr_M_weather]; done) | (unfold fr_M_weather; omega))
  have c2_250_265 : g2 250 265 = g 250 265 := F2 250 265 (by first | (simp [fr_M_weather]; done) | (unfold fr_M_weather; omega))
  have Z2 : zP g2 := zP_eq (fun a i hc => F2 a i (zpf_M_weather hc)) R9
  refine zi_pop (pc' := 649) rfl rfl rfl ?_
  refine zi_goto (x := 1356) rfl ?_
  exact k _ ⟨I2, (by rw [c2_191_5, c2_214_33]; exact R0), (by rw [c2_191_6, c2_214_34]; exact R1), (by rw [c2_0_2, c2_214_62]; exact R2), (by rw [c2_0_8, c2_214_13]; exact R3), (funext fun k => by rw [F2 190 k (by first | (simp [fr_M_weather]; done) | (unfold fr_M_weather; omega)), F2 222 k (by first | (simp [fr_M_weather]; done) | (unfold fr_M_weather; omega))]; exact congrFun R4 k), (by rw [c2_2_8, c2_214_6]; exact R5), (fun q => by rw [c2_47_8, c2_250_264]; exact R6 (by rw [c2_0_2] at q; exact q)), (by rw [c2_2_11, c2_214_7]; exact R7), (fun q => by rw [c2_47_11, c2_250_265]; exact R8 (by rw [c2_0_2] at q; exact q)), Z2⟩
theorem zpf_M_book {a : Nat} {i : Int} (hc : zPc a i) : ¬ fr_M_book a i := fun w => by
  have ha := zPc_le hc
  unfold fr_M_book at w
  clear hc
  omega
set_option maxRecDepth 100000 in
set_option maxHeartbeats 4000000 in
theorem zw_c14 {E : sx_E} {i : Int} {g : zi_M} (hL : sx_Ln E ≤ 3072) (h0 : 0 ≤ i) (h6 : i + 6 ≤ ((sx_Ln E : Nat) : Int)) (R : zw_R g) (k : ∀ g' : zi_M, zw_R g' → zi_W E 420 326 1356 [some (.ref 1000000000), some (.ref 0), some (.ref 214), some (zi_i i)] [] g' zw_Q) : zi_W E 420 326 652 [some (.ref 1000000000), some (.ref 0), some (.ref 214), some (zi_i i)] [] g zw_Q := by
  obtain ⟨I, R0, R1, R2, R3, R4, R5, R6, R7, R8, R9⟩ := R
  refine zi_aload_n (pc' := 653) rfl rfl rfl ?_
  refine zi_aload_n (pc' := 654) rfl rfl rfl ?_
  refine zi_iload_n (pc' := 655) rfl rfl rfl ?_
  refine zi_iconst (pc' := 656) rfl rfl ?_
  refine zi_iadd (pc' := 657) rfl rfl ?_
  refine zi_xald (pc' := 658) rfl rfl hL ⟨by omega, by omega⟩ ?_
  refine zi_aload_n (pc' := 659) rfl rfl rfl ?_
  refine zi_iload_n (pc' := 660) rfl rfl rfl ?_
  refine zi_iconst (pc' := 661) rfl rfl ?_
  refine zi_iadd (pc' := 662) rfl rfl ?_
  refine zi_xald (pc' := 663) rfl rfl hL ⟨by omega, by omega⟩ ?_
  refine zi_callV (d' := 1) (as := [_, _]) (pc' := 666) rfl rfl rfl rfl (by decide) (s_S_book (Q := fun v g' => g' = g) (Nat.le_refl _) (k_S_book I (zw_r _ _) (zw_r _ _) (by intros; rfl))) (zi_ki (fun v1 g1 h1 => ?_))
  have E1 : g1 = g := h1
  rw [E1]
  refine zi_pop (pc' := 667) rfl rfl rfl ?_
  refine zi_aload_n (pc' := 668) rfl rfl rfl ?_
  refine zi_aload_n (pc' := 669) rfl rfl rfl ?_
  refine zi_iload_n (pc' := 670) rfl rfl rfl ?_
  refine zi_iconst (pc' := 671) rfl rfl ?_
  refine zi_iadd (pc' := 672) rfl rfl ?_
  refine zi_xald (pc' := 673) rfl rfl hL ⟨by omega, by omega⟩ ?_
  refine zi_aload_n (pc' := 674) rfl rfl rfl ?_
  refine zi_iload_n (pc' := 675) rfl rfl rfl ?_
  refine zi_iconst (pc' := 676) rfl rfl ?_
  refine zi_iadd (pc' := 677) rfl rfl ?_
  refine zi_xald (pc' := 678) rfl rfl hL ⟨by omega, by omega⟩ ?_
  refine zi_callV (d' := 2) (as := [_, _]) (pc' := 681) rfl rfl rfl rfl (by decide) (s_M_book (Q := fun v g' => zk_I g' ∧ zk_fr fr_M_book g g') (Nat.le_refl _) (k_M_book I (zw_r _ _) (zw_r _ _) (fun v g' I' F' h0 => ⟨I', F'⟩))) (zi_ki (fun v2 g2 h2 => ?_))
  obtain ⟨I2, F2⟩ := h2
  have c2_0_2 : g2 0 2 = g 0 2 := F2 0 2 (by first | (simp [fr_M_book]; done) | (unfold fr_M_book; omega))
  have c2_0_8 : g2 0 8 = g 0 8 := F2 0 8 (by first | (simp [fr_M_book]; done) | (unfold fr_M_book; omega))
  have c2_2_8 : g2 2 8 = g 2 8 := F2 2 8 (by first | (simp [fr_M_book]; done) | (unfold fr_M_book; omega))
  have c2_2_11 : g2 2 11 = g 2 11 := F2 2 11 (by first | (simp [fr_M_book]; done) | (unfold fr_M_book; omega))
  have c2_47_8 : g2 47 8 = g 47 8 := F2 47 8 (by first | (simp [fr_M_book]; done) | (unfold fr_M_book; omega))
  have c2_47_11 : g2 47 11 = g 47 11 := F2 47 11 (by first | (simp [fr_M_book]; done) | (unfold fr_M_book; omega))
  have c2_191_5 : g2 191 5 = g 191 5 := F2 191 5 (by first | (simp [fr_M_book]; done) | (unfold fr_M_book; omega))
  have c2_191_6 : g2 191 6 = g 191 6 := F2 191 6 (by first | (simp [fr_M_book]; done) | (unfold fr_M_book; omega))
  have c2_214_6 : g2 214 6 = g 214 6 := F2 214 6 (by first | (simp [fr_M_book]; done) | (unfold fr_M_book; omega))
  have c2_214_7 : g2 214 7 = g 214 7 := F2 214 7 (by first | (simp [fr_M_book]; done) | (unfold fr_M_book; omega))
  have c2_214_13 : g2 214 13 = g 214 13 := F2 214 13 (by first | (simp [fr_M_book]; done) | (unfold fr_M_book; omega))
  have c2_214_33 : g2 214 33 = g 214 33 := F2 214 33 (by first | (simp [fr_M_book]; done) | (unfold fr_M_book; omega))
  have c2_214_34 : g2 214 34 = g 214 34 := F2 214 34 (by first | (simp [fr_M_book]; done) | (unfold fr_M_book; omega))
  have c2_214_62 : g2 214 62 = g 214 62 := F2 214 62 (by first | (simp [fr_M_book]; done) | (unfold fr_M_book; omega))
  have c2_250_264 : g2 250 264 = g 250 264 := F2 250 264 (by first | (simp [fr_M_book]; done) | (unfold fr_M_book; omega))
  have c2_250_265 : g2 250 265 = g 250 265 := F2 250 265 (by first | (simp [fr_M_book]; done) | (unfold fr_M_book; omega))
  have Z2 : zP g2 := zP_eq (fun a i hc => F2 a i (zpf_M_book hc)) R9
  refine zi_pop (pc' := 682) rfl rfl rfl ?_
  refine zi_goto (x := 1356) rfl ?_
  exact k _ ⟨I2, (by rw [c2_191_5, c2_214_33]; exact R0), (by rw [c2_191_6, c2_214_34]; exact R1), (by rw [c2_0_2, c2_214_62]; exact R2), (by rw [c2_0_8, c2_214_13]; exact R3), (funext fun k => by rw [F2 190 k (by first | (simp [fr_M_book]; done) | (unfold fr_M_book; omega)), F2 222 k (by first | (simp [fr_M_book]; done) | (unfold fr_M_book; omega))]; exact congrFun R4 k), (by rw [c2_2_8, c2_214_6]; exact R5), (fun q => by rw [c2_47_8, c2_250_264]; exact R6 (by rw [c2_0_2] at q; exact q)), (by rw [c2_2_11, c2_214_7]; exact R7), (fun q => by rw [c2_47_11, c2_250_265]; exact R8 (by rw [c2_0_2] at q; exact q)), Z2⟩
theorem zpf_S_goes {a : Nat} {i : Int} (hc : zPc a i) : ¬ fr_S_goes a i := fun w => by
  unfold fr_S_goes at w
  unfold zPc at hc
  omega
theorem zpf_M_goes {a : Nat} {i : Int} (hc : zPc a i) : ¬ fr_M_goes a i := fun w => by
  have ha := zPc_le hc
  unfold fr_M_goes at w
  clear hc
  omega
set_option maxRecDepth 100000 in
set_option maxHeartbeats 4000000 in
theorem zw_c15 {E : sx_E} {i : Int} {g : zi_M} (hL : sx_Ln E ≤ 3072) (h0 : 0 ≤ i) (h6 : i + 6 ≤ ((sx_Ln E : Nat) : Int)) (R : zw_R g) (k : ∀ g' : zi_M, zw_R g' → zi_W E 420 326 1356 [some (.ref 1000000000), some (.ref 0), some (.ref 214), some (zi_i i)] [] g' zw_Q) : zi_W E 420 326 685 [some (.ref 1000000000), some (.ref 0), some (.ref 214), some (zi_i i)] [] g zw_Q := by
  obtain ⟨I, R0, R1, R2, R3, R4, R5, R6, R7, R8, R9⟩ := R
  refine zi_aload_n (pc' := 686) rfl rfl rfl ?_
  refine zi_aload_n (pc' := 687) rfl rfl rfl ?_
  refine zi_iload_n (pc' := 688) rfl rfl rfl ?_
  refine zi_iconst (pc' := 689) rfl rfl ?_
  refine zi_iadd (pc' := 690) rfl rfl ?_
  refine zi_xald (pc' := 691) rfl rfl hL ⟨by omega, by omega⟩ ?_
  refine zi_aload_n (pc' := 692) rfl rfl rfl ?_
  refine zi_iload_n (pc' := 693) rfl rfl rfl ?_
  refine zi_iconst (pc' := 694) rfl rfl ?_
  refine zi_iadd (pc' := 695) rfl rfl ?_
  refine zi_xald (pc' := 696) rfl rfl hL ⟨by omega, by omega⟩ ?_
  refine zi_callV (d' := 8) (as := [_, _]) (pc' := 699) rfl rfl rfl rfl (by decide) (s_S_goes (Q := fun v g' => zk_I g' ∧ zk_fr fr_S_goes g g') (Nat.le_refl _) (k_S_goes I (zw_r _ _) (zw_r _ _) (fun v g' I' F'  => ⟨I', F'⟩))) (zi_ki (fun v1 g1 h1 => ?_))
  obtain ⟨I1, F1⟩ := h1
  have c1_0_2 : g1 0 2 = g 0 2 := F1 0 2 (by first | (simp [fr_S_goes]; done) | (unfold fr_S_goes; omega))
  have c1_0_8 : g1 0 8 = g 0 8 := F1 0 8 (by first | (simp [fr_S_goes]; done) | (unfold fr_S_goes; omega))
  have c1_2_8 : g1 2 8 = g 2 8 := F1 2 8 (by first | (simp [fr_S_goes]; done) | (unfold fr_S_goes; omega))
  have c1_2_11 : g1 2 11 = g 2 11 := F1 2 11 (by first | (simp [fr_S_goes]; done) | (unfold fr_S_goes; omega))
  have c1_47_8 : g1 47 8 = g 47 8 := F1 47 8 (by first | (simp [fr_S_goes]; done) | (unfold fr_S_goes; omega))
  have c1_47_11 : g1 47 11 = g 47 11 := F1 47 11 (by first | (simp [fr_S_goes]; done) | (unfold fr_S_goes; omega))
  have c1_191_5 : g1 191 5 = g 191 5 := F1 191 5 (by first | (simp [fr_S_goes]; done) | (unfold fr_S_goes; omega))
  have c1_191_6 : g1 191 6 = g 191 6 := F1 191 6 (by first | (simp [fr_S_goes]; done) | (unfold fr_S_goes; omega))
  have c1_214_6 : g1 214 6 = g 214 6 := F1 214 6 (by first | (simp [fr_S_goes]; done) | (unfold fr_S_goes; omega))
  have c1_214_7 : g1 214 7 = g 214 7 := F1 214 7 (by first | (simp [fr_S_goes]; done) | (unfold fr_S_goes; omega))
  have c1_214_13 : g1 214 13 = g 214 13 := F1 214 13 (by first | (simp [fr_S_goes]; done) | (unfold fr_S_goes; omega))
  have c1_214_33 : g1 214 33 = g 214 33 := F1 214 33 (by first | (simp [fr_S_goes]; done) | (unfold fr_S_goes; omega))
  have c1_214_34 : g1 214 34 = g 214 34 := F1 214 34 (by first | (simp [fr_S_goes]; done) | (unfold fr_S_goes; omega))
  have c1_214_62 : g1 214 62 = g 214 62 := F1 214 62 (by first | (simp [fr_S_goes]; done) | (unfold fr_S_goes; omega))
  have c1_250_264 : g1 250 264 = g 250 264 := F1 250 264 (by first | (simp [fr_S_goes]; done) | (unfold fr_S_goes; omega))
  have c1_250_265 : g1 250 265 = g 250 265 := F1 250 265 (by first | (simp [fr_S_goes]; done) | (unfold fr_S_goes; omega))
  have Z1 : zP g1 := zP_eq (fun a i hc => F1 a i (zpf_S_goes hc)) R9
  refine zi_pop (pc' := 700) rfl rfl rfl ?_
  refine zi_aload_n (pc' := 701) rfl rfl rfl ?_
  refine zi_aload_n (pc' := 702) rfl rfl rfl ?_
  refine zi_iload_n (pc' := 703) rfl rfl rfl ?_
  refine zi_iconst (pc' := 704) rfl rfl ?_
  refine zi_iadd (pc' := 705) rfl rfl ?_
  refine zi_xald (pc' := 706) rfl rfl hL ⟨by omega, by omega⟩ ?_
  refine zi_aload_n (pc' := 707) rfl rfl rfl ?_
  refine zi_iload_n (pc' := 708) rfl rfl rfl ?_
  refine zi_iconst (pc' := 709) rfl rfl ?_
  refine zi_iadd (pc' := 710) rfl rfl ?_
  refine zi_xald (pc' := 711) rfl rfl hL ⟨by omega, by omega⟩ ?_
  refine zi_callV (d' := 10) (as := [_, _]) (pc' := 714) rfl rfl rfl rfl (by decide) (s_M_goes (Q := fun v g' => zk_I g' ∧ zk_fr fr_M_goes g1 g') (Nat.le_refl _) (k_M_goes I1 (zw_r _ _) (zw_r _ _) (fun v g' I' F'  => ⟨I', F'⟩))) (zi_ki (fun v2 g2 h2 => ?_))
  obtain ⟨I2, F2⟩ := h2
  have c2_0_2 : g2 0 2 = g1 0 2 := F2 0 2 (by first | (simp [fr_M_goes]; done) | (unfold fr_M_goes; omega))
  have c2_0_8 : g2 0 8 = g1 0 8 := F2 0 8 (by first | (simp [fr_M_goes]; done) | (unfold fr_M_goes; omega))
  have c2_2_8 : g2 2 8 = g1 2 8 := F2 2 8 (by first | (simp [fr_M_goes]; done) | (unfold fr_M_goes; omega))
  have c2_2_11 : g2 2 11 = g1 2 11 := F2 2 11 (by first | (simp [fr_M_goes]; done) | (unfold fr_M_goes; omega))
  have c2_47_8 : g2 47 8 = g1 47 8 := F2 47 8 (by first | (simp [fr_M_goes]; done) | (unfold fr_M_goes; omega))
  have c2_47_11 : g2 47 11 = g1 47 11 := F2 47 11 (by first | (simp [fr_M_goes]; done) | (unfold fr_M_goes; omega))
  have c2_191_5 : g2 191 5 = g1 191 5 := F2 191 5 (by first | (simp [fr_M_goes]; done) | (unfold fr_M_goes; omega))
  have c2_191_6 : g2 191 6 = g1 191 6 := F2 191 6 (by first | (simp [fr_M_goes]; done) | (unfold fr_M_goes; omega))
  have c2_214_6 : g2 214 6 = g1 214 6 := F2 214 6 (by first | (simp [fr_M_goes]; done) | (unfold fr_M_goes; omega))
  have c2_214_7 : g2 214 7 = g1 214 7 := F2 214 7 (by first | (simp [fr_M_goes]; done) | (unfold fr_M_goes; omega))
  have c2_214_13 : g2 214 13 = g1 214 13 := F2 214 13 (by first | (simp [fr_M_goes]; done) | (unfold fr_M_goes; omega))
  have c2_214_33 : g2 214 33 = g1 214 33 := F2 214 33 (by first | (simp [fr_M_goes]; done) | (unfold fr_M_goes; omega))
  have c2_214_34 : g2 214 34 = g1 214 34 := F2 214 34 (by first | (simp [fr_M_goes]; done) | (unfold fr_M_goes; omega))
  have c2_214_62 : g2 214 62 = g1 214 62 := F2 214 62 (by first | (simp [fr_M_goes]; done) | (unfold fr_M_goes; omega))
  have c2_250_264 : g2 250 264 = g1 250 264 := F2 250 264 (by first | (simp [fr_M_goes]; done) | (unfold fr_M_goes; omega))
  have c2_250_265 : g2 250 265 = g1 250 265 := F2 250 265 (by first | (simp [fr_M_goes]; done) | (unfold fr_M_goes; omega))
  have Z2 : zP g2 := zP_eq (fun a i hc => F2 a i (zpf_M_goes hc)) Z1
  refine zi_pop (pc' := 715) rfl rfl rfl ?_
  refine zi_goto (x := 1356) rfl ?_
  exact k _ ⟨I2, (by rw [c2_191_5, c1_191_5, c2_214_33, c1_214_33]; exact R0), (by rw [c2_191_6, c1_191_6, c2_214_34, c1_214_34]; exact R1), (by rw [c2_0_2, c1_0_2, c2_214_62, c1_214_62]; exact R2), (by rw [c2_0_8, c1_0_8, c2_214_13, c1_214_13]; exact R3), (funext fun k => by rw [F2 190 k (by first | (simp [fr_M_goes]; done) | (unfold fr_M_goes; omega)), F1 190 k (by first | (simp [fr_S_goes]; done) | (unfold fr_S_goes; omega)), F2 222 k (by first | (simp [fr_M_goes]; done) | (unfold fr_M_goes; omega)), F1 222 k (by first | (simp [fr_S_goes]; done) | (unfold fr_S_goes; omega))]; exact congrFun R4 k), (by rw [c2_2_8, c1_2_8, c2_214_6, c1_214_6]; exact R5), (fun q => by rw [c2_47_8, c1_47_8, c2_250_264, c1_250_264]; exact R6 (by rw [c2_0_2, c1_0_2] at q; exact q)), (by rw [c2_2_11, c1_2_11, c2_214_7, c1_214_7]; exact R7), (fun q => by rw [c2_47_11, c1_47_11, c2_250_265, c1_250_265]; exact R8 (by rw [c2_0_2, c1_0_2] at q; exact q)), Z2⟩
theorem zpf_M_told {a : Nat} {i : Int} (hc : zPc a i) : ¬ fr_M_told a i := fun w => by
  have ha := zPc_le hc
  unfold fr_M_told at w
  clear hc
  omega
set_option maxRecDepth 100000 in
set_option maxHeartbeats 4000000 in
theorem zw_c16 {E : sx_E} {i : Int} {g : zi_M} (hL : sx_Ln E ≤ 3072) (h0 : 0 ≤ i) (h6 : i + 6 ≤ ((sx_Ln E : Nat) : Int)) (R : zw_R g) (k : ∀ g' : zi_M, zw_R g' → zi_W E 420 326 1356 [some (.ref 1000000000), some (.ref 0), some (.ref 214), some (zi_i i)] [] g' zw_Q) : zi_W E 420 326 718 [some (.ref 1000000000), some (.ref 0), some (.ref 214), some (zi_i i)] [] g zw_Q := by
  obtain ⟨I, R0, R1, R2, R3, R4, R5, R6, R7, R8, R9⟩ := R
  refine zi_aload_n (pc' := 719) rfl rfl rfl ?_
  refine zi_aload_n (pc' := 720) rfl rfl rfl ?_
  refine zi_iload_n (pc' := 721) rfl rfl rfl ?_
  refine zi_iconst (pc' := 722) rfl rfl ?_
  refine zi_iadd (pc' := 723) rfl rfl ?_
  refine zi_xald (pc' := 724) rfl rfl hL ⟨by omega, by omega⟩ ?_
  refine zi_aload_n (pc' := 725) rfl rfl rfl ?_
  refine zi_iload_n (pc' := 726) rfl rfl rfl ?_
  refine zi_iconst (pc' := 727) rfl rfl ?_
  refine zi_iadd (pc' := 728) rfl rfl ?_
  refine zi_xald (pc' := 729) rfl rfl hL ⟨by omega, by omega⟩ ?_
  refine zi_callV (d' := 4) (as := [_, _]) (pc' := 732) rfl rfl rfl rfl (by decide) (s_S_told (Q := fun v g' => g' = g) (Nat.le_refl _) (k_S_told I (zw_r _ _) (zw_r _ _) (by intros; rfl))) (zi_ki (fun v1 g1 h1 => ?_))
  have E1 : g1 = g := h1
  rw [E1]
  refine zi_pop (pc' := 733) rfl rfl rfl ?_
  refine zi_aload_n (pc' := 734) rfl rfl rfl ?_
  refine zi_aload_n (pc' := 735) rfl rfl rfl ?_
  refine zi_iload_n (pc' := 736) rfl rfl rfl ?_
  refine zi_iconst (pc' := 737) rfl rfl ?_
  refine zi_iadd (pc' := 738) rfl rfl ?_
  refine zi_xald (pc' := 739) rfl rfl hL ⟨by omega, by omega⟩ ?_
  refine zi_aload_n (pc' := 740) rfl rfl rfl ?_
  refine zi_iload_n (pc' := 741) rfl rfl rfl ?_
  refine zi_iconst (pc' := 742) rfl rfl ?_
  refine zi_iadd (pc' := 743) rfl rfl ?_
  refine zi_xald (pc' := 744) rfl rfl hL ⟨by omega, by omega⟩ ?_
  refine zi_callV (d' := 3) (as := [_, _]) (pc' := 747) rfl rfl rfl rfl (by decide) (s_M_told (Q := fun v g' => zk_I g' ∧ zk_fr fr_M_told g g') (Nat.le_refl _) (k_M_told I (zw_r _ _) (zw_r _ _) (fun v g' I' F' h0 => ⟨I', F'⟩))) (zi_ki (fun v2 g2 h2 => ?_))
  obtain ⟨I2, F2⟩ := h2
  have c2_0_2 : g2 0 2 = g 0 2 := F2 0 2 (by first | (simp [fr_M_told]; done) | (unfold fr_M_told; omega))
  have c2_0_8 : g2 0 8 = g 0 8 := F2 0 8 (by first | (simp [fr_M_told]; done) | (unfold fr_M_told; omega))
  have c2_2_8 : g2 2 8 = g 2 8 := F2 2 8 (by first | (simp [fr_M_told]; done) | (unfold fr_M_told; omega))
  have c2_2_11 : g2 2 11 = g 2 11 := F2 2 11 (by first | (simp [fr_M_told]; done) | (unfold fr_M_told; omega))
  have c2_47_8 : g2 47 8 = g 47 8 := F2 47 8 (by first | (simp [fr_M_told]; done) | (unfold fr_M_told; omega))
  have c2_47_11 : g2 47 11 = g 47 11 := F2 47 11 (by first | (simp [fr_M_told]; done) | (unfold fr_M_told; omega))
  have c2_191_5 : g2 191 5 = g 191 5 := F2 191 5 (by first | (simp [fr_M_told]; done) | (unfold fr_M_told; omega))
  have c2_191_6 : g2 191 6 = g 191 6 := F2 191 6 (by first | (simp [fr_M_told]; done) | (unfold fr_M_told; omega))
  have c2_214_6 : g2 214 6 = g 214 6 := F2 214 6 (by first | (simp [fr_M_told]; done) | (unfold fr_M_told; omega))
  have c2_214_7 : g2 214 7 = g 214 7 := F2 214 7 (by first | (simp [fr_M_told]; done) | (unfold fr_M_told; omega))
  have c2_214_13 : g2 214 13 = g 214 13 := F2 214 13 (by first | (simp [fr_M_told]; done) | (unfold fr_M_told; omega))
  have c2_214_33 : g2 214 33 = g 214 33 := F2 214 33 (by first | (simp [fr_M_told]; done) | (unfold fr_M_told; omega))
  have c2_214_34 : g2 214 34 = g 214 34 := F2 214 34 (by first | (simp [fr_M_told]; done) | (unfold fr_M_told; omega))
  have c2_214_62 : g2 214 62 = g 214 62 := F2 214 62 (by first | (simp [fr_M_told]; done) | (unfold fr_M_told; omega))
  have c2_250_264 : g2 250 264 = g 250 264 := F2 250 264 (by first | (simp [fr_M_told]; done) | (unfold fr_M_told; omega))
  have c2_250_265 : g2 250 265 = g 250 265 := F2 250 265 (by first | (simp [fr_M_told]; done) | (unfold fr_M_told; omega))
  have Z2 : zP g2 := zP_eq (fun a i hc => F2 a i (zpf_M_told hc)) R9
  refine zi_pop (pc' := 748) rfl rfl rfl ?_
  refine zi_goto (x := 1356) rfl ?_
  exact k _ ⟨I2, (by rw [c2_191_5, c2_214_33]; exact R0), (by rw [c2_191_6, c2_214_34]; exact R1), (by rw [c2_0_2, c2_214_62]; exact R2), (by rw [c2_0_8, c2_214_13]; exact R3), (funext fun k => by rw [F2 190 k (by first | (simp [fr_M_told]; done) | (unfold fr_M_told; omega)), F2 222 k (by first | (simp [fr_M_told]; done) | (unfold fr_M_told; omega))]; exact congrFun R4 k), (by rw [c2_2_8, c2_214_6]; exact R5), (fun q => by rw [c2_47_8, c2_250_264]; exact R6 (by rw [c2_0_2] at q; exact q)), (by rw [c2_2_11, c2_214_7]; exact R7), (fun q => by rw [c2_47_11, c2_250_265]; exact R8 (by rw [c2_0_2] at q; exact q)), Z2⟩
theorem zpf_M_ends {a : Nat} {i : Int} (hc : zPc a i) : ¬ fr_M_ends a i := fun w => by
  have ha := zPc_le hc
  unfold fr_M_ends at w
  clear hc
  omega
set_option maxRecDepth 100000 in
set_option maxHeartbeats 4000000 in
theorem zw_c17 {E : sx_E} {i : Int} {g : zi_M} (hL : sx_Ln E ≤ 3072) (h0 : 0 ≤ i) (h6 : i + 6 ≤ ((sx_Ln E : Nat) : Int)) (R : zw_R g) (k : ∀ g' : zi_M, zw_R g' → zi_W E 420 326 1356 [some (.ref 1000000000), some (.ref 0), some (.ref 214), some (zi_i i)] [] g' zw_Q) : zi_W E 420 326 751 [some (.ref 1000000000), some (.ref 0), some (.ref 214), some (zi_i i)] [] g zw_Q := by
  obtain ⟨I, R0, R1, R2, R3, R4, R5, R6, R7, R8, R9⟩ := R
  refine zi_aload_n (pc' := 752) rfl rfl rfl ?_
  refine zi_aload_n (pc' := 753) rfl rfl rfl ?_
  refine zi_iload_n (pc' := 754) rfl rfl rfl ?_
  refine zi_iconst (pc' := 755) rfl rfl ?_
  refine zi_iadd (pc' := 756) rfl rfl ?_
  refine zi_xald (pc' := 757) rfl rfl hL ⟨by omega, by omega⟩ ?_
  refine zi_aload_n (pc' := 758) rfl rfl rfl ?_
  refine zi_iload_n (pc' := 759) rfl rfl rfl ?_
  refine zi_iconst (pc' := 760) rfl rfl ?_
  refine zi_iadd (pc' := 761) rfl rfl ?_
  refine zi_xald (pc' := 762) rfl rfl hL ⟨by omega, by omega⟩ ?_
  refine zi_callV (d' := 5) (as := [_, _]) (pc' := 765) rfl rfl rfl rfl (by decide) (s_S_ends (Q := fun v g' => g' = g) (Nat.le_refl _) (k_S_ends I (zw_r _ _) (zw_r _ _) (by intros; rfl))) (zi_ki (fun v1 g1 h1 => ?_))
  have E1 : g1 = g := h1
  rw [E1]
  refine zi_pop (pc' := 766) rfl rfl rfl ?_
  refine zi_aload_n (pc' := 767) rfl rfl rfl ?_
  refine zi_aload_n (pc' := 768) rfl rfl rfl ?_
  refine zi_iload_n (pc' := 769) rfl rfl rfl ?_
  refine zi_iconst (pc' := 770) rfl rfl ?_
  refine zi_iadd (pc' := 771) rfl rfl ?_
  refine zi_xald (pc' := 772) rfl rfl hL ⟨by omega, by omega⟩ ?_
  refine zi_aload_n (pc' := 773) rfl rfl rfl ?_
  refine zi_iload_n (pc' := 774) rfl rfl rfl ?_
  refine zi_iconst (pc' := 775) rfl rfl ?_
  refine zi_iadd (pc' := 776) rfl rfl ?_
  refine zi_xald (pc' := 777) rfl rfl hL ⟨by omega, by omega⟩ ?_
  refine zi_callV (d' := 3) (as := [_, _]) (pc' := 780) rfl rfl rfl rfl (by decide) (s_M_ends (Q := fun v g' => zk_I g' ∧ zk_fr fr_M_ends g g') (Nat.le_refl _) (k_M_ends I (zw_r _ _) (zw_r _ _) (fun v g' I' F' h0 h1 h2 => ⟨I', F'⟩))) (zi_ki (fun v2 g2 h2 => ?_))
  obtain ⟨I2, F2⟩ := h2
  have c2_0_2 : g2 0 2 = g 0 2 := F2 0 2 (by first | (simp [fr_M_ends]; done) | (unfold fr_M_ends; omega))
  have c2_0_8 : g2 0 8 = g 0 8 := F2 0 8 (by first | (simp [fr_M_ends]; done) | (unfold fr_M_ends; omega))
  have c2_2_8 : g2 2 8 = g 2 8 := F2 2 8 (by first | (simp [fr_M_ends]; done) | (unfold fr_M_ends; omega))
  have c2_2_11 : g2 2 11 = g 2 11 := F2 2 11 (by first | (simp [fr_M_ends]; done) | (unfold fr_M_ends; omega))
  have c2_47_8 : g2 47 8 = g 47 8 := F2 47 8 (by first | (simp [fr_M_ends]; done) | (unfold fr_M_ends; omega))
  have c2_47_11 : g2 47 11 = g 47 11 := F2 47 11 (by first | (simp [fr_M_ends]; done) | (unfold fr_M_ends; omega))
  have c2_191_5 : g2 191 5 = g 191 5 := F2 191 5 (by first | (simp [fr_M_ends]; done) | (unfold fr_M_ends; omega))
  have c2_191_6 : g2 191 6 = g 191 6 := F2 191 6 (by first | (simp [fr_M_ends]; done) | (unfold fr_M_ends; omega))
  have c2_214_6 : g2 214 6 = g 214 6 := F2 214 6 (by first | (simp [fr_M_ends]; done) | (unfold fr_M_ends; omega))
  have c2_214_7 : g2 214 7 = g 214 7 := F2 214 7 (by first | (simp [fr_M_ends]; done) | (unfold fr_M_ends; omega))
  have c2_214_13 : g2 214 13 = g 214 13 := F2 214 13 (by first | (simp [fr_M_ends]; done) | (unfold fr_M_ends; omega))
  have c2_214_33 : g2 214 33 = g 214 33 := F2 214 33 (by first | (simp [fr_M_ends]; done) | (unfold fr_M_ends; omega))
  have c2_214_34 : g2 214 34 = g 214 34 := F2 214 34 (by first | (simp [fr_M_ends]; done) | (unfold fr_M_ends; omega))
  have c2_214_62 : g2 214 62 = g 214 62 := F2 214 62 (by first | (simp [fr_M_ends]; done) | (unfold fr_M_ends; omega))
  have c2_250_264 : g2 250 264 = g 250 264 := F2 250 264 (by first | (simp [fr_M_ends]; done) | (unfold fr_M_ends; omega))
  have c2_250_265 : g2 250 265 = g 250 265 := F2 250 265 (by first | (simp [fr_M_ends]; done) | (unfold fr_M_ends; omega))
  have Z2 : zP g2 := zP_eq (fun a i hc => F2 a i (zpf_M_ends hc)) R9
  refine zi_pop (pc' := 781) rfl rfl rfl ?_
  refine zi_goto (x := 1356) rfl ?_
  exact k _ ⟨I2, (by rw [c2_191_5, c2_214_33]; exact R0), (by rw [c2_191_6, c2_214_34]; exact R1), (by rw [c2_0_2, c2_214_62]; exact R2), (by rw [c2_0_8, c2_214_13]; exact R3), (funext fun k => by rw [F2 190 k (by first | (simp [fr_M_ends]; done) | (unfold fr_M_ends; omega)), F2 222 k (by first | (simp [fr_M_ends]; done) | (unfold fr_M_ends; omega))]; exact congrFun R4 k), (by rw [c2_2_8, c2_214_6]; exact R5), (fun q => by rw [c2_47_8, c2_250_264]; exact R6 (by rw [c2_0_2] at q; exact q)), (by rw [c2_2_11, c2_214_7]; exact R7), (fun q => by rw [c2_47_11, c2_250_265]; exact R8 (by rw [c2_0_2] at q; exact q)), Z2⟩
theorem zpf_M_catches {a : Nat} {i : Int} (hc : zPc a i) : ¬ fr_M_catches a i := fun w => by
  have ha := zPc_le hc
  unfold fr_M_catches at w
  clear hc
  omega
set_option maxRecDepth 100000 in
set_option maxHeartbeats 4000000 in
theorem zw_c18 {E : sx_E} {i : Int} {g : zi_M} (hL : sx_Ln E ≤ 3072) (h0 : 0 ≤ i) (h6 : i + 6 ≤ ((sx_Ln E : Nat) : Int)) (R : zw_R g) (k : ∀ g' : zi_M, zw_R g' → zi_W E 420 326 1356 [some (.ref 1000000000), some (.ref 0), some (.ref 214), some (zi_i i)] [] g' zw_Q) : zi_W E 420 326 784 [some (.ref 1000000000), some (.ref 0), some (.ref 214), some (zi_i i)] [] g zw_Q := by
  obtain ⟨I, R0, R1, R2, R3, R4, R5, R6, R7, R8, R9⟩ := R
  refine zi_aload_n (pc' := 785) rfl rfl rfl ?_
  refine zi_aload_n (pc' := 786) rfl rfl rfl ?_
  refine zi_iload_n (pc' := 787) rfl rfl rfl ?_
  refine zi_iconst (pc' := 788) rfl rfl ?_
  refine zi_iadd (pc' := 789) rfl rfl ?_
  refine zi_xald (pc' := 790) rfl rfl hL ⟨by omega, by omega⟩ ?_
  refine zi_callV (d' := 6) (as := [_]) (pc' := 793) rfl rfl rfl rfl (by decide) (s_S_catches (Q := fun v g' => g' = g) (Nat.le_refl _) (k_S_catches I (zw_r _ _) (by intros; rfl))) (zi_ki (fun v1 g1 h1 => ?_))
  have E1 : g1 = g := h1
  rw [E1]
  refine zi_pop (pc' := 794) rfl rfl rfl ?_
  refine zi_aload_n (pc' := 795) rfl rfl rfl ?_
  refine zi_aload_n (pc' := 796) rfl rfl rfl ?_
  refine zi_iload_n (pc' := 797) rfl rfl rfl ?_
  refine zi_iconst (pc' := 798) rfl rfl ?_
  refine zi_iadd (pc' := 799) rfl rfl ?_
  refine zi_xald (pc' := 800) rfl rfl hL ⟨by omega, by omega⟩ ?_
  refine zi_callV (d' := 4) (as := [_]) (pc' := 803) rfl rfl rfl rfl (by decide) (s_M_catches (Q := fun v g' => zk_I g' ∧ zk_fr fr_M_catches g g') (Nat.le_refl _) (k_M_catches I (zw_r _ _) (fun v g' I' F' h0 => ⟨I', F'⟩))) (zi_ki (fun v2 g2 h2 => ?_))
  obtain ⟨I2, F2⟩ := h2
  have c2_0_2 : g2 0 2 = g 0 2 := F2 0 2 (by first | (simp [fr_M_catches]; done) | (unfold fr_M_catches; omega))
  have c2_0_8 : g2 0 8 = g 0 8 := F2 0 8 (by first | (simp [fr_M_catches]; done) | (unfold fr_M_catches; omega))
  have c2_2_8 : g2 2 8 = g 2 8 := F2 2 8 (by first | (simp [fr_M_catches]; done) | (unfold fr_M_catches; omega))
  have c2_2_11 : g2 2 11 = g 2 11 := F2 2 11 (by first | (simp [fr_M_catches]; done) | (unfold fr_M_catches; omega))
  have c2_47_8 : g2 47 8 = g 47 8 := F2 47 8 (by first | (simp [fr_M_catches]; done) | (unfold fr_M_catches; omega))
  have c2_47_11 : g2 47 11 = g 47 11 := F2 47 11 (by first | (simp [fr_M_catches]; done) | (unfold fr_M_catches; omega))
  have c2_191_5 : g2 191 5 = g 191 5 := F2 191 5 (by first | (simp [fr_M_catches]; done) | (unfold fr_M_catches; omega))
  have c2_191_6 : g2 191 6 = g 191 6 := F2 191 6 (by first | (simp [fr_M_catches]; done) | (unfold fr_M_catches; omega))
  have c2_214_6 : g2 214 6 = g 214 6 := F2 214 6 (by first | (simp [fr_M_catches]; done) | (unfold fr_M_catches; omega))
  have c2_214_7 : g2 214 7 = g 214 7 := F2 214 7 (by first | (simp [fr_M_catches]; done) | (unfold fr_M_catches; omega))
  have c2_214_13 : g2 214 13 = g 214 13 := F2 214 13 (by first | (simp [fr_M_catches]; done) | (unfold fr_M_catches; omega))
  have c2_214_33 : g2 214 33 = g 214 33 := F2 214 33 (by first | (simp [fr_M_catches]; done) | (unfold fr_M_catches; omega))
  have c2_214_34 : g2 214 34 = g 214 34 := F2 214 34 (by first | (simp [fr_M_catches]; done) | (unfold fr_M_catches; omega))
  have c2_214_62 : g2 214 62 = g 214 62 := F2 214 62 (by first | (simp [fr_M_catches]; done) | (unfold fr_M_catches; omega))
  have c2_250_264 : g2 250 264 = g 250 264 := F2 250 264 (by first | (simp [fr_M_catches]; done) | (unfold fr_M_catches; omega))
  have c2_250_265 : g2 250 265 = g 250 265 := F2 250 265 (by first | (simp [fr_M_catches]; done) | (unfold fr_M_catches; omega))
  have Z2 : zP g2 := zP_eq (fun a i hc => F2 a i (zpf_M_catches hc)) R9
  refine zi_pop (pc' := 804) rfl rfl rfl ?_
  refine zi_goto (x := 1356) rfl ?_
  exact k _ ⟨I2, (by rw [c2_191_5, c2_214_33]; exact R0), (by rw [c2_191_6, c2_214_34]; exact R1), (by rw [c2_0_2, c2_214_62]; exact R2), (by rw [c2_0_8, c2_214_13]; exact R3), (funext fun k => by rw [F2 190 k (by first | (simp [fr_M_catches]; done) | (unfold fr_M_catches; omega)), F2 222 k (by first | (simp [fr_M_catches]; done) | (unfold fr_M_catches; omega))]; exact congrFun R4 k), (by rw [c2_2_8, c2_214_6]; exact R5), (fun q => by rw [c2_47_8, c2_250_264]; exact R6 (by rw [c2_0_2] at q; exact q)), (by rw [c2_2_11, c2_214_7]; exact R7), (fun q => by rw [c2_47_11, c2_250_265]; exact R8 (by rw [c2_0_2] at q; exact q)), Z2⟩
theorem zpf_S_seat {a : Nat} {i : Int} (hc : zPc a i) : ¬ fr_S_seat a i := fun w => by
  unfold fr_S_seat at w
  unfold zPc at hc
  omega
theorem zpf_M_seat {a : Nat} {i : Int} (hc : zPc a i) : ¬ fr_M_seat a i := fun w => by
  have ha := zPc_le hc
  unfold fr_M_seat at w
  clear hc
  omega
set_option maxRecDepth 100000 in
set_option maxHeartbeats 4000000 in
theorem zw_c19 {E : sx_E} {i : Int} {g : zi_M} (hL : sx_Ln E ≤ 3072) (h0 : 0 ≤ i) (h6 : i + 6 ≤ ((sx_Ln E : Nat) : Int)) (R : zw_R g) (k : ∀ g' : zi_M, zw_R g' → zi_W E 420 326 1356 [some (.ref 1000000000), some (.ref 0), some (.ref 214), some (zi_i i)] [] g' zw_Q) : zi_W E 420 326 807 [some (.ref 1000000000), some (.ref 0), some (.ref 214), some (zi_i i)] [] g zw_Q := by
  obtain ⟨I, R0, R1, R2, R3, R4, R5, R6, R7, R8, R9⟩ := R
  refine zi_aload_n (pc' := 808) rfl rfl rfl ?_
  refine zi_aload_n (pc' := 809) rfl rfl rfl ?_
  refine zi_iload_n (pc' := 810) rfl rfl rfl ?_
  refine zi_iconst (pc' := 811) rfl rfl ?_
  refine zi_iadd (pc' := 812) rfl rfl ?_
  refine zi_xald (pc' := 813) rfl rfl hL ⟨by omega, by omega⟩ ?_
  refine zi_aload_n (pc' := 814) rfl rfl rfl ?_
  refine zi_iload_n (pc' := 815) rfl rfl rfl ?_
  refine zi_iconst (pc' := 816) rfl rfl ?_
  refine zi_iadd (pc' := 817) rfl rfl ?_
  refine zi_xald (pc' := 818) rfl rfl hL ⟨by omega, by omega⟩ ?_
  refine zi_callV (d' := 2) (as := [_, _]) (pc' := 821) rfl rfl rfl rfl (by decide) (s_S_seat (Q := fun v g' => zk_I g' ∧ zk_fr fr_S_seat g g') (Nat.le_refl _) (k_S_seat I (zw_r _ _) (zw_r _ _) (fun v g' I' F' h0 h1 h2 h3 => ⟨I', F'⟩))) (zi_ki (fun v1 g1 h1 => ?_))
  obtain ⟨I1, F1⟩ := h1
  have c1_0_2 : g1 0 2 = g 0 2 := F1 0 2 (by first | (simp [fr_S_seat]; done) | (unfold fr_S_seat; omega))
  have c1_0_8 : g1 0 8 = g 0 8 := F1 0 8 (by first | (simp [fr_S_seat]; done) | (unfold fr_S_seat; omega))
  have c1_2_8 : g1 2 8 = g 2 8 := F1 2 8 (by first | (simp [fr_S_seat]; done) | (unfold fr_S_seat; omega))
  have c1_2_11 : g1 2 11 = g 2 11 := F1 2 11 (by first | (simp [fr_S_seat]; done) | (unfold fr_S_seat; omega))
  have c1_47_8 : g1 47 8 = g 47 8 := F1 47 8 (by first | (simp [fr_S_seat]; done) | (unfold fr_S_seat; omega))
  have c1_47_11 : g1 47 11 = g 47 11 := F1 47 11 (by first | (simp [fr_S_seat]; done) | (unfold fr_S_seat; omega))
  have c1_191_5 : g1 191 5 = g 191 5 := F1 191 5 (by first | (simp [fr_S_seat]; done) | (unfold fr_S_seat; omega))
  have c1_191_6 : g1 191 6 = g 191 6 := F1 191 6 (by first | (simp [fr_S_seat]; done) | (unfold fr_S_seat; omega))
  have c1_214_6 : g1 214 6 = g 214 6 := F1 214 6 (by first | (simp [fr_S_seat]; done) | (unfold fr_S_seat; omega))
  have c1_214_7 : g1 214 7 = g 214 7 := F1 214 7 (by first | (simp [fr_S_seat]; done) | (unfold fr_S_seat; omega))
  have c1_214_13 : g1 214 13 = g 214 13 := F1 214 13 (by first | (simp [fr_S_seat]; done) | (unfold fr_S_seat; omega))
  have c1_214_33 : g1 214 33 = g 214 33 := F1 214 33 (by first | (simp [fr_S_seat]; done) | (unfold fr_S_seat; omega))
  have c1_214_34 : g1 214 34 = g 214 34 := F1 214 34 (by first | (simp [fr_S_seat]; done) | (unfold fr_S_seat; omega))
  have c1_214_62 : g1 214 62 = g 214 62 := F1 214 62 (by first | (simp [fr_S_seat]; done) | (unfold fr_S_seat; omega))
  have c1_250_264 : g1 250 264 = g 250 264 := F1 250 264 (by first | (simp [fr_S_seat]; done) | (unfold fr_S_seat; omega))
  have c1_250_265 : g1 250 265 = g 250 265 := F1 250 265 (by first | (simp [fr_S_seat]; done) | (unfold fr_S_seat; omega))
  have Z1 : zP g1 := zP_eq (fun a i hc => F1 a i (zpf_S_seat hc)) R9
  refine zi_pop (pc' := 822) rfl rfl rfl ?_
  refine zi_aload_n (pc' := 823) rfl rfl rfl ?_
  refine zi_aload_n (pc' := 824) rfl rfl rfl ?_
  refine zi_iload_n (pc' := 825) rfl rfl rfl ?_
  refine zi_iconst (pc' := 826) rfl rfl ?_
  refine zi_iadd (pc' := 827) rfl rfl ?_
  refine zi_xald (pc' := 828) rfl rfl hL ⟨by omega, by omega⟩ ?_
  refine zi_aload_n (pc' := 829) rfl rfl rfl ?_
  refine zi_iload_n (pc' := 830) rfl rfl rfl ?_
  refine zi_iconst (pc' := 831) rfl rfl ?_
  refine zi_iadd (pc' := 832) rfl rfl ?_
  refine zi_xald (pc' := 833) rfl rfl hL ⟨by omega, by omega⟩ ?_
  refine zi_callV (d' := 2) (as := [_, _]) (pc' := 836) rfl rfl rfl rfl (by decide) (s_M_seat (Q := fun v g' => zk_I g' ∧ zk_fr fr_M_seat g1 g') (Nat.le_refl _) (k_M_seat I1 (zw_r _ _) (zw_r _ _) (fun v g' I' F' h0 h1 h2 h3 => ⟨I', F'⟩))) (zi_ki (fun v2 g2 h2 => ?_))
  obtain ⟨I2, F2⟩ := h2
  have c2_0_2 : g2 0 2 = g1 0 2 := F2 0 2 (by first | (simp [fr_M_seat]; done) | (unfold fr_M_seat; omega))
  have c2_0_8 : g2 0 8 = g1 0 8 := F2 0 8 (by first | (simp [fr_M_seat]; done) | (unfold fr_M_seat; omega))
  have c2_2_8 : g2 2 8 = g1 2 8 := F2 2 8 (by first | (simp [fr_M_seat]; done) | (unfold fr_M_seat; omega))
  have c2_2_11 : g2 2 11 = g1 2 11 := F2 2 11 (by first | (simp [fr_M_seat]; done) | (unfold fr_M_seat; omega))
  have c2_47_8 : g2 47 8 = g1 47 8 := F2 47 8 (by first | (simp [fr_M_seat]; done) | (unfold fr_M_seat; omega))
  have c2_47_11 : g2 47 11 = g1 47 11 := F2 47 11 (by first | (simp [fr_M_seat]; done) | (unfold fr_M_seat; omega))
  have c2_191_5 : g2 191 5 = g1 191 5 := F2 191 5 (by first | (simp [fr_M_seat]; done) | (unfold fr_M_seat; omega))
  have c2_191_6 : g2 191 6 = g1 191 6 := F2 191 6 (by first | (simp [fr_M_seat]; done) | (unfold fr_M_seat; omega))
  have c2_214_6 : g2 214 6 = g1 214 6 := F2 214 6 (by first | (simp [fr_M_seat]; done) | (unfold fr_M_seat; omega))
  have c2_214_7 : g2 214 7 = g1 214 7 := F2 214 7 (by first | (simp [fr_M_seat]; done) | (unfold fr_M_seat; omega))
  have c2_214_13 : g2 214 13 = g1 214 13 := F2 214 13 (by first | (simp [fr_M_seat]; done) | (unfold fr_M_seat; omega))
  have c2_214_33 : g2 214 33 = g1 214 33 := F2 214 33 (by first | (simp [fr_M_seat]; done) | (unfold fr_M_seat; omega))
  have c2_214_34 : g2 214 34 = g1 214 34 := F2 214 34 (by first | (simp [fr_M_seat]; done) | (unfold fr_M_seat; omega))
  have c2_214_62 : g2 214 62 = g1 214 62 := F2 214 62 (by first | (simp [fr_M_seat]; done) | (unfold fr_M_seat; omega))
  have c2_250_264 : g2 250 264 = g1 250 264 := F2 250 264 (by first | (simp [fr_M_seat]; done) | (unfold fr_M_seat; omega))
  have c2_250_265 : g2 250 265 = g1 250 265 := F2 250 265 (by first | (simp [fr_M_seat]; done) | (unfold fr_M_seat; omega))
  have Z2 : zP g2 := zP_eq (fun a i hc => F2 a i (zpf_M_seat hc)) Z1
  refine zi_pop (pc' := 837) rfl rfl rfl ?_
  refine zi_goto (x := 1356) rfl ?_
  exact k _ ⟨I2, (by rw [c2_191_5, c1_191_5, c2_214_33, c1_214_33]; exact R0), (by rw [c2_191_6, c1_191_6, c2_214_34, c1_214_34]; exact R1), (by rw [c2_0_2, c1_0_2, c2_214_62, c1_214_62]; exact R2), (by rw [c2_0_8, c1_0_8, c2_214_13, c1_214_13]; exact R3), (funext fun k => by rw [F2 190 k (by first | (simp [fr_M_seat]; done) | (unfold fr_M_seat; omega)), F1 190 k (by first | (simp [fr_S_seat]; done) | (unfold fr_S_seat; omega)), F2 222 k (by first | (simp [fr_M_seat]; done) | (unfold fr_M_seat; omega)), F1 222 k (by first | (simp [fr_S_seat]; done) | (unfold fr_S_seat; omega))]; exact congrFun R4 k), (by rw [c2_2_8, c1_2_8, c2_214_6, c1_214_6]; exact R5), (fun q => by rw [c2_47_8, c1_47_8, c2_250_264, c1_250_264]; exact R6 (by rw [c2_0_2, c1_0_2] at q; exact q)), (by rw [c2_2_11, c1_2_11, c2_214_7, c1_214_7]; exact R7), (fun q => by rw [c2_47_11, c1_47_11, c2_250_265, c1_250_265]; exact R8 (by rw [c2_0_2, c1_0_2] at q; exact q)), Z2⟩
theorem zpf_S_ways {a : Nat} {i : Int} (hc : zPc a i) : ¬ fr_S_ways a i := fun w => by
  unfold fr_S_ways at w
  unfold zPc at hc
  omega
theorem zpf_M_ways {a : Nat} {i : Int} (hc : zPc a i) : ¬ fr_M_ways a i := fun w => by
  have ha := zPc_le hc
  unfold fr_M_ways at w
  clear hc
  omega
set_option maxRecDepth 100000 in
set_option maxHeartbeats 4000000 in
theorem zw_c20 {E : sx_E} {i : Int} {g : zi_M} (hL : sx_Ln E ≤ 3072) (h0 : 0 ≤ i) (h6 : i + 6 ≤ ((sx_Ln E : Nat) : Int)) (R : zw_R g) (k : ∀ g' : zi_M, zw_R g' → zi_W E 420 326 1356 [some (.ref 1000000000), some (.ref 0), some (.ref 214), some (zi_i i)] [] g' zw_Q) : zi_W E 420 326 840 [some (.ref 1000000000), some (.ref 0), some (.ref 214), some (zi_i i)] [] g zw_Q := by
  obtain ⟨I, R0, R1, R2, R3, R4, R5, R6, R7, R8, R9⟩ := R
  refine zi_aload_n (pc' := 841) rfl rfl rfl ?_
  refine zi_aload_n (pc' := 842) rfl rfl rfl ?_
  refine zi_iload_n (pc' := 843) rfl rfl rfl ?_
  refine zi_iconst (pc' := 844) rfl rfl ?_
  refine zi_iadd (pc' := 845) rfl rfl ?_
  refine zi_xald (pc' := 846) rfl rfl hL ⟨by omega, by omega⟩ ?_
  refine zi_callV (d' := 16) (as := [_]) (pc' := 849) rfl rfl rfl rfl (by decide) (s_S_ways (Q := fun v g' => zk_I g' ∧ zk_fr fr_S_ways g g') (Nat.le_refl _) (k_S_ways I (zw_r _ _) (fun v g' I' F' h0 => ⟨I', F'⟩))) (zi_ki (fun v1 g1 h1 => ?_))
  obtain ⟨I1, F1⟩ := h1
  have c1_0_2 : g1 0 2 = g 0 2 := F1 0 2 (by first | (simp [fr_S_ways]; done) | (unfold fr_S_ways; omega))
  have c1_0_8 : g1 0 8 = g 0 8 := F1 0 8 (by first | (simp [fr_S_ways]; done) | (unfold fr_S_ways; omega))
  have c1_2_8 : g1 2 8 = g 2 8 := F1 2 8 (by first | (simp [fr_S_ways]; done) | (unfold fr_S_ways; omega))
  have c1_2_11 : g1 2 11 = g 2 11 := F1 2 11 (by first | (simp [fr_S_ways]; done) | (unfold fr_S_ways; omega))
  have c1_47_8 : g1 47 8 = g 47 8 := F1 47 8 (by first | (simp [fr_S_ways]; done) | (unfold fr_S_ways; omega))
  have c1_47_11 : g1 47 11 = g 47 11 := F1 47 11 (by first | (simp [fr_S_ways]; done) | (unfold fr_S_ways; omega))
  have c1_191_5 : g1 191 5 = g 191 5 := F1 191 5 (by first | (simp [fr_S_ways]; done) | (unfold fr_S_ways; omega))
  have c1_191_6 : g1 191 6 = g 191 6 := F1 191 6 (by first | (simp [fr_S_ways]; done) | (unfold fr_S_ways; omega))
  have c1_214_6 : g1 214 6 = g 214 6 := F1 214 6 (by first | (simp [fr_S_ways]; done) | (unfold fr_S_ways; omega))
  have c1_214_7 : g1 214 7 = g 214 7 := F1 214 7 (by first | (simp [fr_S_ways]; done) | (unfold fr_S_ways; omega))
  have c1_214_13 : g1 214 13 = g 214 13 := F1 214 13 (by first | (simp [fr_S_ways]; done) | (unfold fr_S_ways; omega))
  have c1_214_33 : g1 214 33 = g 214 33 := F1 214 33 (by first | (simp [fr_S_ways]; done) | (unfold fr_S_ways; omega))
  have c1_214_34 : g1 214 34 = g 214 34 := F1 214 34 (by first | (simp [fr_S_ways]; done) | (unfold fr_S_ways; omega))
  have c1_214_62 : g1 214 62 = g 214 62 := F1 214 62 (by first | (simp [fr_S_ways]; done) | (unfold fr_S_ways; omega))
  have c1_250_264 : g1 250 264 = g 250 264 := F1 250 264 (by first | (simp [fr_S_ways]; done) | (unfold fr_S_ways; omega))
  have c1_250_265 : g1 250 265 = g 250 265 := F1 250 265 (by first | (simp [fr_S_ways]; done) | (unfold fr_S_ways; omega))
  have Z1 : zP g1 := zP_eq (fun a i hc => F1 a i (zpf_S_ways hc)) R9
  refine zi_pop (pc' := 850) rfl rfl rfl ?_
  refine zi_aload_n (pc' := 851) rfl rfl rfl ?_
  refine zi_aload_n (pc' := 852) rfl rfl rfl ?_
  refine zi_iload_n (pc' := 853) rfl rfl rfl ?_
  refine zi_iconst (pc' := 854) rfl rfl ?_
  refine zi_iadd (pc' := 855) rfl rfl ?_
  refine zi_xald (pc' := 856) rfl rfl hL ⟨by omega, by omega⟩ ?_
  refine zi_callV (d' := 4) (as := [_]) (pc' := 859) rfl rfl rfl rfl (by decide) (s_M_ways (Q := fun v g' => zk_I g' ∧ zk_fr fr_M_ways g1 g') (Nat.le_refl _) (k_M_ways I1 (zw_r _ _) (fun v g' I' F' h0 => ⟨I', F'⟩))) (zi_ki (fun v2 g2 h2 => ?_))
  obtain ⟨I2, F2⟩ := h2
  have c2_0_2 : g2 0 2 = g1 0 2 := F2 0 2 (by first | (simp [fr_M_ways]; done) | (unfold fr_M_ways; omega))
  have c2_0_8 : g2 0 8 = g1 0 8 := F2 0 8 (by first | (simp [fr_M_ways]; done) | (unfold fr_M_ways; omega))
  have c2_2_8 : g2 2 8 = g1 2 8 := F2 2 8 (by first | (simp [fr_M_ways]; done) | (unfold fr_M_ways; omega))
  have c2_2_11 : g2 2 11 = g1 2 11 := F2 2 11 (by first | (simp [fr_M_ways]; done) | (unfold fr_M_ways; omega))
  have c2_47_8 : g2 47 8 = g1 47 8 := F2 47 8 (by first | (simp [fr_M_ways]; done) | (unfold fr_M_ways; omega))
  have c2_47_11 : g2 47 11 = g1 47 11 := F2 47 11 (by first | (simp [fr_M_ways]; done) | (unfold fr_M_ways; omega))
  have c2_191_5 : g2 191 5 = g1 191 5 := F2 191 5 (by first | (simp [fr_M_ways]; done) | (unfold fr_M_ways; omega))
  have c2_191_6 : g2 191 6 = g1 191 6 := F2 191 6 (by first | (simp [fr_M_ways]; done) | (unfold fr_M_ways; omega))
  have c2_214_6 : g2 214 6 = g1 214 6 := F2 214 6 (by first | (simp [fr_M_ways]; done) | (unfold fr_M_ways; omega))
  have c2_214_7 : g2 214 7 = g1 214 7 := F2 214 7 (by first | (simp [fr_M_ways]; done) | (unfold fr_M_ways; omega))
  have c2_214_13 : g2 214 13 = g1 214 13 := F2 214 13 (by first | (simp [fr_M_ways]; done) | (unfold fr_M_ways; omega))
  have c2_214_33 : g2 214 33 = g1 214 33 := F2 214 33 (by first | (simp [fr_M_ways]; done) | (unfold fr_M_ways; omega))
  have c2_214_34 : g2 214 34 = g1 214 34 := F2 214 34 (by first | (simp [fr_M_ways]; done) | (unfold fr_M_ways; omega))
  have c2_214_62 : g2 214 62 = g1 214 62 := F2 214 62 (by first | (simp [fr_M_ways]; done) | (unfold fr_M_ways; omega))
  have c2_250_264 : g2 250 264 = g1 250 264 := F2 250 264 (by first | (simp [fr_M_ways]; done) | (unfold fr_M_ways; omega))
  have c2_250_265 : g2 250 265 = g1 250 265 := F2 250 265 (by first | (simp [fr_M_ways]; done) | (unfold fr_M_ways; omega))
  have Z2 : zP g2 := zP_eq (fun a i hc => F2 a i (zpf_M_ways hc)) Z1
  refine zi_pop (pc' := 860) rfl rfl rfl ?_
  refine zi_goto (x := 1356) rfl ?_
  exact k _ ⟨I2, (by rw [c2_191_5, c1_191_5, c2_214_33, c1_214_33]; exact R0), (by rw [c2_191_6, c1_191_6, c2_214_34, c1_214_34]; exact R1), (by rw [c2_0_2, c1_0_2, c2_214_62, c1_214_62]; exact R2), (by rw [c2_0_8, c1_0_8, c2_214_13, c1_214_13]; exact R3), (funext fun k => by rw [F2 190 k (by first | (simp [fr_M_ways]; done) | (unfold fr_M_ways; omega)), F1 190 k (by first | (simp [fr_S_ways]; done) | (unfold fr_S_ways; omega)), F2 222 k (by first | (simp [fr_M_ways]; done) | (unfold fr_M_ways; omega)), F1 222 k (by first | (simp [fr_S_ways]; done) | (unfold fr_S_ways; omega))]; exact congrFun R4 k), (by rw [c2_2_8, c1_2_8, c2_214_6, c1_214_6]; exact R5), (fun q => by rw [c2_47_8, c1_47_8, c2_250_264, c1_250_264]; exact R6 (by rw [c2_0_2, c1_0_2] at q; exact q)), (by rw [c2_2_11, c1_2_11, c2_214_7, c1_214_7]; exact R7), (fun q => by rw [c2_47_11, c1_47_11, c2_250_265, c1_250_265]; exact R8 (by rw [c2_0_2, c1_0_2] at q; exact q)), Z2⟩
theorem zpf_S_quarrel {a : Nat} {i : Int} (hc : zPc a i) : ¬ fr_S_quarrel a i := fun w => by
  unfold fr_S_quarrel at w
  unfold zPc at hc
  omega
theorem zpf_M_quarrel {a : Nat} {i : Int} (hc : zPc a i) : ¬ fr_M_quarrel a i := fun w => by
  have ha := zPc_le hc
  unfold fr_M_quarrel at w
  clear hc
  omega
set_option maxRecDepth 100000 in
set_option maxHeartbeats 4000000 in
theorem zw_c21 {E : sx_E} {i : Int} {g : zi_M} (hL : sx_Ln E ≤ 3072) (h0 : 0 ≤ i) (h6 : i + 6 ≤ ((sx_Ln E : Nat) : Int)) (R : zw_R g) (k : ∀ g' : zi_M, zw_R g' → zi_W E 420 326 1356 [some (.ref 1000000000), some (.ref 0), some (.ref 214), some (zi_i i)] [] g' zw_Q) : zi_W E 420 326 863 [some (.ref 1000000000), some (.ref 0), some (.ref 214), some (zi_i i)] [] g zw_Q := by
  obtain ⟨I, R0, R1, R2, R3, R4, R5, R6, R7, R8, R9⟩ := R
  refine zi_aload_n (pc' := 864) rfl rfl rfl ?_
  refine zi_aload_n (pc' := 865) rfl rfl rfl ?_
  refine zi_iload_n (pc' := 866) rfl rfl rfl ?_
  refine zi_iconst (pc' := 867) rfl rfl ?_
  refine zi_iadd (pc' := 868) rfl rfl ?_
  refine zi_xald (pc' := 869) rfl rfl hL ⟨by omega, by omega⟩ ?_
  refine zi_aload_n (pc' := 870) rfl rfl rfl ?_
  refine zi_iload_n (pc' := 871) rfl rfl rfl ?_
  refine zi_iconst (pc' := 872) rfl rfl ?_
  refine zi_iadd (pc' := 873) rfl rfl ?_
  refine zi_xald (pc' := 874) rfl rfl hL ⟨by omega, by omega⟩ ?_
  refine zi_callV (d' := 1) (as := [_, _]) (pc' := 877) rfl rfl rfl rfl (by decide) (s_S_quarrel (Q := fun v g' => zk_I g' ∧ zk_fr fr_S_quarrel g g') (Nat.le_refl _) (k_S_quarrel I (zw_r _ _) (zw_r _ _) (fun v g' I' F' h0 h1 h2 h3 => ⟨I', F'⟩))) (zi_ki (fun v1 g1 h1 => ?_))
  obtain ⟨I1, F1⟩ := h1
  have c1_0_2 : g1 0 2 = g 0 2 := F1 0 2 (by first | (simp [fr_S_quarrel]; done) | (unfold fr_S_quarrel; omega))
  have c1_0_8 : g1 0 8 = g 0 8 := F1 0 8 (by first | (simp [fr_S_quarrel]; done) | (unfold fr_S_quarrel; omega))
  have c1_2_8 : g1 2 8 = g 2 8 := F1 2 8 (by first | (simp [fr_S_quarrel]; done) | (unfold fr_S_quarrel; omega))
  have c1_2_11 : g1 2 11 = g 2 11 := F1 2 11 (by first | (simp [fr_S_quarrel]; done) | (unfold fr_S_quarrel; omega))
  have c1_47_8 : g1 47 8 = g 47 8 := F1 47 8 (by first | (simp [fr_S_quarrel]; done) | (unfold fr_S_quarrel; omega))
  have c1_47_11 : g1 47 11 = g 47 11 := F1 47 11 (by first | (simp [fr_S_quarrel]; done) | (unfold fr_S_quarrel; omega))
  have c1_191_5 : g1 191 5 = g 191 5 := F1 191 5 (by first | (simp [fr_S_quarrel]; done) | (unfold fr_S_quarrel; omega))
  have c1_191_6 : g1 191 6 = g 191 6 := F1 191 6 (by first | (simp [fr_S_quarrel]; done) | (unfold fr_S_quarrel; omega))
  have c1_214_6 : g1 214 6 = g 214 6 := F1 214 6 (by first | (simp [fr_S_quarrel]; done) | (unfold fr_S_quarrel; omega))
  have c1_214_7 : g1 214 7 = g 214 7 := F1 214 7 (by first | (simp [fr_S_quarrel]; done) | (unfold fr_S_quarrel; omega))
  have c1_214_13 : g1 214 13 = g 214 13 := F1 214 13 (by first | (simp [fr_S_quarrel]; done) | (unfold fr_S_quarrel; omega))
  have c1_214_33 : g1 214 33 = g 214 33 := F1 214 33 (by first | (simp [fr_S_quarrel]; done) | (unfold fr_S_quarrel; omega))
  have c1_214_34 : g1 214 34 = g 214 34 := F1 214 34 (by first | (simp [fr_S_quarrel]; done) | (unfold fr_S_quarrel; omega))
  have c1_214_62 : g1 214 62 = g 214 62 := F1 214 62 (by first | (simp [fr_S_quarrel]; done) | (unfold fr_S_quarrel; omega))
  have c1_250_264 : g1 250 264 = g 250 264 := F1 250 264 (by first | (simp [fr_S_quarrel]; done) | (unfold fr_S_quarrel; omega))
  have c1_250_265 : g1 250 265 = g 250 265 := F1 250 265 (by first | (simp [fr_S_quarrel]; done) | (unfold fr_S_quarrel; omega))
  have Z1 : zP g1 := zP_eq (fun a i hc => F1 a i (zpf_S_quarrel hc)) R9
  refine zi_pop (pc' := 878) rfl rfl rfl ?_
  refine zi_aload_n (pc' := 879) rfl rfl rfl ?_
  refine zi_aload_n (pc' := 880) rfl rfl rfl ?_
  refine zi_iload_n (pc' := 881) rfl rfl rfl ?_
  refine zi_iconst (pc' := 882) rfl rfl ?_
  refine zi_iadd (pc' := 883) rfl rfl ?_
  refine zi_xald (pc' := 884) rfl rfl hL ⟨by omega, by omega⟩ ?_
  refine zi_aload_n (pc' := 885) rfl rfl rfl ?_
  refine zi_iload_n (pc' := 886) rfl rfl rfl ?_
  refine zi_iconst (pc' := 887) rfl rfl ?_
  refine zi_iadd (pc' := 888) rfl rfl ?_
  refine zi_xald (pc' := 889) rfl rfl hL ⟨by omega, by omega⟩ ?_
  refine zi_callV (d' := 2) (as := [_, _]) (pc' := 892) rfl rfl rfl rfl (by decide) (s_M_quarrel (Q := fun v g' => zk_I g' ∧ zk_fr fr_M_quarrel g1 g') (Nat.le_refl _) (k_M_quarrel I1 (zw_r _ _) (zw_r _ _) (fun v g' I' F' h0 h1 h2 h3 => ⟨I', F'⟩))) (zi_ki (fun v2 g2 h2 => ?_))
  obtain ⟨I2, F2⟩ := h2
  have c2_0_2 : g2 0 2 = g1 0 2 := F2 0 2 (by first | (simp [fr_M_quarrel]; done) | (unfold fr_M_quarrel; omega))
  have c2_0_8 : g2 0 8 = g1 0 8 := F2 0 8 (by first | (simp [fr_M_quarrel]; done) | (unfold fr_M_quarrel; omega))
  have c2_2_8 : g2 2 8 = g1 2 8 := F2 2 8 (by first | (simp [fr_M_quarrel]; done) | (unfold fr_M_quarrel; omega))
  have c2_2_11 : g2 2 11 = g1 2 11 := F2 2 11 (by first | (simp [fr_M_quarrel]; done) | (unfold fr_M_quarrel; omega))
  have c2_47_8 : g2 47 8 = g1 47 8 := F2 47 8 (by first | (simp [fr_M_quarrel]; done) | (unfold fr_M_quarrel; omega))
  have c2_47_11 : g2 47 11 = g1 47 11 := F2 47 11 (by first | (simp [fr_M_quarrel]; done) | (unfold fr_M_quarrel; omega))
  have c2_191_5 : g2 191 5 = g1 191 5 := F2 191 5 (by first | (simp [fr_M_quarrel]; done) | (unfold fr_M_quarrel; omega))
  have c2_191_6 : g2 191 6 = g1 191 6 := F2 191 6 (by first | (simp [fr_M_quarrel]; done) | (unfold fr_M_quarrel; omega))
  have c2_214_6 : g2 214 6 = g1 214 6 := F2 214 6 (by first | (simp [fr_M_quarrel]; done) | (unfold fr_M_quarrel; omega))
  have c2_214_7 : g2 214 7 = g1 214 7 := F2 214 7 (by first | (simp [fr_M_quarrel]; done) | (unfold fr_M_quarrel; omega))
  have c2_214_13 : g2 214 13 = g1 214 13 := F2 214 13 (by first | (simp [fr_M_quarrel]; done) | (unfold fr_M_quarrel; omega))
  have c2_214_33 : g2 214 33 = g1 214 33 := F2 214 33 (by first | (simp [fr_M_quarrel]; done) | (unfold fr_M_quarrel; omega))
  have c2_214_34 : g2 214 34 = g1 214 34 := F2 214 34 (by first | (simp [fr_M_quarrel]; done) | (unfold fr_M_quarrel; omega))
  have c2_214_62 : g2 214 62 = g1 214 62 := F2 214 62 (by first | (simp [fr_M_quarrel]; done) | (unfold fr_M_quarrel; omega))
  have c2_250_264 : g2 250 264 = g1 250 264 := F2 250 264 (by first | (simp [fr_M_quarrel]; done) | (unfold fr_M_quarrel; omega))
  have c2_250_265 : g2 250 265 = g1 250 265 := F2 250 265 (by first | (simp [fr_M_quarrel]; done) | (unfold fr_M_quarrel; omega))
  have Z2 : zP g2 := zP_eq (fun a i hc => F2 a i (zpf_M_quarrel hc)) Z1
  refine zi_pop (pc' := 893) rfl rfl rfl ?_
  refine zi_goto (x := 1356) rfl ?_
  exact k _ ⟨I2, (by rw [c2_191_5, c1_191_5, c2_214_33, c1_214_33]; exact R0), (by rw [c2_191_6, c1_191_6, c2_214_34, c1_214_34]; exact R1), (by rw [c2_0_2, c1_0_2, c2_214_62, c1_214_62]; exact R2), (by rw [c2_0_8, c1_0_8, c2_214_13, c1_214_13]; exact R3), (funext fun k => by rw [F2 190 k (by first | (simp [fr_M_quarrel]; done) | (unfold fr_M_quarrel; omega)), F1 190 k (by first | (simp [fr_S_quarrel]; done) | (unfold fr_S_quarrel; omega)), F2 222 k (by first | (simp [fr_M_quarrel]; done) | (unfold fr_M_quarrel; omega)), F1 222 k (by first | (simp [fr_S_quarrel]; done) | (unfold fr_S_quarrel; omega))]; exact congrFun R4 k), (by rw [c2_2_8, c1_2_8, c2_214_6, c1_214_6]; exact R5), (fun q => by rw [c2_47_8, c1_47_8, c2_250_264, c1_250_264]; exact R6 (by rw [c2_0_2, c1_0_2] at q; exact q)), (by rw [c2_2_11, c1_2_11, c2_214_7, c1_214_7]; exact R7), (fun q => by rw [c2_47_11, c1_47_11, c2_250_265, c1_250_265]; exact R8 (by rw [c2_0_2, c1_0_2] at q; exact q)), Z2⟩
theorem zpf_S_parts {a : Nat} {i : Int} (hc : zPc a i) : ¬ fr_S_parts a i := fun w => by
  unfold fr_S_parts at w
  unfold zPc at hc
  omega
theorem zpf_M_parts {a : Nat} {i : Int} (hc : zPc a i) : ¬ fr_M_parts a i := fun w => by
  have ha := zPc_le hc
  unfold fr_M_parts at w
  clear hc
  omega
set_option maxRecDepth 100000 in
set_option maxHeartbeats 4000000 in
theorem zw_c22 {E : sx_E} {i : Int} {g : zi_M} (hL : sx_Ln E ≤ 3072) (h0 : 0 ≤ i) (h6 : i + 6 ≤ ((sx_Ln E : Nat) : Int)) (R : zw_R g) (k : ∀ g' : zi_M, zw_R g' → zi_W E 420 326 1356 [some (.ref 1000000000), some (.ref 0), some (.ref 214), some (zi_i i)] [] g' zw_Q) : zi_W E 420 326 896 [some (.ref 1000000000), some (.ref 0), some (.ref 214), some (zi_i i)] [] g zw_Q := by
  obtain ⟨I, R0, R1, R2, R3, R4, R5, R6, R7, R8, R9⟩ := R
  refine zi_aload_n (pc' := 897) rfl rfl rfl ?_
  refine zi_aload_n (pc' := 898) rfl rfl rfl ?_
  refine zi_iload_n (pc' := 899) rfl rfl rfl ?_
  refine zi_iconst (pc' := 900) rfl rfl ?_
  refine zi_iadd (pc' := 901) rfl rfl ?_
  refine zi_xald (pc' := 902) rfl rfl hL ⟨by omega, by omega⟩ ?_
  refine zi_callV (d' := 4) (as := [_]) (pc' := 905) rfl rfl rfl rfl (by decide) (s_S_parts (Q := fun v g' => zk_I g' ∧ zk_fr fr_S_parts g g') (Nat.le_refl _) (k_S_parts I (zw_r _ _) (fun v g' I' F' h0 => ⟨I', F'⟩))) (zi_ki (fun v1 g1 h1 => ?_))
  obtain ⟨I1, F1⟩ := h1
  have c1_0_2 : g1 0 2 = g 0 2 := F1 0 2 (by first | (simp [fr_S_parts]; done) | (unfold fr_S_parts; omega))
  have c1_0_8 : g1 0 8 = g 0 8 := F1 0 8 (by first | (simp [fr_S_parts]; done) | (unfold fr_S_parts; omega))
  have c1_2_8 : g1 2 8 = g 2 8 := F1 2 8 (by first | (simp [fr_S_parts]; done) | (unfold fr_S_parts; omega))
  have c1_2_11 : g1 2 11 = g 2 11 := F1 2 11 (by first | (simp [fr_S_parts]; done) | (unfold fr_S_parts; omega))
  have c1_47_8 : g1 47 8 = g 47 8 := F1 47 8 (by first | (simp [fr_S_parts]; done) | (unfold fr_S_parts; omega))
  have c1_47_11 : g1 47 11 = g 47 11 := F1 47 11 (by first | (simp [fr_S_parts]; done) | (unfold fr_S_parts; omega))
  have c1_191_5 : g1 191 5 = g 191 5 := F1 191 5 (by first | (simp [fr_S_parts]; done) | (unfold fr_S_parts; omega))
  have c1_191_6 : g1 191 6 = g 191 6 := F1 191 6 (by first | (simp [fr_S_parts]; done) | (unfold fr_S_parts; omega))
  have c1_214_6 : g1 214 6 = g 214 6 := F1 214 6 (by first | (simp [fr_S_parts]; done) | (unfold fr_S_parts; omega))
  have c1_214_7 : g1 214 7 = g 214 7 := F1 214 7 (by first | (simp [fr_S_parts]; done) | (unfold fr_S_parts; omega))
  have c1_214_13 : g1 214 13 = g 214 13 := F1 214 13 (by first | (simp [fr_S_parts]; done) | (unfold fr_S_parts; omega))
  have c1_214_33 : g1 214 33 = g 214 33 := F1 214 33 (by first | (simp [fr_S_parts]; done) | (unfold fr_S_parts; omega))
  have c1_214_34 : g1 214 34 = g 214 34 := F1 214 34 (by first | (simp [fr_S_parts]; done) | (unfold fr_S_parts; omega))
  have c1_214_62 : g1 214 62 = g 214 62 := F1 214 62 (by first | (simp [fr_S_parts]; done) | (unfold fr_S_parts; omega))
  have c1_250_264 : g1 250 264 = g 250 264 := F1 250 264 (by first | (simp [fr_S_parts]; done) | (unfold fr_S_parts; omega))
  have c1_250_265 : g1 250 265 = g 250 265 := F1 250 265 (by first | (simp [fr_S_parts]; done) | (unfold fr_S_parts; omega))
  have Z1 : zP g1 := zP_eq (fun a i hc => F1 a i (zpf_S_parts hc)) R9
  refine zi_pop (pc' := 906) rfl rfl rfl ?_
  refine zi_aload_n (pc' := 907) rfl rfl rfl ?_
  refine zi_aload_n (pc' := 908) rfl rfl rfl ?_
  refine zi_iload_n (pc' := 909) rfl rfl rfl ?_
  refine zi_iconst (pc' := 910) rfl rfl ?_
  refine zi_iadd (pc' := 911) rfl rfl ?_
  refine zi_xald (pc' := 912) rfl rfl hL ⟨by omega, by omega⟩ ?_
  refine zi_callV (d' := 4) (as := [_]) (pc' := 915) rfl rfl rfl rfl (by decide) (s_M_parts (Q := fun v g' => zk_I g' ∧ zk_fr fr_M_parts g1 g') (Nat.le_refl _) (k_M_parts I1 (zw_r _ _) (fun v g' I' F' h0 => ⟨I', F'⟩))) (zi_ki (fun v2 g2 h2 => ?_))
  obtain ⟨I2, F2⟩ := h2
  have c2_0_2 : g2 0 2 = g1 0 2 := F2 0 2 (by first | (simp [fr_M_parts]; done) | (unfold fr_M_parts; omega))
  have c2_0_8 : g2 0 8 = g1 0 8 := F2 0 8 (by first | (simp [fr_M_parts]; done) | (unfold fr_M_parts; omega))
  have c2_2_8 : g2 2 8 = g1 2 8 := F2 2 8 (by first | (simp [fr_M_parts]; done) | (unfold fr_M_parts; omega))
  have c2_2_11 : g2 2 11 = g1 2 11 := F2 2 11 (by first | (simp [fr_M_parts]; done) | (unfold fr_M_parts; omega))
  have c2_47_8 : g2 47 8 = g1 47 8 := F2 47 8 (by first | (simp [fr_M_parts]; done) | (unfold fr_M_parts; omega))
  have c2_47_11 : g2 47 11 = g1 47 11 := F2 47 11 (by first | (simp [fr_M_parts]; done) | (unfold fr_M_parts; omega))
  have c2_191_5 : g2 191 5 = g1 191 5 := F2 191 5 (by first | (simp [fr_M_parts]; done) | (unfold fr_M_parts; omega))
  have c2_191_6 : g2 191 6 = g1 191 6 := F2 191 6 (by first | (simp [fr_M_parts]; done) | (unfold fr_M_parts; omega))
  have c2_214_6 : g2 214 6 = g1 214 6 := F2 214 6 (by first | (simp [fr_M_parts]; done) | (unfold fr_M_parts; omega))
  have c2_214_7 : g2 214 7 = g1 214 7 := F2 214 7 (by first | (simp [fr_M_parts]; done) | (unfold fr_M_parts; omega))
  have c2_214_13 : g2 214 13 = g1 214 13 := F2 214 13 (by first | (simp [fr_M_parts]; done) | (unfold fr_M_parts; omega))
  have c2_214_33 : g2 214 33 = g1 214 33 := F2 214 33 (by first | (simp [fr_M_parts]; done) | (unfold fr_M_parts; omega))
  have c2_214_34 : g2 214 34 = g1 214 34 := F2 214 34 (by first | (simp [fr_M_parts]; done) | (unfold fr_M_parts; omega))
  have c2_214_62 : g2 214 62 = g1 214 62 := F2 214 62 (by first | (simp [fr_M_parts]; done) | (unfold fr_M_parts; omega))
  have c2_250_264 : g2 250 264 = g1 250 264 := F2 250 264 (by first | (simp [fr_M_parts]; done) | (unfold fr_M_parts; omega))
  have c2_250_265 : g2 250 265 = g1 250 265 := F2 250 265 (by first | (simp [fr_M_parts]; done) | (unfold fr_M_parts; omega))
  have Z2 : zP g2 := zP_eq (fun a i hc => F2 a i (zpf_M_parts hc)) Z1
  refine zi_pop (pc' := 916) rfl rfl rfl ?_
  refine zi_goto (x := 1356) rfl ?_
  exact k _ ⟨I2, (by rw [c2_191_5, c1_191_5, c2_214_33, c1_214_33]; exact R0), (by rw [c2_191_6, c1_191_6, c2_214_34, c1_214_34]; exact R1), (by rw [c2_0_2, c1_0_2, c2_214_62, c1_214_62]; exact R2), (by rw [c2_0_8, c1_0_8, c2_214_13, c1_214_13]; exact R3), (funext fun k => by rw [F2 190 k (by first | (simp [fr_M_parts]; done) | (unfold fr_M_parts; omega)), F1 190 k (by first | (simp [fr_S_parts]; done) | (unfold fr_S_parts; omega)), F2 222 k (by first | (simp [fr_M_parts]; done) | (unfold fr_M_parts; omega)), F1 222 k (by first | (simp [fr_S_parts]; done) | (unfold fr_S_parts; omega))]; exact congrFun R4 k), (by rw [c2_2_8, c1_2_8, c2_214_6, c1_214_6]; exact R5), (fun q => by rw [c2_47_8, c1_47_8, c2_250_264, c1_250_264]; exact R6 (by rw [c2_0_2, c1_0_2] at q; exact q)), (by rw [c2_2_11, c1_2_11, c2_214_7, c1_214_7]; exact R7), (fun q => by rw [c2_47_11, c1_47_11, c2_250_265, c1_250_265]; exact R8 (by rw [c2_0_2, c1_0_2] at q; exact q)), Z2⟩
theorem zpf_S_known {a : Nat} {i : Int} (hc : zPc a i) : ¬ fr_S_known a i := fun w => by
  unfold fr_S_known at w
  unfold zPc at hc
  omega
theorem zpf_M_known {a : Nat} {i : Int} (hc : zPc a i) : ¬ fr_M_known a i := fun w => by
  have ha := zPc_le hc
  unfold fr_M_known at w
  clear hc
  omega
set_option maxRecDepth 100000 in
set_option maxHeartbeats 4000000 in
theorem zw_c23 {E : sx_E} {i : Int} {g : zi_M} (hL : sx_Ln E ≤ 3072) (h0 : 0 ≤ i) (h6 : i + 6 ≤ ((sx_Ln E : Nat) : Int)) (R : zw_R g) (k : ∀ g' : zi_M, zw_R g' → zi_W E 420 326 1356 [some (.ref 1000000000), some (.ref 0), some (.ref 214), some (zi_i i)] [] g' zw_Q) : zi_W E 420 326 919 [some (.ref 1000000000), some (.ref 0), some (.ref 214), some (zi_i i)] [] g zw_Q := by
  obtain ⟨I, R0, R1, R2, R3, R4, R5, R6, R7, R8, R9⟩ := R
  refine zi_aload_n (pc' := 920) rfl rfl rfl ?_
  refine zi_aload_n (pc' := 921) rfl rfl rfl ?_
  refine zi_iload_n (pc' := 922) rfl rfl rfl ?_
  refine zi_iconst (pc' := 923) rfl rfl ?_
  refine zi_iadd (pc' := 924) rfl rfl ?_
  refine zi_xald (pc' := 925) rfl rfl hL ⟨by omega, by omega⟩ ?_
  refine zi_aload_n (pc' := 926) rfl rfl rfl ?_
  refine zi_iload_n (pc' := 927) rfl rfl rfl ?_
  refine zi_iconst (pc' := 928) rfl rfl ?_
  refine zi_iadd (pc' := 929) rfl rfl ?_
  refine zi_xald (pc' := 930) rfl rfl hL ⟨by omega, by omega⟩ ?_
  refine zi_callV (d' := 5) (as := [_, _]) (pc' := 933) rfl rfl rfl rfl (by decide) (s_S_known (Q := fun v g' => zk_I g' ∧ zk_fr fr_S_known g g') (Nat.le_refl _) (k_S_known I (zw_r _ _) (zw_r _ _) (fun v g' I' F' h0 => ⟨I', F'⟩))) (zi_ki (fun v1 g1 h1 => ?_))
  obtain ⟨I1, F1⟩ := h1
  have c1_0_2 : g1 0 2 = g 0 2 := F1 0 2 (by first | (simp [fr_S_known]; done) | (unfold fr_S_known; omega))
  have c1_0_8 : g1 0 8 = g 0 8 := F1 0 8 (by first | (simp [fr_S_known]; done) | (unfold fr_S_known; omega))
  have c1_2_8 : g1 2 8 = g 2 8 := F1 2 8 (by first | (simp [fr_S_known]; done) | (unfold fr_S_known; omega))
  have c1_2_11 : g1 2 11 = g 2 11 := F1 2 11 (by first | (simp [fr_S_known]; done) | (unfold fr_S_known; omega))
  have c1_47_8 : g1 47 8 = g 47 8 := F1 47 8 (by first | (simp [fr_S_known]; done) | (unfold fr_S_known; omega))
  have c1_47_11 : g1 47 11 = g 47 11 := F1 47 11 (by first | (simp [fr_S_known]; done) | (unfold fr_S_known; omega))
  have c1_191_5 : g1 191 5 = g 191 5 := F1 191 5 (by first | (simp [fr_S_known]; done) | (unfold fr_S_known; omega))
  have c1_191_6 : g1 191 6 = g 191 6 := F1 191 6 (by first | (simp [fr_S_known]; done) | (unfold fr_S_known; omega))
  have c1_214_6 : g1 214 6 = g 214 6 := F1 214 6 (by first | (simp [fr_S_known]; done) | (unfold fr_S_known; omega))
  have c1_214_7 : g1 214 7 = g 214 7 := F1 214 7 (by first | (simp [fr_S_known]; done) | (unfold fr_S_known; omega))
  have c1_214_13 : g1 214 13 = g 214 13 := F1 214 13 (by first | (simp [fr_S_known]; done) | (unfold fr_S_known; omega))
  have c1_214_33 : g1 214 33 = g 214 33 := F1 214 33 (by first | (simp [fr_S_known]; done) | (unfold fr_S_known; omega))
  have c1_214_34 : g1 214 34 = g 214 34 := F1 214 34 (by first | (simp [fr_S_known]; done) | (unfold fr_S_known; omega))
  have c1_214_62 : g1 214 62 = g 214 62 := F1 214 62 (by first | (simp [fr_S_known]; done) | (unfold fr_S_known; omega))
  have c1_250_264 : g1 250 264 = g 250 264 := F1 250 264 (by first | (simp [fr_S_known]; done) | (unfold fr_S_known; omega))
  have c1_250_265 : g1 250 265 = g 250 265 := F1 250 265 (by first | (simp [fr_S_known]; done) | (unfold fr_S_known; omega))
  have Z1 : zP g1 := zP_eq (fun a i hc => F1 a i (zpf_S_known hc)) R9
  refine zi_pop (pc' := 934) rfl rfl rfl ?_
  refine zi_aload_n (pc' := 935) rfl rfl rfl ?_
  refine zi_aload_n (pc' := 936) rfl rfl rfl ?_
  refine zi_iload_n (pc' := 937) rfl rfl rfl ?_
  refine zi_iconst (pc' := 938) rfl rfl ?_
  refine zi_iadd (pc' := 939) rfl rfl ?_
  refine zi_xald (pc' := 940) rfl rfl hL ⟨by omega, by omega⟩ ?_
  refine zi_aload_n (pc' := 941) rfl rfl rfl ?_
  refine zi_iload_n (pc' := 942) rfl rfl rfl ?_
  refine zi_iconst (pc' := 943) rfl rfl ?_
  refine zi_iadd (pc' := 944) rfl rfl ?_
  refine zi_xald (pc' := 945) rfl rfl hL ⟨by omega, by omega⟩ ?_
  refine zi_callV (d' := 3) (as := [_, _]) (pc' := 948) rfl rfl rfl rfl (by decide) (s_M_known (Q := fun v g' => zk_I g' ∧ zk_fr fr_M_known g1 g') (Nat.le_refl _) (k_M_known I1 (zw_r _ _) (zw_r _ _) (fun v g' I' F' h0 => ⟨I', F'⟩))) (zi_ki (fun v2 g2 h2 => ?_))
  obtain ⟨I2, F2⟩ := h2
  have c2_0_2 : g2 0 2 = g1 0 2 := F2 0 2 (by first | (simp [fr_M_known]; done) | (unfold fr_M_known; omega))
  have c2_0_8 : g2 0 8 = g1 0 8 := F2 0 8 (by first | (simp [fr_M_known]; done) | (unfold fr_M_known; omega))
  have c2_2_8 : g2 2 8 = g1 2 8 := F2 2 8 (by first | (simp [fr_M_known]; done) | (unfold fr_M_known; omega))
  have c2_2_11 : g2 2 11 = g1 2 11 := F2 2 11 (by first | (simp [fr_M_known]; done) | (unfold fr_M_known; omega))
  have c2_47_8 : g2 47 8 = g1 47 8 := F2 47 8 (by first | (simp [fr_M_known]; done) | (unfold fr_M_known; omega))
  have c2_47_11 : g2 47 11 = g1 47 11 := F2 47 11 (by first | (simp [fr_M_known]; done) | (unfold fr_M_known; omega))
  have c2_191_5 : g2 191 5 = g1 191 5 := F2 191 5 (by first | (simp [fr_M_known]; done) | (unfold fr_M_known; omega))
  have c2_191_6 : g2 191 6 = g1 191 6 := F2 191 6 (by first | (simp [fr_M_known]; done) | (unfold fr_M_known; omega))
  have c2_214_6 : g2 214 6 = g1 214 6 := F2 214 6 (by first | (simp [fr_M_known]; done) | (unfold fr_M_known; omega))
  have c2_214_7 : g2 214 7 = g1 214 7 := F2 214 7 (by first | (simp [fr_M_known]; done) | (unfold fr_M_known; omega))
  have c2_214_13 : g2 214 13 = g1 214 13 := F2 214 13 (by first | (simp [fr_M_known]; done) | (unfold fr_M_known; omega))
  have c2_214_33 : g2 214 33 = g1 214 33 := F2 214 33 (by first | (simp [fr_M_known]; done) | (unfold fr_M_known; omega))
  have c2_214_34 : g2 214 34 = g1 214 34 := F2 214 34 (by first | (simp [fr_M_known]; done) | (unfold fr_M_known; omega))
  have c2_214_62 : g2 214 62 = g1 214 62 := F2 214 62 (by first | (simp [fr_M_known]; done) | (unfold fr_M_known; omega))
  have c2_250_264 : g2 250 264 = g1 250 264 := F2 250 264 (by first | (simp [fr_M_known]; done) | (unfold fr_M_known; omega))
  have c2_250_265 : g2 250 265 = g1 250 265 := F2 250 265 (by first | (simp [fr_M_known]; done) | (unfold fr_M_known; omega))
  have Z2 : zP g2 := zP_eq (fun a i hc => F2 a i (zpf_M_known hc)) Z1
  refine zi_pop (pc' := 949) rfl rfl rfl ?_
  refine zi_goto (x := 1356) rfl ?_
  exact k _ ⟨I2, (by rw [c2_191_5, c1_191_5, c2_214_33, c1_214_33]; exact R0), (by rw [c2_191_6, c1_191_6, c2_214_34, c1_214_34]; exact R1), (by rw [c2_0_2, c1_0_2, c2_214_62, c1_214_62]; exact R2), (by rw [c2_0_8, c1_0_8, c2_214_13, c1_214_13]; exact R3), (funext fun k => by rw [F2 190 k (by first | (simp [fr_M_known]; done) | (unfold fr_M_known; omega)), F1 190 k (by first | (simp [fr_S_known]; done) | (unfold fr_S_known; omega)), F2 222 k (by first | (simp [fr_M_known]; done) | (unfold fr_M_known; omega)), F1 222 k (by first | (simp [fr_S_known]; done) | (unfold fr_S_known; omega))]; exact congrFun R4 k), (by rw [c2_2_8, c1_2_8, c2_214_6, c1_214_6]; exact R5), (fun q => by rw [c2_47_8, c1_47_8, c2_250_264, c1_250_264]; exact R6 (by rw [c2_0_2, c1_0_2] at q; exact q)), (by rw [c2_2_11, c1_2_11, c2_214_7, c1_214_7]; exact R7), (fun q => by rw [c2_47_11, c1_47_11, c2_250_265, c1_250_265]; exact R8 (by rw [c2_0_2, c1_0_2] at q; exact q)), Z2⟩
theorem zpf_S_latin {a : Nat} {i : Int} (hc : zPc a i) : ¬ fr_S_latin a i := fun w => by
  unfold fr_S_latin at w
  unfold zPc at hc
  omega
theorem zpf_M_latin {a : Nat} {i : Int} (hc : zPc a i) : ¬ fr_M_latin a i := fun w => by
  have ha := zPc_le hc
  unfold fr_M_latin at w
  clear hc
  omega
set_option maxRecDepth 100000 in
set_option maxHeartbeats 4000000 in
theorem zw_c24 {E : sx_E} {i : Int} {g : zi_M} (hL : sx_Ln E ≤ 3072) (h0 : 0 ≤ i) (h6 : i + 6 ≤ ((sx_Ln E : Nat) : Int)) (R : zw_R g) (k : ∀ g' : zi_M, zw_R g' → zi_W E 420 326 1356 [some (.ref 1000000000), some (.ref 0), some (.ref 214), some (zi_i i)] [] g' zw_Q) : zi_W E 420 326 952 [some (.ref 1000000000), some (.ref 0), some (.ref 214), some (zi_i i)] [] g zw_Q := by
  obtain ⟨I, R0, R1, R2, R3, R4, R5, R6, R7, R8, R9⟩ := R
  refine zi_aload_n (pc' := 953) rfl rfl rfl ?_
  refine zi_aload_n (pc' := 954) rfl rfl rfl ?_
  refine zi_iload_n (pc' := 955) rfl rfl rfl ?_
  refine zi_iconst (pc' := 956) rfl rfl ?_
  refine zi_iadd (pc' := 957) rfl rfl ?_
  refine zi_xald (pc' := 958) rfl rfl hL ⟨by omega, by omega⟩ ?_
  refine zi_aload_n (pc' := 959) rfl rfl rfl ?_
  refine zi_iload_n (pc' := 960) rfl rfl rfl ?_
  refine zi_iconst (pc' := 961) rfl rfl ?_
  refine zi_iadd (pc' := 962) rfl rfl ?_
  refine zi_xald (pc' := 963) rfl rfl hL ⟨by omega, by omega⟩ ?_
  refine zi_callV (d' := 2) (as := [_, _]) (pc' := 966) rfl rfl rfl rfl (by decide) (s_S_latin (Q := fun v g' => zk_I g' ∧ zk_fr fr_S_latin g g') (Nat.le_refl _) (k_S_latin I (zw_r _ _) (zw_r _ _) (fun v g' I' F' h0 h1 h2 h3 => ⟨I', F'⟩))) (zi_kb (fun v1 g1 b1 h1 => ?_))
  obtain ⟨I1, F1⟩ := h1
  have c1_0_2 : g1 0 2 = g 0 2 := F1 0 2 (by first | (simp [fr_S_latin]; done) | (unfold fr_S_latin; omega))
  have c1_0_8 : g1 0 8 = g 0 8 := F1 0 8 (by first | (simp [fr_S_latin]; done) | (unfold fr_S_latin; omega))
  have c1_2_8 : g1 2 8 = g 2 8 := F1 2 8 (by first | (simp [fr_S_latin]; done) | (unfold fr_S_latin; omega))
  have c1_2_11 : g1 2 11 = g 2 11 := F1 2 11 (by first | (simp [fr_S_latin]; done) | (unfold fr_S_latin; omega))
  have c1_47_8 : g1 47 8 = g 47 8 := F1 47 8 (by first | (simp [fr_S_latin]; done) | (unfold fr_S_latin; omega))
  have c1_47_11 : g1 47 11 = g 47 11 := F1 47 11 (by first | (simp [fr_S_latin]; done) | (unfold fr_S_latin; omega))
  have c1_191_5 : g1 191 5 = g 191 5 := F1 191 5 (by first | (simp [fr_S_latin]; done) | (unfold fr_S_latin; omega))
  have c1_191_6 : g1 191 6 = g 191 6 := F1 191 6 (by first | (simp [fr_S_latin]; done) | (unfold fr_S_latin; omega))
  have c1_214_6 : g1 214 6 = g 214 6 := F1 214 6 (by first | (simp [fr_S_latin]; done) | (unfold fr_S_latin; omega))
  have c1_214_7 : g1 214 7 = g 214 7 := F1 214 7 (by first | (simp [fr_S_latin]; done) | (unfold fr_S_latin; omega))
  have c1_214_13 : g1 214 13 = g 214 13 := F1 214 13 (by first | (simp [fr_S_latin]; done) | (unfold fr_S_latin; omega))
  have c1_214_33 : g1 214 33 = g 214 33 := F1 214 33 (by first | (simp [fr_S_latin]; done) | (unfold fr_S_latin; omega))
  have c1_214_34 : g1 214 34 = g 214 34 := F1 214 34 (by first | (simp [fr_S_latin]; done) | (unfold fr_S_latin; omega))
  have c1_214_62 : g1 214 62 = g 214 62 := F1 214 62 (by first | (simp [fr_S_latin]; done) | (unfold fr_S_latin; omega))
  have c1_250_264 : g1 250 264 = g 250 264 := F1 250 264 (by first | (simp [fr_S_latin]; done) | (unfold fr_S_latin; omega))
  have c1_250_265 : g1 250 265 = g 250 265 := F1 250 265 (by first | (simp [fr_S_latin]; done) | (unfold fr_S_latin; omega))
  have Z1 : zP g1 := zP_eq (fun a i hc => F1 a i (zpf_S_latin hc)) R9
  refine zi_pop (pc' := 967) rfl rfl rfl ?_
  refine zi_aload_n (pc' := 968) rfl rfl rfl ?_
  refine zi_aload_n (pc' := 969) rfl rfl rfl ?_
  refine zi_iload_n (pc' := 970) rfl rfl rfl ?_
  refine zi_iconst (pc' := 971) rfl rfl ?_
  refine zi_iadd (pc' := 972) rfl rfl ?_
  refine zi_xald (pc' := 973) rfl rfl hL ⟨by omega, by omega⟩ ?_
  refine zi_aload_n (pc' := 974) rfl rfl rfl ?_
  refine zi_iload_n (pc' := 975) rfl rfl rfl ?_
  refine zi_iconst (pc' := 976) rfl rfl ?_
  refine zi_iadd (pc' := 977) rfl rfl ?_
  refine zi_xald (pc' := 978) rfl rfl hL ⟨by omega, by omega⟩ ?_
  refine zi_callV (d' := 2) (as := [_, _]) (pc' := 981) rfl rfl rfl rfl (by decide) (s_M_latin (Q := fun v g' => zk_I g' ∧ zk_fr fr_M_latin g1 g') (Nat.le_refl _) (k_M_latin I1 (zw_r _ _) (zw_r _ _) (fun v g' I' F' h0 h1 h2 h3 => ⟨I', F'⟩))) (zi_kb (fun v2 g2 b2 h2 => ?_))
  obtain ⟨I2, F2⟩ := h2
  have c2_0_2 : g2 0 2 = g1 0 2 := F2 0 2 (by first | (simp [fr_M_latin]; done) | (unfold fr_M_latin; omega))
  have c2_0_8 : g2 0 8 = g1 0 8 := F2 0 8 (by first | (simp [fr_M_latin]; done) | (unfold fr_M_latin; omega))
  have c2_2_8 : g2 2 8 = g1 2 8 := F2 2 8 (by first | (simp [fr_M_latin]; done) | (unfold fr_M_latin; omega))
  have c2_2_11 : g2 2 11 = g1 2 11 := F2 2 11 (by first | (simp [fr_M_latin]; done) | (unfold fr_M_latin; omega))
  have c2_47_8 : g2 47 8 = g1 47 8 := F2 47 8 (by first | (simp [fr_M_latin]; done) | (unfold fr_M_latin; omega))
  have c2_47_11 : g2 47 11 = g1 47 11 := F2 47 11 (by first | (simp [fr_M_latin]; done) | (unfold fr_M_latin; omega))
  have c2_191_5 : g2 191 5 = g1 191 5 := F2 191 5 (by first | (simp [fr_M_latin]; done) | (unfold fr_M_latin; omega))
  have c2_191_6 : g2 191 6 = g1 191 6 := F2 191 6 (by first | (simp [fr_M_latin]; done) | (unfold fr_M_latin; omega))
  have c2_214_6 : g2 214 6 = g1 214 6 := F2 214 6 (by first | (simp [fr_M_latin]; done) | (unfold fr_M_latin; omega))
  have c2_214_7 : g2 214 7 = g1 214 7 := F2 214 7 (by first | (simp [fr_M_latin]; done) | (unfold fr_M_latin; omega))
  have c2_214_13 : g2 214 13 = g1 214 13 := F2 214 13 (by first | (simp [fr_M_latin]; done) | (unfold fr_M_latin; omega))
  have c2_214_33 : g2 214 33 = g1 214 33 := F2 214 33 (by first | (simp [fr_M_latin]; done) | (unfold fr_M_latin; omega))
  have c2_214_34 : g2 214 34 = g1 214 34 := F2 214 34 (by first | (simp [fr_M_latin]; done) | (unfold fr_M_latin; omega))
  have c2_214_62 : g2 214 62 = g1 214 62 := F2 214 62 (by first | (simp [fr_M_latin]; done) | (unfold fr_M_latin; omega))
  have c2_250_264 : g2 250 264 = g1 250 264 := F2 250 264 (by first | (simp [fr_M_latin]; done) | (unfold fr_M_latin; omega))
  have c2_250_265 : g2 250 265 = g1 250 265 := F2 250 265 (by first | (simp [fr_M_latin]; done) | (unfold fr_M_latin; omega))
  have Z2 : zP g2 := zP_eq (fun a i hc => F2 a i (zpf_M_latin hc)) Z1
  refine zi_pop (pc' := 982) rfl rfl rfl ?_
  refine zi_goto (x := 1356) rfl ?_
  exact k _ ⟨I2, (by rw [c2_191_5, c1_191_5, c2_214_33, c1_214_33]; exact R0), (by rw [c2_191_6, c1_191_6, c2_214_34, c1_214_34]; exact R1), (by rw [c2_0_2, c1_0_2, c2_214_62, c1_214_62]; exact R2), (by rw [c2_0_8, c1_0_8, c2_214_13, c1_214_13]; exact R3), (funext fun k => by rw [F2 190 k (by first | (simp [fr_M_latin]; done) | (unfold fr_M_latin; omega)), F1 190 k (by first | (simp [fr_S_latin]; done) | (unfold fr_S_latin; omega)), F2 222 k (by first | (simp [fr_M_latin]; done) | (unfold fr_M_latin; omega)), F1 222 k (by first | (simp [fr_S_latin]; done) | (unfold fr_S_latin; omega))]; exact congrFun R4 k), (by rw [c2_2_8, c1_2_8, c2_214_6, c1_214_6]; exact R5), (fun q => by rw [c2_47_8, c1_47_8, c2_250_264, c1_250_264]; exact R6 (by rw [c2_0_2, c1_0_2] at q; exact q)), (by rw [c2_2_11, c1_2_11, c2_214_7, c1_214_7]; exact R7), (fun q => by rw [c2_47_11, c1_47_11, c2_250_265, c1_250_265]; exact R8 (by rw [c2_0_2, c1_0_2] at q; exact q)), Z2⟩
theorem zpf_M_again {a : Nat} {i : Int} (hc : zPc a i) : ¬ fr_M_again a i := fun w => by
  have ha := zPc_le hc
  unfold fr_M_again at w
  clear hc
  omega
set_option maxRecDepth 100000 in
set_option maxHeartbeats 4000000 in
theorem zw_c25 {E : sx_E} {i : Int} {g : zi_M} (hL : sx_Ln E ≤ 3072) (h0 : 0 ≤ i) (h6 : i + 6 ≤ ((sx_Ln E : Nat) : Int)) (R : zw_R g) (k : ∀ g' : zi_M, zw_R g' → zi_W E 420 326 1356 [some (.ref 1000000000), some (.ref 0), some (.ref 214), some (zi_i i)] [] g' zw_Q) : zi_W E 420 326 985 [some (.ref 1000000000), some (.ref 0), some (.ref 214), some (zi_i i)] [] g zw_Q := by
  obtain ⟨I, R0, R1, R2, R3, R4, R5, R6, R7, R8, R9⟩ := R
  refine zi_aload_n (pc' := 986) rfl rfl rfl ?_
  refine zi_aload_n (pc' := 987) rfl rfl rfl ?_
  refine zi_iload_n (pc' := 988) rfl rfl rfl ?_
  refine zi_iconst (pc' := 989) rfl rfl ?_
  refine zi_iadd (pc' := 990) rfl rfl ?_
  refine zi_xald (pc' := 991) rfl rfl hL ⟨by omega, by omega⟩ ?_
  refine zi_callV (d' := 3) (as := [_]) (pc' := 994) rfl rfl rfl rfl (by decide) (s_S_again (Q := fun v g' => g' = g) (Nat.le_refl _) (k_S_again I (zw_r _ _) (by intros; rfl))) (zi_ki (fun v1 g1 h1 => ?_))
  have E1 : g1 = g := h1
  rw [E1]
  refine zi_pop (pc' := 995) rfl rfl rfl ?_
  refine zi_aload_n (pc' := 996) rfl rfl rfl ?_
  refine zi_aload_n (pc' := 997) rfl rfl rfl ?_
  refine zi_iload_n (pc' := 998) rfl rfl rfl ?_
  refine zi_iconst (pc' := 999) rfl rfl ?_
  refine zi_iadd (pc' := 1000) rfl rfl ?_
  refine zi_xald (pc' := 1001) rfl rfl hL ⟨by omega, by omega⟩ ?_
  refine zi_callV (d' := 3) (as := [_]) (pc' := 1004) rfl rfl rfl rfl (by decide) (s_M_again (Q := fun v g' => zk_I g' ∧ zk_fr fr_M_again g g') (Nat.le_refl _) (k_M_again I (zw_r _ _) (fun v g' I' F' h0 h1 h2 h3 h4 => ⟨I', F'⟩))) (zi_ki (fun v2 g2 h2 => ?_))
  obtain ⟨I2, F2⟩ := h2
  have c2_0_2 : g2 0 2 = g 0 2 := F2 0 2 (by first | (simp [fr_M_again]; done) | (unfold fr_M_again; omega))
  have c2_0_8 : g2 0 8 = g 0 8 := F2 0 8 (by first | (simp [fr_M_again]; done) | (unfold fr_M_again; omega))
  have c2_2_8 : g2 2 8 = g 2 8 := F2 2 8 (by first | (simp [fr_M_again]; done) | (unfold fr_M_again; omega))
  have c2_2_11 : g2 2 11 = g 2 11 := F2 2 11 (by first | (simp [fr_M_again]; done) | (unfold fr_M_again; omega))
  have c2_47_8 : g2 47 8 = g 47 8 := F2 47 8 (by first | (simp [fr_M_again]; done) | (unfold fr_M_again; omega))
  have c2_47_11 : g2 47 11 = g 47 11 := F2 47 11 (by first | (simp [fr_M_again]; done) | (unfold fr_M_again; omega))
  have c2_191_5 : g2 191 5 = g 191 5 := F2 191 5 (by first | (simp [fr_M_again]; done) | (unfold fr_M_again; omega))
  have c2_191_6 : g2 191 6 = g 191 6 := F2 191 6 (by first | (simp [fr_M_again]; done) | (unfold fr_M_again; omega))
  have c2_214_6 : g2 214 6 = g 214 6 := F2 214 6 (by first | (simp [fr_M_again]; done) | (unfold fr_M_again; omega))
  have c2_214_7 : g2 214 7 = g 214 7 := F2 214 7 (by first | (simp [fr_M_again]; done) | (unfold fr_M_again; omega))
  have c2_214_13 : g2 214 13 = g 214 13 := F2 214 13 (by first | (simp [fr_M_again]; done) | (unfold fr_M_again; omega))
  have c2_214_33 : g2 214 33 = g 214 33 := F2 214 33 (by first | (simp [fr_M_again]; done) | (unfold fr_M_again; omega))
  have c2_214_34 : g2 214 34 = g 214 34 := F2 214 34 (by first | (simp [fr_M_again]; done) | (unfold fr_M_again; omega))
  have c2_214_62 : g2 214 62 = g 214 62 := F2 214 62 (by first | (simp [fr_M_again]; done) | (unfold fr_M_again; omega))
  have c2_250_264 : g2 250 264 = g 250 264 := F2 250 264 (by first | (simp [fr_M_again]; done) | (unfold fr_M_again; omega))
  have c2_250_265 : g2 250 265 = g 250 265 := F2 250 265 (by first | (simp [fr_M_again]; done) | (unfold fr_M_again; omega))
  have Z2 : zP g2 := zP_eq (fun a i hc => F2 a i (zpf_M_again hc)) R9
  refine zi_pop (pc' := 1005) rfl rfl rfl ?_
  refine zi_goto (x := 1356) rfl ?_
  exact k _ ⟨I2, (by rw [c2_191_5, c2_214_33]; exact R0), (by rw [c2_191_6, c2_214_34]; exact R1), (by rw [c2_0_2, c2_214_62]; exact R2), (by rw [c2_0_8, c2_214_13]; exact R3), (funext fun k => by rw [F2 190 k (by first | (simp [fr_M_again]; done) | (unfold fr_M_again; omega)), F2 222 k (by first | (simp [fr_M_again]; done) | (unfold fr_M_again; omega))]; exact congrFun R4 k), (by rw [c2_2_8, c2_214_6]; exact R5), (fun q => by rw [c2_47_8, c2_250_264]; exact R6 (by rw [c2_0_2] at q; exact q)), (by rw [c2_2_11, c2_214_7]; exact R7), (fun q => by rw [c2_47_11, c2_250_265]; exact R8 (by rw [c2_0_2] at q; exact q)), Z2⟩
theorem zpf_S_mason {a : Nat} {i : Int} (hc : zPc a i) : ¬ fr_S_mason a i := fun w => by
  unfold fr_S_mason at w
  unfold zPc at hc
  omega
theorem zpf_M_mason {a : Nat} {i : Int} (hc : zPc a i) : ¬ fr_M_mason a i := fun w => by
  have ha := zPc_le hc
  unfold fr_M_mason at w
  clear hc
  omega
set_option maxRecDepth 100000 in
set_option maxHeartbeats 4000000 in
theorem zw_c26 {E : sx_E} {i : Int} {g : zi_M} (hL : sx_Ln E ≤ 3072) (h0 : 0 ≤ i) (h6 : i + 6 ≤ ((sx_Ln E : Nat) : Int)) (R : zw_R g) (k : ∀ g' : zi_M, zw_R g' → zi_W E 420 326 1356 [some (.ref 1000000000), some (.ref 0), some (.ref 214), some (zi_i i)] [] g' zw_Q) : zi_W E 420 326 1008 [some (.ref 1000000000), some (.ref 0), some (.ref 214), some (zi_i i)] [] g zw_Q := by
  obtain ⟨I, R0, R1, R2, R3, R4, R5, R6, R7, R8, R9⟩ := R
  refine zi_aload_n (pc' := 1009) rfl rfl rfl ?_
  refine zi_aload_n (pc' := 1010) rfl rfl rfl ?_
  refine zi_iload_n (pc' := 1011) rfl rfl rfl ?_
  refine zi_iconst (pc' := 1012) rfl rfl ?_
  refine zi_iadd (pc' := 1013) rfl rfl ?_
  refine zi_xald (pc' := 1014) rfl rfl hL ⟨by omega, by omega⟩ ?_
  refine zi_aload_n (pc' := 1015) rfl rfl rfl ?_
  refine zi_iload_n (pc' := 1016) rfl rfl rfl ?_
  refine zi_iconst (pc' := 1017) rfl rfl ?_
  refine zi_iadd (pc' := 1018) rfl rfl ?_
  refine zi_xald (pc' := 1019) rfl rfl hL ⟨by omega, by omega⟩ ?_
  have Jq1 : ∀ q1 : Int, (0 ≤ q1 ∧ q1 ≤ 1) → ((zw_s E (i + 2)) = 0 → q1 = 0) → (¬ (zw_s E (i + 2)) = 0 → q1 = 1) → zi_W E 420 326 1027 [some (.ref 1000000000), some (.ref 0), some (.ref 214), some (zi_i i)] (zi_i q1 :: zi_i (zw_s E (i + 1)) :: .ref 0 :: []) g zw_Q := by
    intro q1 hq1 hq1z hq1o
    refine zi_aload_n (pc' := 1028) rfl rfl rfl ?_
    refine zi_iload_n (pc' := 1029) rfl rfl rfl ?_
    refine zi_iconst (pc' := 1030) rfl rfl ?_
    refine zi_iadd (pc' := 1031) rfl rfl ?_
    refine zi_xald (pc' := 1032) rfl rfl hL ⟨by omega, by omega⟩ ?_
    refine zi_callV (d' := 2) (as := [_, _, _]) (pc' := 1035) rfl rfl rfl rfl (by decide) (s_S_mason (Q := fun v g' => zk_I g' ∧ zk_fr fr_S_mason g g') (Nat.le_refl _) (k_S_mason I (zw_r _ _) hq1 (zw_r _ _) (fun v g' I' F' h0 h1 h2 h3 => ⟨I', F'⟩))) (zi_kb (fun v1 g1 b1 h1 => ?_))
    obtain ⟨I1, F1⟩ := h1
    have c1_0_2 : g1 0 2 = g 0 2 := F1 0 2 (by first | (simp [fr_S_mason]; done) | (unfold fr_S_mason; omega))
    have c1_0_8 : g1 0 8 = g 0 8 := F1 0 8 (by first | (simp [fr_S_mason]; done) | (unfold fr_S_mason; omega))
    have c1_2_8 : g1 2 8 = g 2 8 := F1 2 8 (by first | (simp [fr_S_mason]; done) | (unfold fr_S_mason; omega))
    have c1_2_11 : g1 2 11 = g 2 11 := F1 2 11 (by first | (simp [fr_S_mason]; done) | (unfold fr_S_mason; omega))
    have c1_47_8 : g1 47 8 = g 47 8 := F1 47 8 (by first | (simp [fr_S_mason]; done) | (unfold fr_S_mason; omega))
    have c1_47_11 : g1 47 11 = g 47 11 := F1 47 11 (by first | (simp [fr_S_mason]; done) | (unfold fr_S_mason; omega))
    have c1_191_5 : g1 191 5 = g 191 5 := F1 191 5 (by first | (simp [fr_S_mason]; done) | (unfold fr_S_mason; omega))
    have c1_191_6 : g1 191 6 = g 191 6 := F1 191 6 (by first | (simp [fr_S_mason]; done) | (unfold fr_S_mason; omega))
    have c1_214_6 : g1 214 6 = g 214 6 := F1 214 6 (by first | (simp [fr_S_mason]; done) | (unfold fr_S_mason; omega))
    have c1_214_7 : g1 214 7 = g 214 7 := F1 214 7 (by first | (simp [fr_S_mason]; done) | (unfold fr_S_mason; omega))
    have c1_214_13 : g1 214 13 = g 214 13 := F1 214 13 (by first | (simp [fr_S_mason]; done) | (unfold fr_S_mason; omega))
    have c1_214_33 : g1 214 33 = g 214 33 := F1 214 33 (by first | (simp [fr_S_mason]; done) | (unfold fr_S_mason; omega))
    have c1_214_34 : g1 214 34 = g 214 34 := F1 214 34 (by first | (simp [fr_S_mason]; done) | (unfold fr_S_mason; omega))
    have c1_214_62 : g1 214 62 = g 214 62 := F1 214 62 (by first | (simp [fr_S_mason]; done) | (unfold fr_S_mason; omega))
    have c1_250_264 : g1 250 264 = g 250 264 := F1 250 264 (by first | (simp [fr_S_mason]; done) | (unfold fr_S_mason; omega))
    have c1_250_265 : g1 250 265 = g 250 265 := F1 250 265 (by first | (simp [fr_S_mason]; done) | (unfold fr_S_mason; omega))
    have Z1 : zP g1 := zP_eq (fun a i hc => F1 a i (zpf_S_mason hc)) R9
    refine zi_pop (pc' := 1036) rfl rfl rfl ?_
    refine zi_aload_n (pc' := 1037) rfl rfl rfl ?_
    refine zi_aload_n (pc' := 1038) rfl rfl rfl ?_
    refine zi_iload_n (pc' := 1039) rfl rfl rfl ?_
    refine zi_iconst (pc' := 1040) rfl rfl ?_
    refine zi_iadd (pc' := 1041) rfl rfl ?_
    refine zi_xald (pc' := 1042) rfl rfl hL ⟨by omega, by omega⟩ ?_
    refine zi_aload_n (pc' := 1043) rfl rfl rfl ?_
    refine zi_iload_n (pc' := 1044) rfl rfl rfl ?_
    refine zi_iconst (pc' := 1045) rfl rfl ?_
    refine zi_iadd (pc' := 1046) rfl rfl ?_
    refine zi_xald (pc' := 1047) rfl rfl hL ⟨by omega, by omega⟩ ?_
    have Jq2 : ∀ q2 : Int, (0 ≤ q2 ∧ q2 ≤ 1) → ((zw_s E (i + 2)) = 0 → q2 = 0) → (¬ (zw_s E (i + 2)) = 0 → q2 = 1) → zi_W E 420 326 1055 [some (.ref 1000000000), some (.ref 0), some (.ref 214), some (zi_i i)] (zi_i q2 :: zi_i (zw_s E (i + 1)) :: .ref 214 :: []) g1 zw_Q := by
      intro q2 hq2 hq2z hq2o
      refine zi_aload_n (pc' := 1056) rfl rfl rfl ?_
      refine zi_iload_n (pc' := 1057) rfl rfl rfl ?_
      refine zi_iconst (pc' := 1058) rfl rfl ?_
      refine zi_iadd (pc' := 1059) rfl rfl ?_
      refine zi_xald (pc' := 1060) rfl rfl hL ⟨by omega, by omega⟩ ?_
      refine zi_callV (d' := 3) (as := [_, _, _]) (pc' := 1063) rfl rfl rfl rfl (by decide) (s_M_mason (Q := fun v g' => zk_I g' ∧ zk_fr fr_M_mason g1 g') (Nat.le_refl _) (k_M_mason I1 (zw_r _ _) hq2 (zw_r _ _) (fun v g' I' F' h0 h1 h2 h3 => ⟨I', F'⟩))) (zi_kb (fun v2 g2 b2 h2 => ?_))
      obtain ⟨I2, F2⟩ := h2
      have c2_0_2 : g2 0 2 = g1 0 2 := F2 0 2 (by first | (simp [fr_M_mason]; done) | (unfold fr_M_mason; omega))
      have c2_0_8 : g2 0 8 = g1 0 8 := F2 0 8 (by first | (simp [fr_M_mason]; done) | (unfold fr_M_mason; omega))
      have c2_2_8 : g2 2 8 = g1 2 8 := F2 2 8 (by first | (simp [fr_M_mason]; done) | (unfold fr_M_mason; omega))
      have c2_2_11 : g2 2 11 = g1 2 11 := F2 2 11 (by first | (simp [fr_M_mason]; done) | (unfold fr_M_mason; omega))
      have c2_47_8 : g2 47 8 = g1 47 8 := F2 47 8 (by first | (simp [fr_M_mason]; done) | (unfold fr_M_mason; omega))
      have c2_47_11 : g2 47 11 = g1 47 11 := F2 47 11 (by first | (simp [fr_M_mason]; done) | (unfold fr_M_mason; omega))
      have c2_191_5 : g2 191 5 = g1 191 5 := F2 191 5 (by first | (simp [fr_M_mason]; done) | (unfold fr_M_mason; omega))
      have c2_191_6 : g2 191 6 = g1 191 6 := F2 191 6 (by first | (simp [fr_M_mason]; done) | (unfold fr_M_mason; omega))
      have c2_214_6 : g2 214 6 = g1 214 6 := F2 214 6 (by first | (simp [fr_M_mason]; done) | (unfold fr_M_mason; omega))
      have c2_214_7 : g2 214 7 = g1 214 7 := F2 214 7 (by first | (simp [fr_M_mason]; done) | (unfold fr_M_mason; omega))
      have c2_214_13 : g2 214 13 = g1 214 13 := F2 214 13 (by first | (simp [fr_M_mason]; done) | (unfold fr_M_mason; omega))
      have c2_214_33 : g2 214 33 = g1 214 33 := F2 214 33 (by first | (simp [fr_M_mason]; done) | (unfold fr_M_mason; omega))
      have c2_214_34 : g2 214 34 = g1 214 34 := F2 214 34 (by first | (simp [fr_M_mason]; done) | (unfold fr_M_mason; omega))
      have c2_214_62 : g2 214 62 = g1 214 62 := F2 214 62 (by first | (simp [fr_M_mason]; done) | (unfold fr_M_mason; omega))
      have c2_250_264 : g2 250 264 = g1 250 264 := F2 250 264 (by first | (simp [fr_M_mason]; done) | (unfold fr_M_mason; omega))
      have c2_250_265 : g2 250 265 = g1 250 265 := F2 250 265 (by first | (simp [fr_M_mason]; done) | (unfold fr_M_mason; omega))
      have Z2 : zP g2 := zP_eq (fun a i hc => F2 a i (zpf_M_mason hc)) Z1
      refine zi_pop (pc' := 1064) rfl rfl rfl ?_
      refine zi_goto (x := 1356) rfl ?_
      exact k _ ⟨I2, (by rw [c2_191_5, c1_191_5, c2_214_33, c1_214_33]; exact R0), (by rw [c2_191_6, c1_191_6, c2_214_34, c1_214_34]; exact R1), (by rw [c2_0_2, c1_0_2, c2_214_62, c1_214_62]; exact R2), (by rw [c2_0_8, c1_0_8, c2_214_13, c1_214_13]; exact R3), (funext fun k => by rw [F2 190 k (by first | (simp [fr_M_mason]; done) | (unfold fr_M_mason; omega)), F1 190 k (by first | (simp [fr_S_mason]; done) | (unfold fr_S_mason; omega)), F2 222 k (by first | (simp [fr_M_mason]; done) | (unfold fr_M_mason; omega)), F1 222 k (by first | (simp [fr_S_mason]; done) | (unfold fr_S_mason; omega))]; exact congrFun R4 k), (by rw [c2_2_8, c1_2_8, c2_214_6, c1_214_6]; exact R5), (fun q => by rw [c2_47_8, c1_47_8, c2_250_264, c1_250_264]; exact R6 (by rw [c2_0_2, c1_0_2] at q; exact q)), (by rw [c2_2_11, c1_2_11, c2_214_7, c1_214_7]; exact R7), (fun q => by rw [c2_47_11, c1_47_11, c2_250_265, c1_250_265]; exact R8 (by rw [c2_0_2, c1_0_2] at q; exact q)), Z2⟩
    refine zi_if_eq (x := 1054) (pc' := 1050) rfl rfl (zw_r _ _) (fun c => ?_) (fun c => ?_)
    · refine zi_iconst (pc' := 1055) rfl rfl ?_
      exact Jq2 0 (by decide) (fun _ => rfl) (fun h => absurd c h)
    · refine zi_iconst (pc' := 1051) rfl rfl ?_
      refine zi_goto (x := 1055) rfl ?_
      exact Jq2 1 (by decide) (fun h => absurd h c) (fun _ => rfl)
  refine zi_if_eq (x := 1026) (pc' := 1022) rfl rfl (zw_r _ _) (fun c => ?_) (fun c => ?_)
  · refine zi_iconst (pc' := 1027) rfl rfl ?_
    exact Jq1 0 (by decide) (fun _ => rfl) (fun h => absurd c h)
  · refine zi_iconst (pc' := 1023) rfl rfl ?_
    refine zi_goto (x := 1027) rfl ?_
    exact Jq1 1 (by decide) (fun h => absurd h c) (fun _ => rfl)
theorem zpf_S_keeps {a : Nat} {i : Int} (hc : zPc a i) : ¬ fr_S_keeps a i := fun w => by
  unfold fr_S_keeps at w
  unfold zPc at hc
  omega
theorem zpf_M_keeps {a : Nat} {i : Int} (hc : zPc a i) : ¬ fr_M_keeps a i := fun w => by
  have ha := zPc_le hc
  unfold fr_M_keeps at w
  clear hc
  omega
set_option maxRecDepth 100000 in
set_option maxHeartbeats 4000000 in
theorem zw_c27 {E : sx_E} {i : Int} {g : zi_M} (hL : sx_Ln E ≤ 3072) (h0 : 0 ≤ i) (h6 : i + 6 ≤ ((sx_Ln E : Nat) : Int)) (R : zw_R g) (k : ∀ g' : zi_M, zw_R g' → zi_W E 420 326 1356 [some (.ref 1000000000), some (.ref 0), some (.ref 214), some (zi_i i)] [] g' zw_Q) : zi_W E 420 326 1067 [some (.ref 1000000000), some (.ref 0), some (.ref 214), some (zi_i i)] [] g zw_Q := by
  obtain ⟨I, R0, R1, R2, R3, R4, R5, R6, R7, R8, R9⟩ := R
  refine zi_aload_n (pc' := 1068) rfl rfl rfl ?_
  refine zi_aload_n (pc' := 1069) rfl rfl rfl ?_
  refine zi_iload_n (pc' := 1070) rfl rfl rfl ?_
  refine zi_iconst (pc' := 1071) rfl rfl ?_
  refine zi_iadd (pc' := 1072) rfl rfl ?_
  refine zi_xald (pc' := 1073) rfl rfl hL ⟨by omega, by omega⟩ ?_
  refine zi_callV (d' := 4) (as := [_]) (pc' := 1076) rfl rfl rfl rfl (by decide) (s_S_keeps (Q := fun v g' => zk_I g' ∧ zk_fr fr_S_keeps g g') (Nat.le_refl _) (k_S_keeps I (zw_r _ _) (fun v g' I' F' h0 h1 h2 h3 => ⟨I', F'⟩))) (zi_ki (fun v1 g1 h1 => ?_))
  obtain ⟨I1, F1⟩ := h1
  have c1_0_2 : g1 0 2 = g 0 2 := F1 0 2 (by first | (simp [fr_S_keeps]; done) | (unfold fr_S_keeps; omega))
  have c1_0_8 : g1 0 8 = g 0 8 := F1 0 8 (by first | (simp [fr_S_keeps]; done) | (unfold fr_S_keeps; omega))
  have c1_2_8 : g1 2 8 = g 2 8 := F1 2 8 (by first | (simp [fr_S_keeps]; done) | (unfold fr_S_keeps; omega))
  have c1_2_11 : g1 2 11 = g 2 11 := F1 2 11 (by first | (simp [fr_S_keeps]; done) | (unfold fr_S_keeps; omega))
  have c1_47_8 : g1 47 8 = g 47 8 := F1 47 8 (by first | (simp [fr_S_keeps]; done) | (unfold fr_S_keeps; omega))
  have c1_47_11 : g1 47 11 = g 47 11 := F1 47 11 (by first | (simp [fr_S_keeps]; done) | (unfold fr_S_keeps; omega))
  have c1_191_5 : g1 191 5 = g 191 5 := F1 191 5 (by first | (simp [fr_S_keeps]; done) | (unfold fr_S_keeps; omega))
  have c1_191_6 : g1 191 6 = g 191 6 := F1 191 6 (by first | (simp [fr_S_keeps]; done) | (unfold fr_S_keeps; omega))
  have c1_214_6 : g1 214 6 = g 214 6 := F1 214 6 (by first | (simp [fr_S_keeps]; done) | (unfold fr_S_keeps; omega))
  have c1_214_7 : g1 214 7 = g 214 7 := F1 214 7 (by first | (simp [fr_S_keeps]; done) | (unfold fr_S_keeps; omega))
  have c1_214_13 : g1 214 13 = g 214 13 := F1 214 13 (by first | (simp [fr_S_keeps]; done) | (unfold fr_S_keeps; omega))
  have c1_214_33 : g1 214 33 = g 214 33 := F1 214 33 (by first | (simp [fr_S_keeps]; done) | (unfold fr_S_keeps; omega))
  have c1_214_34 : g1 214 34 = g 214 34 := F1 214 34 (by first | (simp [fr_S_keeps]; done) | (unfold fr_S_keeps; omega))
  have c1_214_62 : g1 214 62 = g 214 62 := F1 214 62 (by first | (simp [fr_S_keeps]; done) | (unfold fr_S_keeps; omega))
  have c1_250_264 : g1 250 264 = g 250 264 := F1 250 264 (by first | (simp [fr_S_keeps]; done) | (unfold fr_S_keeps; omega))
  have c1_250_265 : g1 250 265 = g 250 265 := F1 250 265 (by first | (simp [fr_S_keeps]; done) | (unfold fr_S_keeps; omega))
  have Z1 : zP g1 := zP_eq (fun a i hc => F1 a i (zpf_S_keeps hc)) R9
  refine zi_pop (pc' := 1077) rfl rfl rfl ?_
  refine zi_aload_n (pc' := 1078) rfl rfl rfl ?_
  refine zi_aload_n (pc' := 1079) rfl rfl rfl ?_
  refine zi_iload_n (pc' := 1080) rfl rfl rfl ?_
  refine zi_iconst (pc' := 1081) rfl rfl ?_
  refine zi_iadd (pc' := 1082) rfl rfl ?_
  refine zi_xald (pc' := 1083) rfl rfl hL ⟨by omega, by omega⟩ ?_
  refine zi_callV (d' := 4) (as := [_]) (pc' := 1086) rfl rfl rfl rfl (by decide) (s_M_keeps (Q := fun v g' => zk_I g' ∧ zk_fr fr_M_keeps g1 g') (Nat.le_refl _) (k_M_keeps I1 (zw_r _ _) (fun v g' I' F' h0 h1 h2 h3 => ⟨I', F'⟩))) (zi_ki (fun v2 g2 h2 => ?_))
  obtain ⟨I2, F2⟩ := h2
  have c2_0_2 : g2 0 2 = g1 0 2 := F2 0 2 (by first | (simp [fr_M_keeps]; done) | (unfold fr_M_keeps; omega))
  have c2_0_8 : g2 0 8 = g1 0 8 := F2 0 8 (by first | (simp [fr_M_keeps]; done) | (unfold fr_M_keeps; omega))
  have c2_2_8 : g2 2 8 = g1 2 8 := F2 2 8 (by first | (simp [fr_M_keeps]; done) | (unfold fr_M_keeps; omega))
  have c2_2_11 : g2 2 11 = g1 2 11 := F2 2 11 (by first | (simp [fr_M_keeps]; done) | (unfold fr_M_keeps; omega))
  have c2_47_8 : g2 47 8 = g1 47 8 := F2 47 8 (by first | (simp [fr_M_keeps]; done) | (unfold fr_M_keeps; omega))
  have c2_47_11 : g2 47 11 = g1 47 11 := F2 47 11 (by first | (simp [fr_M_keeps]; done) | (unfold fr_M_keeps; omega))
  have c2_191_5 : g2 191 5 = g1 191 5 := F2 191 5 (by first | (simp [fr_M_keeps]; done) | (unfold fr_M_keeps; omega))
  have c2_191_6 : g2 191 6 = g1 191 6 := F2 191 6 (by first | (simp [fr_M_keeps]; done) | (unfold fr_M_keeps; omega))
  have c2_214_6 : g2 214 6 = g1 214 6 := F2 214 6 (by first | (simp [fr_M_keeps]; done) | (unfold fr_M_keeps; omega))
  have c2_214_7 : g2 214 7 = g1 214 7 := F2 214 7 (by first | (simp [fr_M_keeps]; done) | (unfold fr_M_keeps; omega))
  have c2_214_13 : g2 214 13 = g1 214 13 := F2 214 13 (by first | (simp [fr_M_keeps]; done) | (unfold fr_M_keeps; omega))
  have c2_214_33 : g2 214 33 = g1 214 33 := F2 214 33 (by first | (simp [fr_M_keeps]; done) | (unfold fr_M_keeps; omega))
  have c2_214_34 : g2 214 34 = g1 214 34 := F2 214 34 (by first | (simp [fr_M_keeps]; done) | (unfold fr_M_keeps; omega))
  have c2_214_62 : g2 214 62 = g1 214 62 := F2 214 62 (by first | (simp [fr_M_keeps]; done) | (unfold fr_M_keeps; omega))
  have c2_250_264 : g2 250 264 = g1 250 264 := F2 250 264 (by first | (simp [fr_M_keeps]; done) | (unfold fr_M_keeps; omega))
  have c2_250_265 : g2 250 265 = g1 250 265 := F2 250 265 (by first | (simp [fr_M_keeps]; done) | (unfold fr_M_keeps; omega))
  have Z2 : zP g2 := zP_eq (fun a i hc => F2 a i (zpf_M_keeps hc)) Z1
  refine zi_pop (pc' := 1087) rfl rfl rfl ?_
  refine zi_goto (x := 1356) rfl ?_
  exact k _ ⟨I2, (by rw [c2_191_5, c1_191_5, c2_214_33, c1_214_33]; exact R0), (by rw [c2_191_6, c1_191_6, c2_214_34, c1_214_34]; exact R1), (by rw [c2_0_2, c1_0_2, c2_214_62, c1_214_62]; exact R2), (by rw [c2_0_8, c1_0_8, c2_214_13, c1_214_13]; exact R3), (funext fun k => by rw [F2 190 k (by first | (simp [fr_M_keeps]; done) | (unfold fr_M_keeps; omega)), F1 190 k (by first | (simp [fr_S_keeps]; done) | (unfold fr_S_keeps; omega)), F2 222 k (by first | (simp [fr_M_keeps]; done) | (unfold fr_M_keeps; omega)), F1 222 k (by first | (simp [fr_S_keeps]; done) | (unfold fr_S_keeps; omega))]; exact congrFun R4 k), (by rw [c2_2_8, c1_2_8, c2_214_6, c1_214_6]; exact R5), (fun q => by rw [c2_47_8, c1_47_8, c2_250_264, c1_250_264]; exact R6 (by rw [c2_0_2, c1_0_2] at q; exact q)), (by rw [c2_2_11, c1_2_11, c2_214_7, c1_214_7]; exact R7), (fun q => by rw [c2_47_11, c1_47_11, c2_250_265, c1_250_265]; exact R8 (by rw [c2_0_2, c1_0_2] at q; exact q)), Z2⟩
theorem zpf_M_surmise {a : Nat} {i : Int} (hc : zPc a i) : ¬ fr_M_surmise a i := fun w => by
  have ha := zPc_le hc
  unfold fr_M_surmise at w
  clear hc
  omega
set_option maxRecDepth 100000 in
set_option maxHeartbeats 4000000 in
theorem zw_c28 {E : sx_E} {i : Int} {g : zi_M} (hL : sx_Ln E ≤ 3072) (h0 : 0 ≤ i) (h6 : i + 6 ≤ ((sx_Ln E : Nat) : Int)) (R : zw_R g) (k : ∀ g' : zi_M, zw_R g' → zi_W E 420 326 1356 [some (.ref 1000000000), some (.ref 0), some (.ref 214), some (zi_i i)] [] g' zw_Q) : zi_W E 420 326 1090 [some (.ref 1000000000), some (.ref 0), some (.ref 214), some (zi_i i)] [] g zw_Q := by
  obtain ⟨I, R0, R1, R2, R3, R4, R5, R6, R7, R8, R9⟩ := R
  refine zi_aload_n (pc' := 1091) rfl rfl rfl ?_
  refine zi_aload_n (pc' := 1092) rfl rfl rfl ?_
  refine zi_iload_n (pc' := 1093) rfl rfl rfl ?_
  refine zi_iconst (pc' := 1094) rfl rfl ?_
  refine zi_iadd (pc' := 1095) rfl rfl ?_
  refine zi_xald (pc' := 1096) rfl rfl hL ⟨by omega, by omega⟩ ?_
  refine zi_aload_n (pc' := 1097) rfl rfl rfl ?_
  refine zi_iload_n (pc' := 1098) rfl rfl rfl ?_
  refine zi_iconst (pc' := 1099) rfl rfl ?_
  refine zi_iadd (pc' := 1100) rfl rfl ?_
  refine zi_xald (pc' := 1101) rfl rfl hL ⟨by omega, by omega⟩ ?_
  refine zi_aload_n (pc' := 1102) rfl rfl rfl ?_
  refine zi_iload_n (pc' := 1103) rfl rfl rfl ?_
  refine zi_iconst (pc' := 1104) rfl rfl ?_
  refine zi_iadd (pc' := 1105) rfl rfl ?_
  refine zi_xald (pc' := 1106) rfl rfl hL ⟨by omega, by omega⟩ ?_
  refine zi_callV (d' := 11) (as := [_, _, _]) (pc' := 1109) rfl rfl rfl rfl (by decide) (s_S_surmise (Q := fun v g' => g' = g) (Nat.le_refl _) (k_S_surmise I (zw_r _ _) (zw_r _ _) (zw_r _ _) (by intros; rfl))) (zi_ki (fun v1 g1 h1 => ?_))
  have E1 : g1 = g := h1
  rw [E1]
  refine zi_pop (pc' := 1110) rfl rfl rfl ?_
  refine zi_aload_n (pc' := 1111) rfl rfl rfl ?_
  refine zi_aload_n (pc' := 1112) rfl rfl rfl ?_
  refine zi_iload_n (pc' := 1113) rfl rfl rfl ?_
  refine zi_iconst (pc' := 1114) rfl rfl ?_
  refine zi_iadd (pc' := 1115) rfl rfl ?_
  refine zi_xald (pc' := 1116) rfl rfl hL ⟨by omega, by omega⟩ ?_
  refine zi_aload_n (pc' := 1117) rfl rfl rfl ?_
  refine zi_iload_n (pc' := 1118) rfl rfl rfl ?_
  refine zi_iconst (pc' := 1119) rfl rfl ?_
  refine zi_iadd (pc' := 1120) rfl rfl ?_
  refine zi_xald (pc' := 1121) rfl rfl hL ⟨by omega, by omega⟩ ?_
  refine zi_aload_n (pc' := 1122) rfl rfl rfl ?_
  refine zi_iload_n (pc' := 1123) rfl rfl rfl ?_
  refine zi_iconst (pc' := 1124) rfl rfl ?_
  refine zi_iadd (pc' := 1125) rfl rfl ?_
  refine zi_xald (pc' := 1126) rfl rfl hL ⟨by omega, by omega⟩ ?_
  refine zi_callV (d' := 3) (as := [_, _, _]) (pc' := 1129) rfl rfl rfl rfl (by decide) (s_M_surmise (Q := fun v g' => zk_I g' ∧ zk_fr fr_M_surmise g g') (Nat.le_refl _) (k_M_surmise I (zw_r _ _) (zw_r _ _) (zw_r _ _) (fun v g' I' F' h0 h1 => ⟨I', F'⟩))) (zi_ki (fun v2 g2 h2 => ?_))
  obtain ⟨I2, F2⟩ := h2
  have c2_0_2 : g2 0 2 = g 0 2 := F2 0 2 (by first | (simp [fr_M_surmise]; done) | (unfold fr_M_surmise; omega))
  have c2_0_8 : g2 0 8 = g 0 8 := F2 0 8 (by first | (simp [fr_M_surmise]; done) | (unfold fr_M_surmise; omega))
  have c2_2_8 : g2 2 8 = g 2 8 := F2 2 8 (by first | (simp [fr_M_surmise]; done) | (unfold fr_M_surmise; omega))
  have c2_2_11 : g2 2 11 = g 2 11 := F2 2 11 (by first | (simp [fr_M_surmise]; done) | (unfold fr_M_surmise; omega))
  have c2_47_8 : g2 47 8 = g 47 8 := F2 47 8 (by first | (simp [fr_M_surmise]; done) | (unfold fr_M_surmise; omega))
  have c2_47_11 : g2 47 11 = g 47 11 := F2 47 11 (by first | (simp [fr_M_surmise]; done) | (unfold fr_M_surmise; omega))
  have c2_191_5 : g2 191 5 = g 191 5 := F2 191 5 (by first | (simp [fr_M_surmise]; done) | (unfold fr_M_surmise; omega))
  have c2_191_6 : g2 191 6 = g 191 6 := F2 191 6 (by first | (simp [fr_M_surmise]; done) | (unfold fr_M_surmise; omega))
  have c2_214_6 : g2 214 6 = g 214 6 := F2 214 6 (by first | (simp [fr_M_surmise]; done) | (unfold fr_M_surmise; omega))
  have c2_214_7 : g2 214 7 = g 214 7 := F2 214 7 (by first | (simp [fr_M_surmise]; done) | (unfold fr_M_surmise; omega))
  have c2_214_13 : g2 214 13 = g 214 13 := F2 214 13 (by first | (simp [fr_M_surmise]; done) | (unfold fr_M_surmise; omega))
  have c2_214_33 : g2 214 33 = g 214 33 := F2 214 33 (by first | (simp [fr_M_surmise]; done) | (unfold fr_M_surmise; omega))
  have c2_214_34 : g2 214 34 = g 214 34 := F2 214 34 (by first | (simp [fr_M_surmise]; done) | (unfold fr_M_surmise; omega))
  have c2_214_62 : g2 214 62 = g 214 62 := F2 214 62 (by first | (simp [fr_M_surmise]; done) | (unfold fr_M_surmise; omega))
  have c2_250_264 : g2 250 264 = g 250 264 := F2 250 264 (by first | (simp [fr_M_surmise]; done) | (unfold fr_M_surmise; omega))
  have c2_250_265 : g2 250 265 = g 250 265 := F2 250 265 (by first | (simp [fr_M_surmise]; done) | (unfold fr_M_surmise; omega))
  have Z2 : zP g2 := zP_eq (fun a i hc => F2 a i (zpf_M_surmise hc)) R9
  refine zi_pop (pc' := 1130) rfl rfl rfl ?_
  refine zi_goto (x := 1356) rfl ?_
  exact k _ ⟨I2, (by rw [c2_191_5, c2_214_33]; exact R0), (by rw [c2_191_6, c2_214_34]; exact R1), (by rw [c2_0_2, c2_214_62]; exact R2), (by rw [c2_0_8, c2_214_13]; exact R3), (funext fun k => by rw [F2 190 k (by first | (simp [fr_M_surmise]; done) | (unfold fr_M_surmise; omega)), F2 222 k (by first | (simp [fr_M_surmise]; done) | (unfold fr_M_surmise; omega))]; exact congrFun R4 k), (by rw [c2_2_8, c2_214_6]; exact R5), (fun q => by rw [c2_47_8, c2_250_264]; exact R6 (by rw [c2_0_2] at q; exact q)), (by rw [c2_2_11, c2_214_7]; exact R7), (fun q => by rw [c2_47_11, c2_250_265]; exact R8 (by rw [c2_0_2] at q; exact q)), Z2⟩
theorem zpf_S_drought {a : Nat} {i : Int} (hc : zPc a i) : ¬ fr_S_drought a i := fun w => by
  unfold fr_S_drought at w
  unfold zPc at hc
  omega
theorem zpf_M_drought {a : Nat} {i : Int} (hc : zPc a i) : ¬ fr_M_drought a i := fun w => by
  have ha := zPc_le hc
  unfold fr_M_drought at w
  clear hc
  omega
set_option maxRecDepth 100000 in
set_option maxHeartbeats 4000000 in
theorem zw_c29 {E : sx_E} {i : Int} {g : zi_M} (hL : sx_Ln E ≤ 3072) (h0 : 0 ≤ i) (h6 : i + 6 ≤ ((sx_Ln E : Nat) : Int)) (R : zw_R g) (k : ∀ g' : zi_M, zw_R g' → zi_W E 420 326 1356 [some (.ref 1000000000), some (.ref 0), some (.ref 214), some (zi_i i)] [] g' zw_Q) : zi_W E 420 326 1133 [some (.ref 1000000000), some (.ref 0), some (.ref 214), some (zi_i i)] [] g zw_Q := by
  obtain ⟨I, R0, R1, R2, R3, R4, R5, R6, R7, R8, R9⟩ := R
  refine zi_aload_n (pc' := 1134) rfl rfl rfl ?_
  refine zi_aload_n (pc' := 1135) rfl rfl rfl ?_
  refine zi_iload_n (pc' := 1136) rfl rfl rfl ?_
  refine zi_iconst (pc' := 1137) rfl rfl ?_
  refine zi_iadd (pc' := 1138) rfl rfl ?_
  refine zi_xald (pc' := 1139) rfl rfl hL ⟨by omega, by omega⟩ ?_
  refine zi_callV (d' := 1) (as := [_]) (pc' := 1142) rfl rfl rfl rfl (by decide) (s_S_drought (Q := fun v g' => zk_I g' ∧ zk_fr fr_S_drought g g') (Nat.le_refl _) (k_S_drought I (zw_r _ _) (fun v g' I' F' h0 h1 h2 h3 h4 => ⟨I', F'⟩))) (zi_ki (fun v1 g1 h1 => ?_))
  obtain ⟨I1, F1⟩ := h1
  have c1_0_2 : g1 0 2 = g 0 2 := F1 0 2 (by first | (simp [fr_S_drought]; done) | (unfold fr_S_drought; omega))
  have c1_0_8 : g1 0 8 = g 0 8 := F1 0 8 (by first | (simp [fr_S_drought]; done) | (unfold fr_S_drought; omega))
  have c1_2_8 : g1 2 8 = g 2 8 := F1 2 8 (by first | (simp [fr_S_drought]; done) | (unfold fr_S_drought; omega))
  have c1_2_11 : g1 2 11 = g 2 11 := F1 2 11 (by first | (simp [fr_S_drought]; done) | (unfold fr_S_drought; omega))
  have c1_47_8 : g1 47 8 = g 47 8 := F1 47 8 (by first | (simp [fr_S_drought]; done) | (unfold fr_S_drought; omega))
  have c1_47_11 : g1 47 11 = g 47 11 := F1 47 11 (by first | (simp [fr_S_drought]; done) | (unfold fr_S_drought; omega))
  have c1_191_5 : g1 191 5 = g 191 5 := F1 191 5 (by first | (simp [fr_S_drought]; done) | (unfold fr_S_drought; omega))
  have c1_191_6 : g1 191 6 = g 191 6 := F1 191 6 (by first | (simp [fr_S_drought]; done) | (unfold fr_S_drought; omega))
  have c1_214_6 : g1 214 6 = g 214 6 := F1 214 6 (by first | (simp [fr_S_drought]; done) | (unfold fr_S_drought; omega))
  have c1_214_7 : g1 214 7 = g 214 7 := F1 214 7 (by first | (simp [fr_S_drought]; done) | (unfold fr_S_drought; omega))
  have c1_214_13 : g1 214 13 = g 214 13 := F1 214 13 (by first | (simp [fr_S_drought]; done) | (unfold fr_S_drought; omega))
  have c1_214_33 : g1 214 33 = g 214 33 := F1 214 33 (by first | (simp [fr_S_drought]; done) | (unfold fr_S_drought; omega))
  have c1_214_34 : g1 214 34 = g 214 34 := F1 214 34 (by first | (simp [fr_S_drought]; done) | (unfold fr_S_drought; omega))
  have c1_214_62 : g1 214 62 = g 214 62 := F1 214 62 (by first | (simp [fr_S_drought]; done) | (unfold fr_S_drought; omega))
  have c1_250_264 : g1 250 264 = g 250 264 := F1 250 264 (by first | (simp [fr_S_drought]; done) | (unfold fr_S_drought; omega))
  have c1_250_265 : g1 250 265 = g 250 265 := F1 250 265 (by first | (simp [fr_S_drought]; done) | (unfold fr_S_drought; omega))
  have Z1 : zP g1 := zP_eq (fun a i hc => F1 a i (zpf_S_drought hc)) R9
  refine zi_pop (pc' := 1143) rfl rfl rfl ?_
  refine zi_aload_n (pc' := 1144) rfl rfl rfl ?_
  refine zi_aload_n (pc' := 1145) rfl rfl rfl ?_
  refine zi_iload_n (pc' := 1146) rfl rfl rfl ?_
  refine zi_iconst (pc' := 1147) rfl rfl ?_
  refine zi_iadd (pc' := 1148) rfl rfl ?_
  refine zi_xald (pc' := 1149) rfl rfl hL ⟨by omega, by omega⟩ ?_
  refine zi_callV (d' := 2) (as := [_]) (pc' := 1152) rfl rfl rfl rfl (by decide) (s_M_drought (Q := fun v g' => zk_I g' ∧ zk_fr fr_M_drought g1 g') (Nat.le_refl _) (k_M_drought I1 (zw_r _ _) (fun v g' I' F' h0 h1 h2 h3 h4 => ⟨I', F'⟩))) (zi_ki (fun v2 g2 h2 => ?_))
  obtain ⟨I2, F2⟩ := h2
  have c2_0_2 : g2 0 2 = g1 0 2 := F2 0 2 (by first | (simp [fr_M_drought]; done) | (unfold fr_M_drought; omega))
  have c2_0_8 : g2 0 8 = g1 0 8 := F2 0 8 (by first | (simp [fr_M_drought]; done) | (unfold fr_M_drought; omega))
  have c2_2_8 : g2 2 8 = g1 2 8 := F2 2 8 (by first | (simp [fr_M_drought]; done) | (unfold fr_M_drought; omega))
  have c2_2_11 : g2 2 11 = g1 2 11 := F2 2 11 (by first | (simp [fr_M_drought]; done) | (unfold fr_M_drought; omega))
  have c2_47_8 : g2 47 8 = g1 47 8 := F2 47 8 (by first | (simp [fr_M_drought]; done) | (unfold fr_M_drought; omega))
  have c2_47_11 : g2 47 11 = g1 47 11 := F2 47 11 (by first | (simp [fr_M_drought]; done) | (unfold fr_M_drought; omega))
  have c2_191_5 : g2 191 5 = g1 191 5 := F2 191 5 (by first | (simp [fr_M_drought]; done) | (unfold fr_M_drought; omega))
  have c2_191_6 : g2 191 6 = g1 191 6 := F2 191 6 (by first | (simp [fr_M_drought]; done) | (unfold fr_M_drought; omega))
  have c2_214_6 : g2 214 6 = g1 214 6 := F2 214 6 (by first | (simp [fr_M_drought]; done) | (unfold fr_M_drought; omega))
  have c2_214_7 : g2 214 7 = g1 214 7 := F2 214 7 (by first | (simp [fr_M_drought]; done) | (unfold fr_M_drought; omega))
  have c2_214_13 : g2 214 13 = g1 214 13 := F2 214 13 (by first | (simp [fr_M_drought]; done) | (unfold fr_M_drought; omega))
  have c2_214_33 : g2 214 33 = g1 214 33 := F2 214 33 (by first | (simp [fr_M_drought]; done) | (unfold fr_M_drought; omega))
  have c2_214_34 : g2 214 34 = g1 214 34 := F2 214 34 (by first | (simp [fr_M_drought]; done) | (unfold fr_M_drought; omega))
  have c2_214_62 : g2 214 62 = g1 214 62 := F2 214 62 (by first | (simp [fr_M_drought]; done) | (unfold fr_M_drought; omega))
  have c2_250_264 : g2 250 264 = g1 250 264 := F2 250 264 (by first | (simp [fr_M_drought]; done) | (unfold fr_M_drought; omega))
  have c2_250_265 : g2 250 265 = g1 250 265 := F2 250 265 (by first | (simp [fr_M_drought]; done) | (unfold fr_M_drought; omega))
  have Z2 : zP g2 := zP_eq (fun a i hc => F2 a i (zpf_M_drought hc)) Z1
  refine zi_pop (pc' := 1153) rfl rfl rfl ?_
  refine zi_goto (x := 1356) rfl ?_
  exact k _ ⟨I2, (by rw [c2_191_5, c1_191_5, c2_214_33, c1_214_33]; exact R0), (by rw [c2_191_6, c1_191_6, c2_214_34, c1_214_34]; exact R1), (by rw [c2_0_2, c1_0_2, c2_214_62, c1_214_62]; exact R2), (by rw [c2_0_8, c1_0_8, c2_214_13, c1_214_13]; exact R3), (funext fun k => by rw [F2 190 k (by first | (simp [fr_M_drought]; done) | (unfold fr_M_drought; omega)), F1 190 k (by first | (simp [fr_S_drought]; done) | (unfold fr_S_drought; omega)), F2 222 k (by first | (simp [fr_M_drought]; done) | (unfold fr_M_drought; omega)), F1 222 k (by first | (simp [fr_S_drought]; done) | (unfold fr_S_drought; omega))]; exact congrFun R4 k), (by rw [c2_2_8, c1_2_8, c2_214_6, c1_214_6]; exact R5), (fun q => by rw [c2_47_8, c1_47_8, c2_250_264, c1_250_264]; exact R6 (by rw [c2_0_2, c1_0_2] at q; exact q)), (by rw [c2_2_11, c1_2_11, c2_214_7, c1_214_7]; exact R7), (fun q => by rw [c2_47_11, c1_47_11, c2_250_265, c1_250_265]; exact R8 (by rw [c2_0_2, c1_0_2] at q; exact q)), Z2⟩
theorem zpf_M_longest {a : Nat} {i : Int} (hc : zPc a i) : ¬ fr_M_longest a i := fun w => by
  have ha := zPc_le hc
  unfold fr_M_longest at w
  clear hc
  omega
set_option maxRecDepth 100000 in
set_option maxHeartbeats 4000000 in
theorem zw_c30 {E : sx_E} {i : Int} {g : zi_M} (hL : sx_Ln E ≤ 3072) (h0 : 0 ≤ i) (h6 : i + 6 ≤ ((sx_Ln E : Nat) : Int)) (R : zw_R g) (k : ∀ g' : zi_M, zw_R g' → zi_W E 420 326 1356 [some (.ref 1000000000), some (.ref 0), some (.ref 214), some (zi_i i)] [] g' zw_Q) : zi_W E 420 326 1156 [some (.ref 1000000000), some (.ref 0), some (.ref 214), some (zi_i i)] [] g zw_Q := by
  obtain ⟨I, R0, R1, R2, R3, R4, R5, R6, R7, R8, R9⟩ := R
  refine zi_aload_n (pc' := 1157) rfl rfl rfl ?_
  refine zi_aload_n (pc' := 1158) rfl rfl rfl ?_
  refine zi_iload_n (pc' := 1159) rfl rfl rfl ?_
  refine zi_iconst (pc' := 1160) rfl rfl ?_
  refine zi_iadd (pc' := 1161) rfl rfl ?_
  refine zi_xald (pc' := 1162) rfl rfl hL ⟨by omega, by omega⟩ ?_
  refine zi_callV (d' := 3) (as := [_]) (pc' := 1165) rfl rfl rfl rfl (by decide) (s_S_longest (Q := fun v g' => g' = g) (Nat.le_refl _) (k_S_longest I (zw_r _ _) (by intros; rfl))) (zi_ki (fun v1 g1 h1 => ?_))
  have E1 : g1 = g := h1
  rw [E1]
  refine zi_pop (pc' := 1166) rfl rfl rfl ?_
  refine zi_aload_n (pc' := 1167) rfl rfl rfl ?_
  refine zi_aload_n (pc' := 1168) rfl rfl rfl ?_
  refine zi_iload_n (pc' := 1169) rfl rfl rfl ?_
  refine zi_iconst (pc' := 1170) rfl rfl ?_
  refine zi_iadd (pc' := 1171) rfl rfl ?_
  refine zi_xald (pc' := 1172) rfl rfl hL ⟨by omega, by omega⟩ ?_
  refine zi_callV (d' := 2) (as := [_]) (pc' := 1175) rfl rfl rfl rfl (by decide) (s_M_longest (Q := fun v g' => zk_I g' ∧ zk_fr fr_M_longest g g') (Nat.le_refl _) (k_M_longest I (zw_r _ _) (fun v g' I' F' h0 h1 h2 h3 => ⟨I', F'⟩))) (zi_ki (fun v2 g2 h2 => ?_))
  obtain ⟨I2, F2⟩ := h2
  have c2_0_2 : g2 0 2 = g 0 2 := F2 0 2 (by first | (simp [fr_M_longest]; done) | (unfold fr_M_longest; omega))
  have c2_0_8 : g2 0 8 = g 0 8 := F2 0 8 (by first | (simp [fr_M_longest]; done) | (unfold fr_M_longest; omega))
  have c2_2_8 : g2 2 8 = g 2 8 := F2 2 8 (by first | (simp [fr_M_longest]; done) | (unfold fr_M_longest; omega))
  have c2_2_11 : g2 2 11 = g 2 11 := F2 2 11 (by first | (simp [fr_M_longest]; done) | (unfold fr_M_longest; omega))
  have c2_47_8 : g2 47 8 = g 47 8 := F2 47 8 (by first | (simp [fr_M_longest]; done) | (unfold fr_M_longest; omega))
  have c2_47_11 : g2 47 11 = g 47 11 := F2 47 11 (by first | (simp [fr_M_longest]; done) | (unfold fr_M_longest; omega))
  have c2_191_5 : g2 191 5 = g 191 5 := F2 191 5 (by first | (simp [fr_M_longest]; done) | (unfold fr_M_longest; omega))
  have c2_191_6 : g2 191 6 = g 191 6 := F2 191 6 (by first | (simp [fr_M_longest]; done) | (unfold fr_M_longest; omega))
  have c2_214_6 : g2 214 6 = g 214 6 := F2 214 6 (by first | (simp [fr_M_longest]; done) | (unfold fr_M_longest; omega))
  have c2_214_7 : g2 214 7 = g 214 7 := F2 214 7 (by first | (simp [fr_M_longest]; done) | (unfold fr_M_longest; omega))
  have c2_214_13 : g2 214 13 = g 214 13 := F2 214 13 (by first | (simp [fr_M_longest]; done) | (unfold fr_M_longest; omega))
  have c2_214_33 : g2 214 33 = g 214 33 := F2 214 33 (by first | (simp [fr_M_longest]; done) | (unfold fr_M_longest; omega))
  have c2_214_34 : g2 214 34 = g 214 34 := F2 214 34 (by first | (simp [fr_M_longest]; done) | (unfold fr_M_longest; omega))
  have c2_214_62 : g2 214 62 = g 214 62 := F2 214 62 (by first | (simp [fr_M_longest]; done) | (unfold fr_M_longest; omega))
  have c2_250_264 : g2 250 264 = g 250 264 := F2 250 264 (by first | (simp [fr_M_longest]; done) | (unfold fr_M_longest; omega))
  have c2_250_265 : g2 250 265 = g 250 265 := F2 250 265 (by first | (simp [fr_M_longest]; done) | (unfold fr_M_longest; omega))
  have Z2 : zP g2 := zP_eq (fun a i hc => F2 a i (zpf_M_longest hc)) R9
  refine zi_pop (pc' := 1176) rfl rfl rfl ?_
  refine zi_goto (x := 1356) rfl ?_
  exact k _ ⟨I2, (by rw [c2_191_5, c2_214_33]; exact R0), (by rw [c2_191_6, c2_214_34]; exact R1), (by rw [c2_0_2, c2_214_62]; exact R2), (by rw [c2_0_8, c2_214_13]; exact R3), (funext fun k => by rw [F2 190 k (by first | (simp [fr_M_longest]; done) | (unfold fr_M_longest; omega)), F2 222 k (by first | (simp [fr_M_longest]; done) | (unfold fr_M_longest; omega))]; exact congrFun R4 k), (by rw [c2_2_8, c2_214_6]; exact R5), (fun q => by rw [c2_47_8, c2_250_264]; exact R6 (by rw [c2_0_2] at q; exact q)), (by rw [c2_2_11, c2_214_7]; exact R7), (fun q => by rw [c2_47_11, c2_250_265]; exact R8 (by rw [c2_0_2] at q; exact q)), Z2⟩
theorem zpf_M_leans {a : Nat} {i : Int} (hc : zPc a i) : ¬ fr_M_leans a i := fun w => by
  have ha := zPc_le hc
  unfold fr_M_leans at w
  clear hc
  omega
set_option maxRecDepth 100000 in
set_option maxHeartbeats 4000000 in
theorem zw_c31 {E : sx_E} {i : Int} {g : zi_M} (hL : sx_Ln E ≤ 3072) (h0 : 0 ≤ i) (h6 : i + 6 ≤ ((sx_Ln E : Nat) : Int)) (R : zw_R g) (k : ∀ g' : zi_M, zw_R g' → zi_W E 420 326 1356 [some (.ref 1000000000), some (.ref 0), some (.ref 214), some (zi_i i)] [] g' zw_Q) : zi_W E 420 326 1179 [some (.ref 1000000000), some (.ref 0), some (.ref 214), some (zi_i i)] [] g zw_Q := by
  obtain ⟨I, R0, R1, R2, R3, R4, R5, R6, R7, R8, R9⟩ := R
  refine zi_aload_n (pc' := 1180) rfl rfl rfl ?_
  refine zi_aload_n (pc' := 1181) rfl rfl rfl ?_
  refine zi_iload_n (pc' := 1182) rfl rfl rfl ?_
  refine zi_iconst (pc' := 1183) rfl rfl ?_
  refine zi_iadd (pc' := 1184) rfl rfl ?_
  refine zi_xald (pc' := 1185) rfl rfl hL ⟨by omega, by omega⟩ ?_
  refine zi_callV (d' := 2) (as := [_]) (pc' := 1188) rfl rfl rfl rfl (by decide) (s_S_leans (Q := fun v g' => g' = g) (Nat.le_refl _) (k_S_leans I (zw_r _ _) (by intros; rfl))) (zi_ki (fun v1 g1 h1 => ?_))
  have E1 : g1 = g := h1
  rw [E1]
  refine zi_pop (pc' := 1189) rfl rfl rfl ?_
  refine zi_aload_n (pc' := 1190) rfl rfl rfl ?_
  refine zi_aload_n (pc' := 1191) rfl rfl rfl ?_
  refine zi_iload_n (pc' := 1192) rfl rfl rfl ?_
  refine zi_iconst (pc' := 1193) rfl rfl ?_
  refine zi_iadd (pc' := 1194) rfl rfl ?_
  refine zi_xald (pc' := 1195) rfl rfl hL ⟨by omega, by omega⟩ ?_
  refine zi_callV (d' := 2) (as := [_]) (pc' := 1198) rfl rfl rfl rfl (by decide) (s_M_leans (Q := fun v g' => zk_I g' ∧ zk_fr fr_M_leans g g') (Nat.le_refl _) (k_M_leans I (zw_r _ _) (fun v g' I' F' h0 h1 h2 => ⟨I', F'⟩))) (zi_ki (fun v2 g2 h2 => ?_))
  obtain ⟨I2, F2⟩ := h2
  have c2_0_2 : g2 0 2 = g 0 2 := F2 0 2 (by first | (simp [fr_M_leans]; done) | (unfold fr_M_leans; omega))
  have c2_0_8 : g2 0 8 = g 0 8 := F2 0 8 (by first | (simp [fr_M_leans]; done) | (unfold fr_M_leans; omega))
  have c2_2_8 : g2 2 8 = g 2 8 := F2 2 8 (by first | (simp [fr_M_leans]; done) | (unfold fr_M_leans; omega))
  have c2_2_11 : g2 2 11 = g 2 11 := F2 2 11 (by first | (simp [fr_M_leans]; done) | (unfold fr_M_leans; omega))
  have c2_47_8 : g2 47 8 = g 47 8 := F2 47 8 (by first | (simp [fr_M_leans]; done) | (unfold fr_M_leans; omega))
  have c2_47_11 : g2 47 11 = g 47 11 := F2 47 11 (by first | (simp [fr_M_leans]; done) | (unfold fr_M_leans; omega))
  have c2_191_5 : g2 191 5 = g 191 5 := F2 191 5 (by first | (simp [fr_M_leans]; done) | (unfold fr_M_leans; omega))
  have c2_191_6 : g2 191 6 = g 191 6 := F2 191 6 (by first | (simp [fr_M_leans]; done) | (unfold fr_M_leans; omega))
  have c2_214_6 : g2 214 6 = g 214 6 := F2 214 6 (by first | (simp [fr_M_leans]; done) | (unfold fr_M_leans; omega))
  have c2_214_7 : g2 214 7 = g 214 7 := F2 214 7 (by first | (simp [fr_M_leans]; done) | (unfold fr_M_leans; omega))
  have c2_214_13 : g2 214 13 = g 214 13 := F2 214 13 (by first | (simp [fr_M_leans]; done) | (unfold fr_M_leans; omega))
  have c2_214_33 : g2 214 33 = g 214 33 := F2 214 33 (by first | (simp [fr_M_leans]; done) | (unfold fr_M_leans; omega))
  have c2_214_34 : g2 214 34 = g 214 34 := F2 214 34 (by first | (simp [fr_M_leans]; done) | (unfold fr_M_leans; omega))
  have c2_214_62 : g2 214 62 = g 214 62 := F2 214 62 (by first | (simp [fr_M_leans]; done) | (unfold fr_M_leans; omega))
  have c2_250_264 : g2 250 264 = g 250 264 := F2 250 264 (by first | (simp [fr_M_leans]; done) | (unfold fr_M_leans; omega))
  have c2_250_265 : g2 250 265 = g 250 265 := F2 250 265 (by first | (simp [fr_M_leans]; done) | (unfold fr_M_leans; omega))
  have Z2 : zP g2 := zP_eq (fun a i hc => F2 a i (zpf_M_leans hc)) R9
  refine zi_pop (pc' := 1199) rfl rfl rfl ?_
  refine zi_goto (x := 1356) rfl ?_
  exact k _ ⟨I2, (by rw [c2_191_5, c2_214_33]; exact R0), (by rw [c2_191_6, c2_214_34]; exact R1), (by rw [c2_0_2, c2_214_62]; exact R2), (by rw [c2_0_8, c2_214_13]; exact R3), (funext fun k => by rw [F2 190 k (by first | (simp [fr_M_leans]; done) | (unfold fr_M_leans; omega)), F2 222 k (by first | (simp [fr_M_leans]; done) | (unfold fr_M_leans; omega))]; exact congrFun R4 k), (by rw [c2_2_8, c2_214_6]; exact R5), (fun q => by rw [c2_47_8, c2_250_264]; exact R6 (by rw [c2_0_2] at q; exact q)), (by rw [c2_2_11, c2_214_7]; exact R7), (fun q => by rw [c2_47_11, c2_250_265]; exact R8 (by rw [c2_0_2] at q; exact q)), Z2⟩
theorem zpf_S_chapter {a : Nat} {i : Int} (hc : zPc a i) : ¬ fr_S_chapter a i := fun w => by
  unfold fr_S_chapter at w
  unfold zPc at hc
  omega
theorem zpf_M_chapter {a : Nat} {i : Int} (hc : zPc a i) : ¬ fr_M_chapter a i := fun w => by
  have ha := zPc_le hc
  unfold fr_M_chapter at w
  clear hc
  omega
set_option maxRecDepth 100000 in
set_option maxHeartbeats 4000000 in
theorem zw_c32 {E : sx_E} {i : Int} {g : zi_M} (hL : sx_Ln E ≤ 3072) (h0 : 0 ≤ i) (h6 : i + 6 ≤ ((sx_Ln E : Nat) : Int)) (R : zw_R g) (k : ∀ g' : zi_M, zw_R g' → zi_W E 420 326 1356 [some (.ref 1000000000), some (.ref 0), some (.ref 214), some (zi_i i)] [] g' zw_Q) : zi_W E 420 326 1202 [some (.ref 1000000000), some (.ref 0), some (.ref 214), some (zi_i i)] [] g zw_Q := by
  obtain ⟨I, R0, R1, R2, R3, R4, R5, R6, R7, R8, R9⟩ := R
  refine zi_aload_n (pc' := 1203) rfl rfl rfl ?_
  refine zi_aload_n (pc' := 1204) rfl rfl rfl ?_
  refine zi_iload_n (pc' := 1205) rfl rfl rfl ?_
  refine zi_iconst (pc' := 1206) rfl rfl ?_
  refine zi_iadd (pc' := 1207) rfl rfl ?_
  refine zi_xald (pc' := 1208) rfl rfl hL ⟨by omega, by omega⟩ ?_
  refine zi_callV (d' := 1) (as := [_]) (pc' := 1211) rfl rfl rfl rfl (by decide) (s_S_chapter (Q := fun v g' => zk_I g' ∧ zk_fr fr_S_chapter g g') (Nat.le_refl _) (k_S_chapter I (zw_r _ _) (fun v g' I' F' h0 h1 h2 h3 h4 => ⟨I', F'⟩))) (zi_ki (fun v1 g1 h1 => ?_))
  obtain ⟨I1, F1⟩ := h1
  have c1_0_2 : g1 0 2 = g 0 2 := F1 0 2 (by first | (simp [fr_S_chapter]; done) | (unfold fr_S_chapter; omega))
  have c1_0_8 : g1 0 8 = g 0 8 := F1 0 8 (by first | (simp [fr_S_chapter]; done) | (unfold fr_S_chapter; omega))
  have c1_2_8 : g1 2 8 = g 2 8 := F1 2 8 (by first | (simp [fr_S_chapter]; done) | (unfold fr_S_chapter; omega))
  have c1_2_11 : g1 2 11 = g 2 11 := F1 2 11 (by first | (simp [fr_S_chapter]; done) | (unfold fr_S_chapter; omega))
  have c1_47_8 : g1 47 8 = g 47 8 := F1 47 8 (by first | (simp [fr_S_chapter]; done) | (unfold fr_S_chapter; omega))
  have c1_47_11 : g1 47 11 = g 47 11 := F1 47 11 (by first | (simp [fr_S_chapter]; done) | (unfold fr_S_chapter; omega))
  have c1_191_5 : g1 191 5 = g 191 5 := F1 191 5 (by first | (simp [fr_S_chapter]; done) | (unfold fr_S_chapter; omega))
  have c1_191_6 : g1 191 6 = g 191 6 := F1 191 6 (by first | (simp [fr_S_chapter]; done) | (unfold fr_S_chapter; omega))
  have c1_214_6 : g1 214 6 = g 214 6 := F1 214 6 (by first | (simp [fr_S_chapter]; done) | (unfold fr_S_chapter; omega))
  have c1_214_7 : g1 214 7 = g 214 7 := F1 214 7 (by first | (simp [fr_S_chapter]; done) | (unfold fr_S_chapter; omega))
  have c1_214_13 : g1 214 13 = g 214 13 := F1 214 13 (by first | (simp [fr_S_chapter]; done) | (unfold fr_S_chapter; omega))
  have c1_214_33 : g1 214 33 = g 214 33 := F1 214 33 (by first | (simp [fr_S_chapter]; done) | (unfold fr_S_chapter; omega))
  have c1_214_34 : g1 214 34 = g 214 34 := F1 214 34 (by first | (simp [fr_S_chapter]; done) | (unfold fr_S_chapter; omega))
  have c1_214_62 : g1 214 62 = g 214 62 := F1 214 62 (by first | (simp [fr_S_chapter]; done) | (unfold fr_S_chapter; omega))
  have c1_250_264 : g1 250 264 = g 250 264 := F1 250 264 (by first | (simp [fr_S_chapter]; done) | (unfold fr_S_chapter; omega))
  have c1_250_265 : g1 250 265 = g 250 265 := F1 250 265 (by first | (simp [fr_S_chapter]; done) | (unfold fr_S_chapter; omega))
  have Z1 : zP g1 := zP_eq (fun a i hc => F1 a i (zpf_S_chapter hc)) R9
  refine zi_pop (pc' := 1212) rfl rfl rfl ?_
  refine zi_aload_n (pc' := 1213) rfl rfl rfl ?_
  refine zi_aload_n (pc' := 1214) rfl rfl rfl ?_
  refine zi_iload_n (pc' := 1215) rfl rfl rfl ?_
  refine zi_iconst (pc' := 1216) rfl rfl ?_
  refine zi_iadd (pc' := 1217) rfl rfl ?_
  refine zi_xald (pc' := 1218) rfl rfl hL ⟨by omega, by omega⟩ ?_
  refine zi_callV (d' := 2) (as := [_]) (pc' := 1221) rfl rfl rfl rfl (by decide) (s_M_chapter (Q := fun v g' => zk_I g' ∧ zk_fr fr_M_chapter g1 g') (Nat.le_refl _) (k_M_chapter I1 (zw_r _ _) (fun v g' I' F' h0 h1 h2 h3 h4 => ⟨I', F'⟩))) (zi_ki (fun v2 g2 h2 => ?_))
  obtain ⟨I2, F2⟩ := h2
  have c2_0_2 : g2 0 2 = g1 0 2 := F2 0 2 (by first | (simp [fr_M_chapter]; done) | (unfold fr_M_chapter; omega))
  have c2_0_8 : g2 0 8 = g1 0 8 := F2 0 8 (by first | (simp [fr_M_chapter]; done) | (unfold fr_M_chapter; omega))
  have c2_2_8 : g2 2 8 = g1 2 8 := F2 2 8 (by first | (simp [fr_M_chapter]; done) | (unfold fr_M_chapter; omega))
  have c2_2_11 : g2 2 11 = g1 2 11 := F2 2 11 (by first | (simp [fr_M_chapter]; done) | (unfold fr_M_chapter; omega))
  have c2_47_8 : g2 47 8 = g1 47 8 := F2 47 8 (by first | (simp [fr_M_chapter]; done) | (unfold fr_M_chapter; omega))
  have c2_47_11 : g2 47 11 = g1 47 11 := F2 47 11 (by first | (simp [fr_M_chapter]; done) | (unfold fr_M_chapter; omega))
  have c2_191_5 : g2 191 5 = g1 191 5 := F2 191 5 (by first | (simp [fr_M_chapter]; done) | (unfold fr_M_chapter; omega))
  have c2_191_6 : g2 191 6 = g1 191 6 := F2 191 6 (by first | (simp [fr_M_chapter]; done) | (unfold fr_M_chapter; omega))
  have c2_214_6 : g2 214 6 = g1 214 6 := F2 214 6 (by first | (simp [fr_M_chapter]; done) | (unfold fr_M_chapter; omega))
  have c2_214_7 : g2 214 7 = g1 214 7 := F2 214 7 (by first | (simp [fr_M_chapter]; done) | (unfold fr_M_chapter; omega))
  have c2_214_13 : g2 214 13 = g1 214 13 := F2 214 13 (by first | (simp [fr_M_chapter]; done) | (unfold fr_M_chapter; omega))
  have c2_214_33 : g2 214 33 = g1 214 33 := F2 214 33 (by first | (simp [fr_M_chapter]; done) | (unfold fr_M_chapter; omega))
  have c2_214_34 : g2 214 34 = g1 214 34 := F2 214 34 (by first | (simp [fr_M_chapter]; done) | (unfold fr_M_chapter; omega))
  have c2_214_62 : g2 214 62 = g1 214 62 := F2 214 62 (by first | (simp [fr_M_chapter]; done) | (unfold fr_M_chapter; omega))
  have c2_250_264 : g2 250 264 = g1 250 264 := F2 250 264 (by first | (simp [fr_M_chapter]; done) | (unfold fr_M_chapter; omega))
  have c2_250_265 : g2 250 265 = g1 250 265 := F2 250 265 (by first | (simp [fr_M_chapter]; done) | (unfold fr_M_chapter; omega))
  have Z2 : zP g2 := zP_eq (fun a i hc => F2 a i (zpf_M_chapter hc)) Z1
  refine zi_pop (pc' := 1222) rfl rfl rfl ?_
  refine zi_goto (x := 1356) rfl ?_
  exact k _ ⟨I2, (by rw [c2_191_5, c1_191_5, c2_214_33, c1_214_33]; exact R0), (by rw [c2_191_6, c1_191_6, c2_214_34, c1_214_34]; exact R1), (by rw [c2_0_2, c1_0_2, c2_214_62, c1_214_62]; exact R2), (by rw [c2_0_8, c1_0_8, c2_214_13, c1_214_13]; exact R3), (funext fun k => by rw [F2 190 k (by first | (simp [fr_M_chapter]; done) | (unfold fr_M_chapter; omega)), F1 190 k (by first | (simp [fr_S_chapter]; done) | (unfold fr_S_chapter; omega)), F2 222 k (by first | (simp [fr_M_chapter]; done) | (unfold fr_M_chapter; omega)), F1 222 k (by first | (simp [fr_S_chapter]; done) | (unfold fr_S_chapter; omega))]; exact congrFun R4 k), (by rw [c2_2_8, c1_2_8, c2_214_6, c1_214_6]; exact R5), (fun q => by rw [c2_47_8, c1_47_8, c2_250_264, c1_250_264]; exact R6 (by rw [c2_0_2, c1_0_2] at q; exact q)), (by rw [c2_2_11, c1_2_11, c2_214_7, c1_214_7]; exact R7), (fun q => by rw [c2_47_11, c1_47_11, c2_250_265, c1_250_265]; exact R8 (by rw [c2_0_2, c1_0_2] at q; exact q)), Z2⟩
theorem zpf_S_read {a : Nat} {i : Int} (hc : zPc a i) : ¬ fr_S_read a i := fun w => by
  unfold fr_S_read at w
  unfold zPc at hc
  omega
theorem zpf_M_read {a : Nat} {i : Int} (hc : zPc a i) : ¬ fr_M_read a i := fun w => by
  have ha := zPc_le hc
  unfold fr_M_read at w
  clear hc
  omega
set_option maxRecDepth 100000 in
set_option maxHeartbeats 4000000 in
theorem zw_c33 {E : sx_E} {i : Int} {g : zi_M} (hL : sx_Ln E ≤ 3072) (h0 : 0 ≤ i) (h6 : i + 6 ≤ ((sx_Ln E : Nat) : Int)) (R : zw_R g) (k : ∀ g' : zi_M, zw_R g' → zi_W E 420 326 1356 [some (.ref 1000000000), some (.ref 0), some (.ref 214), some (zi_i i)] [] g' zw_Q) : zi_W E 420 326 1225 [some (.ref 1000000000), some (.ref 0), some (.ref 214), some (zi_i i)] [] g zw_Q := by
  obtain ⟨I, R0, R1, R2, R3, R4, R5, R6, R7, R8, R9⟩ := R
  refine zi_aload_n (pc' := 1226) rfl rfl rfl ?_
  refine zi_aload_n (pc' := 1227) rfl rfl rfl ?_
  refine zi_iload_n (pc' := 1228) rfl rfl rfl ?_
  refine zi_iconst (pc' := 1229) rfl rfl ?_
  refine zi_iadd (pc' := 1230) rfl rfl ?_
  refine zi_xald (pc' := 1231) rfl rfl hL ⟨by omega, by omega⟩ ?_
  refine zi_aload_n (pc' := 1232) rfl rfl rfl ?_
  refine zi_iload_n (pc' := 1233) rfl rfl rfl ?_
  refine zi_iconst (pc' := 1234) rfl rfl ?_
  refine zi_iadd (pc' := 1235) rfl rfl ?_
  refine zi_xald (pc' := 1236) rfl rfl hL ⟨by omega, by omega⟩ ?_
  refine zi_callV (d' := 4) (as := [_, _]) (pc' := 1239) rfl rfl rfl rfl (by decide) (s_S_read (Q := fun v g' => zk_I g' ∧ zk_fr fr_S_read g g') (Nat.le_refl _) (k_S_read I (zw_r _ _) (zw_r _ _) (fun v g' I' F' h0 h1 h2 h3 h4 => ⟨I', F'⟩))) (zi_ki (fun v1 g1 h1 => ?_))
  obtain ⟨I1, F1⟩ := h1
  have c1_0_2 : g1 0 2 = g 0 2 := F1 0 2 (by first | (simp [fr_S_read]; done) | (unfold fr_S_read; omega))
  have c1_0_8 : g1 0 8 = g 0 8 := F1 0 8 (by first | (simp [fr_S_read]; done) | (unfold fr_S_read; omega))
  have c1_2_8 : g1 2 8 = g 2 8 := F1 2 8 (by first | (simp [fr_S_read]; done) | (unfold fr_S_read; omega))
  have c1_2_11 : g1 2 11 = g 2 11 := F1 2 11 (by first | (simp [fr_S_read]; done) | (unfold fr_S_read; omega))
  have c1_47_8 : g1 47 8 = g 47 8 := F1 47 8 (by first | (simp [fr_S_read]; done) | (unfold fr_S_read; omega))
  have c1_47_11 : g1 47 11 = g 47 11 := F1 47 11 (by first | (simp [fr_S_read]; done) | (unfold fr_S_read; omega))
  have c1_191_5 : g1 191 5 = g 191 5 := F1 191 5 (by first | (simp [fr_S_read]; done) | (unfold fr_S_read; omega))
  have c1_191_6 : g1 191 6 = g 191 6 := F1 191 6 (by first | (simp [fr_S_read]; done) | (unfold fr_S_read; omega))
  have c1_214_6 : g1 214 6 = g 214 6 := F1 214 6 (by first | (simp [fr_S_read]; done) | (unfold fr_S_read; omega))
  have c1_214_7 : g1 214 7 = g 214 7 := F1 214 7 (by first | (simp [fr_S_read]; done) | (unfold fr_S_read; omega))
  have c1_214_13 : g1 214 13 = g 214 13 := F1 214 13 (by first | (simp [fr_S_read]; done) | (unfold fr_S_read; omega))
  have c1_214_33 : g1 214 33 = g 214 33 := F1 214 33 (by first | (simp [fr_S_read]; done) | (unfold fr_S_read; omega))
  have c1_214_34 : g1 214 34 = g 214 34 := F1 214 34 (by first | (simp [fr_S_read]; done) | (unfold fr_S_read; omega))
  have c1_214_62 : g1 214 62 = g 214 62 := F1 214 62 (by first | (simp [fr_S_read]; done) | (unfold fr_S_read; omega))
  have c1_250_264 : g1 250 264 = g 250 264 := F1 250 264 (by first | (simp [fr_S_read]; done) | (unfold fr_S_read; omega))
  have c1_250_265 : g1 250 265 = g 250 265 := F1 250 265 (by first | (simp [fr_S_read]; done) | (unfold fr_S_read; omega))
  have Z1 : zP g1 := zP_eq (fun a i hc => F1 a i (zpf_S_read hc)) R9
  refine zi_pop (pc' := 1240) rfl rfl rfl ?_
  refine zi_aload_n (pc' := 1241) rfl rfl rfl ?_
  refine zi_aload_n (pc' := 1242) rfl rfl rfl ?_
  refine zi_iload_n (pc' := 1243) rfl rfl rfl ?_
  refine zi_iconst (pc' := 1244) rfl rfl ?_
  refine zi_iadd (pc' := 1245) rfl rfl ?_
  refine zi_xald (pc' := 1246) rfl rfl hL ⟨by omega, by omega⟩ ?_
  refine zi_aload_n (pc' := 1247) rfl rfl rfl ?_
  refine zi_iload_n (pc' := 1248) rfl rfl rfl ?_
  refine zi_iconst (pc' := 1249) rfl rfl ?_
  refine zi_iadd (pc' := 1250) rfl rfl ?_
  refine zi_xald (pc' := 1251) rfl rfl hL ⟨by omega, by omega⟩ ?_
  refine zi_callV (d' := 3) (as := [_, _]) (pc' := 1254) rfl rfl rfl rfl (by decide) (s_M_read (Q := fun v g' => zk_I g' ∧ zk_fr fr_M_read g1 g') (Nat.le_refl _) (k_M_read I1 (zw_r _ _) (zw_r _ _) (fun v g' I' F' h0 h1 h2 h3 h4 => ⟨I', F'⟩))) (zi_ki (fun v2 g2 h2 => ?_))
  obtain ⟨I2, F2⟩ := h2
  have c2_0_2 : g2 0 2 = g1 0 2 := F2 0 2 (by first | (simp [fr_M_read]; done) | (unfold fr_M_read; omega))
  have c2_0_8 : g2 0 8 = g1 0 8 := F2 0 8 (by first | (simp [fr_M_read]; done) | (unfold fr_M_read; omega))
  have c2_2_8 : g2 2 8 = g1 2 8 := F2 2 8 (by first | (simp [fr_M_read]; done) | (unfold fr_M_read; omega))
  have c2_2_11 : g2 2 11 = g1 2 11 := F2 2 11 (by first | (simp [fr_M_read]; done) | (unfold fr_M_read; omega))
  have c2_47_8 : g2 47 8 = g1 47 8 := F2 47 8 (by first | (simp [fr_M_read]; done) | (unfold fr_M_read; omega))
  have c2_47_11 : g2 47 11 = g1 47 11 := F2 47 11 (by first | (simp [fr_M_read]; done) | (unfold fr_M_read; omega))
  have c2_191_5 : g2 191 5 = g1 191 5 := F2 191 5 (by first | (simp [fr_M_read]; done) | (unfold fr_M_read; omega))
  have c2_191_6 : g2 191 6 = g1 191 6 := F2 191 6 (by first | (simp [fr_M_read]; done) | (unfold fr_M_read; omega))
  have c2_214_6 : g2 214 6 = g1 214 6 := F2 214 6 (by first | (simp [fr_M_read]; done) | (unfold fr_M_read; omega))
  have c2_214_7 : g2 214 7 = g1 214 7 := F2 214 7 (by first | (simp [fr_M_read]; done) | (unfold fr_M_read; omega))
  have c2_214_13 : g2 214 13 = g1 214 13 := F2 214 13 (by first | (simp [fr_M_read]; done) | (unfold fr_M_read; omega))
  have c2_214_33 : g2 214 33 = g1 214 33 := F2 214 33 (by first | (simp [fr_M_read]; done) | (unfold fr_M_read; omega))
  have c2_214_34 : g2 214 34 = g1 214 34 := F2 214 34 (by first | (simp [fr_M_read]; done) | (unfold fr_M_read; omega))
  have c2_214_62 : g2 214 62 = g1 214 62 := F2 214 62 (by first | (simp [fr_M_read]; done) | (unfold fr_M_read; omega))
  have c2_250_264 : g2 250 264 = g1 250 264 := F2 250 264 (by first | (simp [fr_M_read]; done) | (unfold fr_M_read; omega))
  have c2_250_265 : g2 250 265 = g1 250 265 := F2 250 265 (by first | (simp [fr_M_read]; done) | (unfold fr_M_read; omega))
  have Z2 : zP g2 := zP_eq (fun a i hc => F2 a i (zpf_M_read hc)) Z1
  refine zi_pop (pc' := 1255) rfl rfl rfl ?_
  refine zi_goto (x := 1356) rfl ?_
  exact k _ ⟨I2, (by rw [c2_191_5, c1_191_5, c2_214_33, c1_214_33]; exact R0), (by rw [c2_191_6, c1_191_6, c2_214_34, c1_214_34]; exact R1), (by rw [c2_0_2, c1_0_2, c2_214_62, c1_214_62]; exact R2), (by rw [c2_0_8, c1_0_8, c2_214_13, c1_214_13]; exact R3), (funext fun k => by rw [F2 190 k (by first | (simp [fr_M_read]; done) | (unfold fr_M_read; omega)), F1 190 k (by first | (simp [fr_S_read]; done) | (unfold fr_S_read; omega)), F2 222 k (by first | (simp [fr_M_read]; done) | (unfold fr_M_read; omega)), F1 222 k (by first | (simp [fr_S_read]; done) | (unfold fr_S_read; omega))]; exact congrFun R4 k), (by rw [c2_2_8, c1_2_8, c2_214_6, c1_214_6]; exact R5), (fun q => by rw [c2_47_8, c1_47_8, c2_250_264, c1_250_264]; exact R6 (by rw [c2_0_2, c1_0_2] at q; exact q)), (by rw [c2_2_11, c1_2_11, c2_214_7, c1_214_7]; exact R7), (fun q => by rw [c2_47_11, c1_47_11, c2_250_265, c1_250_265]; exact R8 (by rw [c2_0_2, c1_0_2] at q; exact q)), Z2⟩
theorem zpf_M_game {a : Nat} {i : Int} (hc : zPc a i) : ¬ fr_M_game a i := fun w => by
  have ha := zPc_le hc
  unfold fr_M_game at w
  clear hc
  omega
set_option maxRecDepth 100000 in
set_option maxHeartbeats 4000000 in
theorem zw_c34 {E : sx_E} {i : Int} {g : zi_M} (hL : sx_Ln E ≤ 3072) (h0 : 0 ≤ i) (h6 : i + 6 ≤ ((sx_Ln E : Nat) : Int)) (R : zw_R g) (k : ∀ g' : zi_M, zw_R g' → zi_W E 420 326 1356 [some (.ref 1000000000), some (.ref 0), some (.ref 214), some (zi_i i)] [] g' zw_Q) : zi_W E 420 326 1258 [some (.ref 1000000000), some (.ref 0), some (.ref 214), some (zi_i i)] [] g zw_Q := by
  obtain ⟨I, R0, R1, R2, R3, R4, R5, R6, R7, R8, R9⟩ := R
  refine zi_aload_n (pc' := 1259) rfl rfl rfl ?_
  refine zi_aload_n (pc' := 1260) rfl rfl rfl ?_
  refine zi_iload_n (pc' := 1261) rfl rfl rfl ?_
  refine zi_iconst (pc' := 1262) rfl rfl ?_
  refine zi_iadd (pc' := 1263) rfl rfl ?_
  refine zi_xald (pc' := 1264) rfl rfl hL ⟨by omega, by omega⟩ ?_
  refine zi_callV (d' := 4) (as := [_]) (pc' := 1267) rfl rfl rfl rfl (by decide) (s_S_game (Q := fun v g' => g' = g) (Nat.le_refl _) (k_S_game I (zw_r _ _) (by intros; rfl))) (zi_ki (fun v1 g1 h1 => ?_))
  have E1 : g1 = g := h1
  rw [E1]
  refine zi_pop (pc' := 1268) rfl rfl rfl ?_
  refine zi_aload_n (pc' := 1269) rfl rfl rfl ?_
  refine zi_aload_n (pc' := 1270) rfl rfl rfl ?_
  refine zi_iload_n (pc' := 1271) rfl rfl rfl ?_
  refine zi_iconst (pc' := 1272) rfl rfl ?_
  refine zi_iadd (pc' := 1273) rfl rfl ?_
  refine zi_xald (pc' := 1274) rfl rfl hL ⟨by omega, by omega⟩ ?_
  refine zi_callV (d' := 2) (as := [_]) (pc' := 1277) rfl rfl rfl rfl (by decide) (s_M_game (Q := fun v g' => zk_I g' ∧ zk_fr fr_M_game g g') (Nat.le_refl _) (k_M_game I (zw_r _ _) (fun v g' I' F' h0 => ⟨I', F'⟩))) (zi_ki (fun v2 g2 h2 => ?_))
  obtain ⟨I2, F2⟩ := h2
  have c2_0_2 : g2 0 2 = g 0 2 := F2 0 2 (by first | (simp [fr_M_game]; done) | (unfold fr_M_game; omega))
  have c2_0_8 : g2 0 8 = g 0 8 := F2 0 8 (by first | (simp [fr_M_game]; done) | (unfold fr_M_game; omega))
  have c2_2_8 : g2 2 8 = g 2 8 := F2 2 8 (by first | (simp [fr_M_game]; done) | (unfold fr_M_game; omega))
  have c2_2_11 : g2 2 11 = g 2 11 := F2 2 11 (by first | (simp [fr_M_game]; done) | (unfold fr_M_game; omega))
  have c2_47_8 : g2 47 8 = g 47 8 := F2 47 8 (by first | (simp [fr_M_game]; done) | (unfold fr_M_game; omega))
  have c2_47_11 : g2 47 11 = g 47 11 := F2 47 11 (by first | (simp [fr_M_game]; done) | (unfold fr_M_game; omega))
  have c2_191_5 : g2 191 5 = g 191 5 := F2 191 5 (by first | (simp [fr_M_game]; done) | (unfold fr_M_game; omega))
  have c2_191_6 : g2 191 6 = g 191 6 := F2 191 6 (by first | (simp [fr_M_game]; done) | (unfold fr_M_game; omega))
  have c2_214_6 : g2 214 6 = g 214 6 := F2 214 6 (by first | (simp [fr_M_game]; done) | (unfold fr_M_game; omega))
  have c2_214_7 : g2 214 7 = g 214 7 := F2 214 7 (by first | (simp [fr_M_game]; done) | (unfold fr_M_game; omega))
  have c2_214_13 : g2 214 13 = g 214 13 := F2 214 13 (by first | (simp [fr_M_game]; done) | (unfold fr_M_game; omega))
  have c2_214_33 : g2 214 33 = g 214 33 := F2 214 33 (by first | (simp [fr_M_game]; done) | (unfold fr_M_game; omega))
  have c2_214_34 : g2 214 34 = g 214 34 := F2 214 34 (by first | (simp [fr_M_game]; done) | (unfold fr_M_game; omega))
  have c2_214_62 : g2 214 62 = g 214 62 := F2 214 62 (by first | (simp [fr_M_game]; done) | (unfold fr_M_game; omega))
  have c2_250_264 : g2 250 264 = g 250 264 := F2 250 264 (by first | (simp [fr_M_game]; done) | (unfold fr_M_game; omega))
  have c2_250_265 : g2 250 265 = g 250 265 := F2 250 265 (by first | (simp [fr_M_game]; done) | (unfold fr_M_game; omega))
  have Z2 : zP g2 := zP_eq (fun a i hc => F2 a i (zpf_M_game hc)) R9
  refine zi_pop (pc' := 1278) rfl rfl rfl ?_
  refine zi_goto (x := 1356) rfl ?_
  exact k _ ⟨I2, (by rw [c2_191_5, c2_214_33]; exact R0), (by rw [c2_191_6, c2_214_34]; exact R1), (by rw [c2_0_2, c2_214_62]; exact R2), (by rw [c2_0_8, c2_214_13]; exact R3), (funext fun k => by rw [F2 190 k (by first | (simp [fr_M_game]; done) | (unfold fr_M_game; omega)), F2 222 k (by first | (simp [fr_M_game]; done) | (unfold fr_M_game; omega))]; exact congrFun R4 k), (by rw [c2_2_8, c2_214_6]; exact R5), (fun q => by rw [c2_47_8, c2_250_264]; exact R6 (by rw [c2_0_2] at q; exact q)), (by rw [c2_2_11, c2_214_7]; exact R7), (fun q => by rw [c2_47_11, c2_250_265]; exact R8 (by rw [c2_0_2] at q; exact q)), Z2⟩
theorem zpf_M_undo {a : Nat} {i : Int} (hc : zPc a i) : ¬ fr_M_undo a i := fun w => by
  have ha := zPc_le hc
  unfold fr_M_undo at w
  clear hc
  omega
set_option maxRecDepth 100000 in
set_option maxHeartbeats 4000000 in
theorem zw_c35 {E : sx_E} {i : Int} {g : zi_M} (hL : sx_Ln E ≤ 3072) (h0 : 0 ≤ i) (h6 : i + 6 ≤ ((sx_Ln E : Nat) : Int)) (R : zw_R g) (k : ∀ g' : zi_M, zw_R g' → zi_W E 420 326 1356 [some (.ref 1000000000), some (.ref 0), some (.ref 214), some (zi_i i)] [] g' zw_Q) : zi_W E 420 326 1281 [some (.ref 1000000000), some (.ref 0), some (.ref 214), some (zi_i i)] [] g zw_Q := by
  obtain ⟨I, R0, R1, R2, R3, R4, R5, R6, R7, R8, R9⟩ := R
  refine zi_aload_n (pc' := 1282) rfl rfl rfl ?_
  refine zi_callV (d' := 3) (as := []) (pc' := 1285) rfl rfl rfl rfl (by decide) (s_S_undo (Q := fun v g' => zk_I g' ∧ zk_fr fr_S_undo g g' ∧ (0 ≤ v ∧ v ≤ 1) ∧ (zP g → zP g' ∧ zQk g g')) (Nat.le_refl _) (k_S_undo I  (fun v g' I' F' h0 h1 => ⟨I', F', h0, h1⟩))) (zi_kb (fun v1 g1 b1 h1 => ?_))
  obtain ⟨I1, F1, p1_0, p1_1⟩ := h1
  have c1_0_2 : g1 0 2 = g 0 2 := F1 0 2 (by first | (simp [fr_S_undo]; done) | (unfold fr_S_undo; omega))
  have c1_0_8 : g1 0 8 = g 0 8 := F1 0 8 (by first | (simp [fr_S_undo]; done) | (unfold fr_S_undo; omega))
  have c1_47_8 : g1 47 8 = g 47 8 := F1 47 8 (by first | (simp [fr_S_undo]; done) | (unfold fr_S_undo; omega))
  have c1_47_11 : g1 47 11 = g 47 11 := F1 47 11 (by first | (simp [fr_S_undo]; done) | (unfold fr_S_undo; omega))
  have c1_191_5 : g1 191 5 = g 191 5 := F1 191 5 (by first | (simp [fr_S_undo]; done) | (unfold fr_S_undo; omega))
  have c1_191_6 : g1 191 6 = g 191 6 := F1 191 6 (by first | (simp [fr_S_undo]; done) | (unfold fr_S_undo; omega))
  have c1_214_6 : g1 214 6 = g 214 6 := F1 214 6 (by first | (simp [fr_S_undo]; done) | (unfold fr_S_undo; omega))
  have c1_214_7 : g1 214 7 = g 214 7 := F1 214 7 (by first | (simp [fr_S_undo]; done) | (unfold fr_S_undo; omega))
  have c1_214_13 : g1 214 13 = g 214 13 := F1 214 13 (by first | (simp [fr_S_undo]; done) | (unfold fr_S_undo; omega))
  have c1_214_33 : g1 214 33 = g 214 33 := F1 214 33 (by first | (simp [fr_S_undo]; done) | (unfold fr_S_undo; omega))
  have c1_214_34 : g1 214 34 = g 214 34 := F1 214 34 (by first | (simp [fr_S_undo]; done) | (unfold fr_S_undo; omega))
  have c1_214_62 : g1 214 62 = g 214 62 := F1 214 62 (by first | (simp [fr_S_undo]; done) | (unfold fr_S_undo; omega))
  have c1_250_264 : g1 250 264 = g 250 264 := F1 250 264 (by first | (simp [fr_S_undo]; done) | (unfold fr_S_undo; omega))
  have c1_250_265 : g1 250 265 = g 250 265 := F1 250 265 (by first | (simp [fr_S_undo]; done) | (unfold fr_S_undo; omega))
  have Z1 := (p1_1 R9).1
  have c1_2_8 : g1 2 8 = g 2 8 := (p1_1 R9).2.1.1
  have c1_2_11 : g1 2 11 = g 2 11 := (p1_1 R9).2.1.2
  clear p1_1
  refine zi_pop (pc' := 1286) rfl rfl rfl ?_
  refine zi_aload_n (pc' := 1287) rfl rfl rfl ?_
  refine zi_callV (d' := 1) (as := []) (pc' := 1290) rfl rfl rfl rfl (by decide) (s_M_undo (Q := fun v g' => zk_I g' ∧ zk_fr fr_M_undo g1 g') (Nat.le_refl _) (k_M_undo I1  (fun v g' I' F' h0 => ⟨I', F'⟩))) (zi_kb (fun v2 g2 b2 h2 => ?_))
  obtain ⟨I2, F2⟩ := h2
  have c2_0_2 : g2 0 2 = g1 0 2 := F2 0 2 (by first | (simp [fr_M_undo]; done) | (unfold fr_M_undo; omega))
  have c2_0_8 : g2 0 8 = g1 0 8 := F2 0 8 (by first | (simp [fr_M_undo]; done) | (unfold fr_M_undo; omega))
  have c2_2_8 : g2 2 8 = g1 2 8 := F2 2 8 (by first | (simp [fr_M_undo]; done) | (unfold fr_M_undo; omega))
  have c2_2_11 : g2 2 11 = g1 2 11 := F2 2 11 (by first | (simp [fr_M_undo]; done) | (unfold fr_M_undo; omega))
  have c2_47_8 : g2 47 8 = g1 47 8 := F2 47 8 (by first | (simp [fr_M_undo]; done) | (unfold fr_M_undo; omega))
  have c2_47_11 : g2 47 11 = g1 47 11 := F2 47 11 (by first | (simp [fr_M_undo]; done) | (unfold fr_M_undo; omega))
  have c2_191_5 : g2 191 5 = g1 191 5 := F2 191 5 (by first | (simp [fr_M_undo]; done) | (unfold fr_M_undo; omega))
  have c2_191_6 : g2 191 6 = g1 191 6 := F2 191 6 (by first | (simp [fr_M_undo]; done) | (unfold fr_M_undo; omega))
  have c2_214_6 : g2 214 6 = g1 214 6 := F2 214 6 (by first | (simp [fr_M_undo]; done) | (unfold fr_M_undo; omega))
  have c2_214_7 : g2 214 7 = g1 214 7 := F2 214 7 (by first | (simp [fr_M_undo]; done) | (unfold fr_M_undo; omega))
  have c2_214_13 : g2 214 13 = g1 214 13 := F2 214 13 (by first | (simp [fr_M_undo]; done) | (unfold fr_M_undo; omega))
  have c2_214_33 : g2 214 33 = g1 214 33 := F2 214 33 (by first | (simp [fr_M_undo]; done) | (unfold fr_M_undo; omega))
  have c2_214_34 : g2 214 34 = g1 214 34 := F2 214 34 (by first | (simp [fr_M_undo]; done) | (unfold fr_M_undo; omega))
  have c2_214_62 : g2 214 62 = g1 214 62 := F2 214 62 (by first | (simp [fr_M_undo]; done) | (unfold fr_M_undo; omega))
  have c2_250_264 : g2 250 264 = g1 250 264 := F2 250 264 (by first | (simp [fr_M_undo]; done) | (unfold fr_M_undo; omega))
  have c2_250_265 : g2 250 265 = g1 250 265 := F2 250 265 (by first | (simp [fr_M_undo]; done) | (unfold fr_M_undo; omega))
  have Z2 : zP g2 := zP_eq (fun a i hc => F2 a i (zpf_M_undo hc)) Z1
  refine zi_pop (pc' := 1291) rfl rfl rfl ?_
  refine zi_goto (x := 1356) rfl ?_
  exact k _ ⟨I2, (by rw [c2_191_5, c1_191_5, c2_214_33, c1_214_33]; exact R0), (by rw [c2_191_6, c1_191_6, c2_214_34, c1_214_34]; exact R1), (by rw [c2_0_2, c1_0_2, c2_214_62, c1_214_62]; exact R2), (by rw [c2_0_8, c1_0_8, c2_214_13, c1_214_13]; exact R3), (funext fun k => by rw [F2 190 k (by first | (simp [fr_M_undo]; done) | (unfold fr_M_undo; omega)), F1 190 k (by first | (simp [fr_S_undo]; done) | (unfold fr_S_undo; omega)), F2 222 k (by first | (simp [fr_M_undo]; done) | (unfold fr_M_undo; omega)), F1 222 k (by first | (simp [fr_S_undo]; done) | (unfold fr_S_undo; omega))]; exact congrFun R4 k), by omega, (fun q => by rw [c2_47_8, c1_47_8, c2_250_264, c1_250_264]; exact R6 (by rw [c2_0_2, c1_0_2] at q; exact q)), by omega, (fun q => by rw [c2_47_11, c1_47_11, c2_250_265, c1_250_265]; exact R8 (by rw [c2_0_2, c1_0_2] at q; exact q)), Z2⟩
theorem zpf_M_image {a : Nat} {i : Int} (hc : zPc a i) : ¬ fr_M_image a i := fun w => by
  have ha := zPc_le hc
  unfold fr_M_image at w
  clear hc
  omega
set_option maxRecDepth 100000 in
set_option maxHeartbeats 4000000 in
theorem zw_c36 {E : sx_E} {i : Int} {g : zi_M} (hL : sx_Ln E ≤ 3072) (h0 : 0 ≤ i) (h6 : i + 6 ≤ ((sx_Ln E : Nat) : Int)) (R : zw_R g) (k : ∀ g' : zi_M, zw_R g' → zi_W E 420 326 1356 [some (.ref 1000000000), some (.ref 0), some (.ref 214), some (zi_i i)] [] g' zw_Q) : zi_W E 420 326 1294 [some (.ref 1000000000), some (.ref 0), some (.ref 214), some (zi_i i)] [] g zw_Q := by
  obtain ⟨I, R0, R1, R2, R3, R4, R5, R6, R7, R8, R9⟩ := R
  refine zi_aload_n (pc' := 1295) rfl rfl rfl ?_
  refine zi_aload_n (pc' := 1296) rfl rfl rfl ?_
  refine zi_iload_n (pc' := 1297) rfl rfl rfl ?_
  refine zi_iconst (pc' := 1298) rfl rfl ?_
  refine zi_iadd (pc' := 1299) rfl rfl ?_
  refine zi_xald (pc' := 1300) rfl rfl hL ⟨by omega, by omega⟩ ?_
  have Jq1 : ∀ q1 : Int, (0 ≤ q1 ∧ q1 ≤ 1) → ((zw_s E (i + 1)) = 0 → q1 = 0) → (¬ (zw_s E (i + 1)) = 0 → q1 = 1) → zi_W E 420 326 1308 [some (.ref 1000000000), some (.ref 0), some (.ref 214), some (zi_i i)] (zi_i q1 :: .ref 0 :: []) g zw_Q := by
    intro q1 hq1 hq1z hq1o
    refine zi_callV (d' := 4) (as := [_]) (pc' := 1311) rfl rfl rfl rfl (by decide) (s_S_image (Q := fun v g' => zk_I g' ∧ zk_fr fr_S_image g g' ∧ (0 ≤ v ∧ v ≤ 1) ∧ (¬ q1 = 0 → v = 1 ∧ g' 0 2 = 1) ∧ (q1 = 0 → ¬ g 0 2 = 0 → v = 1 ∧ g' 0 2 = g 0 2) ∧ (q1 = 0 → g 0 2 = 0 → v = 0) ∧ (¬ q1 = 0 → zTc 81 36 g g' ∧ zTk 36 g g') ∧ (q1 = 0 → ¬ g 0 2 = 0 → zTc 36 81 g g' ∧ zTk 81 g g') ∧ (q1 = 0 → g 0 2 = 0 → g' = g) ∧ (q1 = 0 → ¬ g 0 2 = 0 → g' 91 1 = 0) ∧ (¬ q1 = 0 → zWc 47 2 g g' ∧ zWk g g') ∧ (q1 = 0 → ¬ g 0 2 = 0 → zWc 2 47 g g' ∧ zWj g g') ∧ (¬ q1 = 0 → zyTx 64 19 g g' ∧ zyTk 19 g g') ∧ (q1 = 0 → ¬ g 0 2 = 0 → zyTx 19 64 g g' ∧ zyTk 64 g g')) (Nat.le_refl _) (k_S_image I hq1 (fun v g' I' F' h0 h1 h2 h3 h4 h5 h6 h7 h8 h9 h10 h11 => ⟨I', F', h0, h1, h2, h3, h4, h5, h6, h7, h8, h9, h10, h11⟩))) (zi_kb (fun v1 g1 b1 h1 => ?_))
    obtain ⟨I1, F1, p1_0, p1_1, p1_2, p1_3, p1_4, p1_5, p1_6, p1_7, p1_8, p1_9, p1_10, p1_11⟩ := h1
    have c1_0_8 : g1 0 8 = g 0 8 := F1 0 8 (by first | (simp [fr_S_image]; done) | (unfold fr_S_image; omega))
    have c1_191_5 : g1 191 5 = g 191 5 := F1 191 5 (by first | (simp [fr_S_image]; done) | (unfold fr_S_image; omega))
    have c1_191_6 : g1 191 6 = g 191 6 := F1 191 6 (by first | (simp [fr_S_image]; done) | (unfold fr_S_image; omega))
    have c1_214_6 : g1 214 6 = g 214 6 := F1 214 6 (by first | (simp [fr_S_image]; done) | (unfold fr_S_image; omega))
    have c1_214_7 : g1 214 7 = g 214 7 := F1 214 7 (by first | (simp [fr_S_image]; done) | (unfold fr_S_image; omega))
    have c1_214_13 : g1 214 13 = g 214 13 := F1 214 13 (by first | (simp [fr_S_image]; done) | (unfold fr_S_image; omega))
    have c1_214_33 : g1 214 33 = g 214 33 := F1 214 33 (by first | (simp [fr_S_image]; done) | (unfold fr_S_image; omega))
    have c1_214_34 : g1 214 34 = g 214 34 := F1 214 34 (by first | (simp [fr_S_image]; done) | (unfold fr_S_image; omega))
    have c1_214_62 : g1 214 62 = g 214 62 := F1 214 62 (by first | (simp [fr_S_image]; done) | (unfold fr_S_image; omega))
    have c1_250_264 : g1 250 264 = g 250 264 := F1 250 264 (by first | (simp [fr_S_image]; done) | (unfold fr_S_image; omega))
    have c1_250_265 : g1 250 265 = g 250 265 := F1 250 265 (by first | (simp [fr_S_image]; done) | (unfold fr_S_image; omega))
    have bim : 0 ≤ g 0 2 ∧ g 0 2 ≤ 1 := I.1 0 2
    have s1_8 : ¬ q1 = 0 → g1 47 8 = g 2 8 ∧ g1 2 8 = g 2 8 := fun h => ⟨(p1_8 h).1.1.1, (p1_8 h).2 2 8 (by decide)⟩
    have r1_8 : q1 = 0 → ¬ g 0 2 = 0 → g1 2 8 = g 47 8 ∧ g1 47 8 = g 47 8 := fun h q => ⟨(p1_9 h q).1.1.1, (p1_9 h q).2 47 8 (by decide)⟩
    have o1_8 : q1 = 0 → g 0 2 = 0 → g1 2 8 = g 2 8 ∧ g1 47 8 = g 47 8 := fun h q => by rw [p1_6 h q]; exact ⟨rfl, rfl⟩
    have s1_11 : ¬ q1 = 0 → g1 47 11 = g 2 11 ∧ g1 2 11 = g 2 11 := fun h => ⟨(p1_8 h).1.1.2.1, (p1_8 h).2 2 11 (by decide)⟩
    have r1_11 : q1 = 0 → ¬ g 0 2 = 0 → g1 2 11 = g 47 11 ∧ g1 47 11 = g 47 11 := fun h q => ⟨(p1_9 h q).1.1.2.1, (p1_9 h q).2 47 11 (by decide)⟩
    have o1_11 : q1 = 0 → g 0 2 = 0 → g1 2 11 = g 2 11 ∧ g1 47 11 = g 47 11 := fun h q => by rw [p1_6 h q]; exact ⟨rfl, rfl⟩
    have Z1 : zP g1 := by
      by_cases h : q1 = 0
      · by_cases q : g 0 2 = 0
        · rw [p1_6 h q]; exact R9
        · exact zP_0 (p1_7 h q)
      · exact zP_eq (fun a i hc => (p1_8 h).2 a i (by unfold zPc at hc; omega)) R9
    have x1 : q1 = 0 → g 0 2 = 0 → g1 0 2 = g 0 2 := fun h q => by rw [p1_6 h q]
    clear p1_4 p1_5 p1_6 p1_8 p1_9
    refine zi_pop (pc' := 1312) rfl rfl rfl ?_
    refine zi_aload_n (pc' := 1313) rfl rfl rfl ?_
    refine zi_aload_n (pc' := 1314) rfl rfl rfl ?_
    refine zi_iload_n (pc' := 1315) rfl rfl rfl ?_
    refine zi_iconst (pc' := 1316) rfl rfl ?_
    refine zi_iadd (pc' := 1317) rfl rfl ?_
    refine zi_xald (pc' := 1318) rfl rfl hL ⟨by omega, by omega⟩ ?_
    have Jq2 : ∀ q2 : Int, (0 ≤ q2 ∧ q2 ≤ 1) → ((zw_s E (i + 1)) = 0 → q2 = 0) → (¬ (zw_s E (i + 1)) = 0 → q2 = 1) → zi_W E 420 326 1326 [some (.ref 1000000000), some (.ref 0), some (.ref 214), some (zi_i i)] (zi_i q2 :: .ref 214 :: []) g1 zw_Q := by
      intro q2 hq2 hq2z hq2o
      refine zi_callV (d' := 3) (as := [_]) (pc' := 1329) rfl rfl rfl rfl (by decide) (s_M_image (Q := fun v g' => zk_I g' ∧ zk_fr fr_M_image g1 g' ∧ (0 ≤ v ∧ v ≤ 1) ∧ ((¬ q2 = 0 ∨ ¬ g1 214 62 = 0 → v = 1) ∧ (q2 = 0 ∧ g1 214 62 = 0 → v = 0)) ∧ ((¬ q2 = 0 → g' 214 62 = 1) ∧ (q2 = 0 → g' 214 62 = g1 214 62)) ∧ (v = 1 → ¬ q2 = 0 → zimT g1 g') ∧ (v = 1 → q2 = 0 → zimR g1 g') ∧ (v = 0 → ∀ (a : Nat) (i : Int), ¬ (a = 214 ∧ i = 0) → g' a i = g1 a i)) (Nat.le_refl _) (k_M_image I1 hq2 (fun v g' I' F' h0 h1 h2 h3 h4 h5 => ⟨I', F', h0, h1, h2, h3, h4, h5⟩))) (zi_kb (fun v2 g2 b2 h2 => ?_))
      obtain ⟨I2, F2, p2_0, p2_1, p2_2, p2_3, p2_4, p2_5⟩ := h2
      have c2_0_2 : g2 0 2 = g1 0 2 := F2 0 2 (by first | (simp [fr_M_image]; done) | (unfold fr_M_image; omega))
      have c2_0_8 : g2 0 8 = g1 0 8 := F2 0 8 (by first | (simp [fr_M_image]; done) | (unfold fr_M_image; omega))
      have c2_2_8 : g2 2 8 = g1 2 8 := F2 2 8 (by first | (simp [fr_M_image]; done) | (unfold fr_M_image; omega))
      have c2_2_11 : g2 2 11 = g1 2 11 := F2 2 11 (by first | (simp [fr_M_image]; done) | (unfold fr_M_image; omega))
      have c2_47_8 : g2 47 8 = g1 47 8 := F2 47 8 (by first | (simp [fr_M_image]; done) | (unfold fr_M_image; omega))
      have c2_47_11 : g2 47 11 = g1 47 11 := F2 47 11 (by first | (simp [fr_M_image]; done) | (unfold fr_M_image; omega))
      have c2_191_5 : g2 191 5 = g1 191 5 := F2 191 5 (by first | (simp [fr_M_image]; done) | (unfold fr_M_image; omega))
      have c2_191_6 : g2 191 6 = g1 191 6 := F2 191 6 (by first | (simp [fr_M_image]; done) | (unfold fr_M_image; omega))
      have c2_214_13 : g2 214 13 = g1 214 13 := F2 214 13 (by first | (simp [fr_M_image]; done) | (unfold fr_M_image; omega))
      have c2_214_33 : g2 214 33 = g1 214 33 := F2 214 33 (by first | (simp [fr_M_image]; done) | (unfold fr_M_image; omega))
      have c2_214_34 : g2 214 34 = g1 214 34 := F2 214 34 (by first | (simp [fr_M_image]; done) | (unfold fr_M_image; omega))
      have t2_264 : v2 = 1 → ¬ q2 = 0 → g2 250 264 = g1 214 6 ∧ g2 214 6 = g1 214 6 := fun q h => ⟨((p2_3 q h).1 264 (by decide) (by decide)).trans (by rw [show za 264 = 214 by decide +kernel, show zb 264 = 6 by decide +kernel]), (p2_3 q h).2.2 6 (by decide) (by decide) (by decide) (by decide)⟩
      have u2_264 : v2 = 1 → q2 = 0 → g2 214 6 = g1 250 264 ∧ g2 250 264 = g1 250 264 := fun q h => ⟨((p2_4 q h).1 214 6 (by decide +kernel)).trans (by rw [show zv 214 6 = 264 by decide +kernel]), (p2_4 q h).2.1 250 264 (by decide +kernel) (by decide)⟩
      have w2_264 : v2 = 0 → g2 214 6 = g1 214 6 ∧ g2 250 264 = g1 250 264 := fun q => ⟨p2_5 q 214 6 (by decide), p2_5 q 250 264 (by decide)⟩
      have t2_265 : v2 = 1 → ¬ q2 = 0 → g2 250 265 = g1 214 7 ∧ g2 214 7 = g1 214 7 := fun q h => ⟨((p2_3 q h).1 265 (by decide) (by decide)).trans (by rw [show za 265 = 214 by decide +kernel, show zb 265 = 7 by decide +kernel]), (p2_3 q h).2.2 7 (by decide) (by decide) (by decide) (by decide)⟩
      have u2_265 : v2 = 1 → q2 = 0 → g2 214 7 = g1 250 265 ∧ g2 250 265 = g1 250 265 := fun q h => ⟨((p2_4 q h).1 214 7 (by decide +kernel)).trans (by rw [show zv 214 7 = 265 by decide +kernel]), (p2_4 q h).2.1 250 265 (by decide +kernel) (by decide)⟩
      have w2_265 : v2 = 0 → g2 214 7 = g1 214 7 ∧ g2 250 265 = g1 250 265 := fun q => ⟨p2_5 q 214 7 (by decide), p2_5 q 250 265 (by decide)⟩
      obtain ⟨zf_, zs_⟩ := zgm_f (zgm_q hq1z hq1o hq2z hq2o) R2 p1_1 p1_2 x1 p2_1 p2_2 c1_214_62 c2_0_2
      obtain ⟨za_264, zk_264⟩ := zgm_c zs_ s1_8 r1_8 o1_8 t2_264 u2_264 w2_264 c1_214_6 c1_250_264 c2_2_8 c2_47_8 bim R5 R6
      obtain ⟨za_265, zk_265⟩ := zgm_c zs_ s1_11 r1_11 o1_11 t2_265 u2_265 w2_265 c1_214_7 c1_250_265 c2_2_11 c2_47_11 bim R7 R8
      clear p2_3 p2_4 p2_5
      have Z2 : zP g2 := zP_eq (fun a i hc => F2 a i (zpf_M_image hc)) Z1
      refine zi_pop (pc' := 1330) rfl rfl rfl ?_
      refine zi_goto (x := 1356) rfl ?_
      exact k _ ⟨I2, (by rw [c2_191_5, c1_191_5, c2_214_33, c1_214_33]; exact R0), (by rw [c2_191_6, c1_191_6, c2_214_34, c1_214_34]; exact R1), zf_, (by rw [c2_0_8, c1_0_8, c2_214_13, c1_214_13]; exact R3), (funext fun k => by rw [F2 190 k (by first | (simp [fr_M_image]; done) | (unfold fr_M_image; omega)), F1 190 k (by first | (simp [fr_S_image]; done) | (unfold fr_S_image; omega)), F2 222 k (by first | (simp [fr_M_image]; done) | (unfold fr_M_image; omega)), F1 222 k (by first | (simp [fr_S_image]; done) | (unfold fr_S_image; omega))]; exact congrFun R4 k), za_264, zk_264, za_265, zk_265, Z2⟩
    refine zi_if_eq (x := 1325) (pc' := 1321) rfl rfl (zw_r _ _) (fun c => ?_) (fun c => ?_)
    · refine zi_iconst (pc' := 1326) rfl rfl ?_
      exact Jq2 0 (by decide) (fun _ => rfl) (fun h => absurd c h)
    · refine zi_iconst (pc' := 1322) rfl rfl ?_
      refine zi_goto (x := 1326) rfl ?_
      exact Jq2 1 (by decide) (fun h => absurd h c) (fun _ => rfl)
  refine zi_if_eq (x := 1307) (pc' := 1303) rfl rfl (zw_r _ _) (fun c => ?_) (fun c => ?_)
  · refine zi_iconst (pc' := 1308) rfl rfl ?_
    exact Jq1 0 (by decide) (fun _ => rfl) (fun h => absurd c h)
  · refine zi_iconst (pc' := 1304) rfl rfl ?_
    refine zi_goto (x := 1308) rfl ?_
    exact Jq1 1 (by decide) (fun h => absurd h c) (fun _ => rfl)
theorem zpf_M_look {a : Nat} {i : Int} (hc : zPc a i) : ¬ fr_M_look a i := fun w => by
  have ha := zPc_le hc
  unfold fr_M_look at w
  clear hc
  omega
set_option maxRecDepth 100000 in
set_option maxHeartbeats 4000000 in
theorem zw_c37 {E : sx_E} {i : Int} {g : zi_M} (hL : sx_Ln E ≤ 3072) (h0 : 0 ≤ i) (h6 : i + 6 ≤ ((sx_Ln E : Nat) : Int)) (R : zw_R g) (k : ∀ g' : zi_M, zw_R g' → zi_W E 420 326 1356 [some (.ref 1000000000), some (.ref 0), some (.ref 214), some (zi_i i)] [] g' zw_Q) : zi_W E 420 326 1333 [some (.ref 1000000000), some (.ref 0), some (.ref 214), some (zi_i i)] [] g zw_Q := by
  obtain ⟨I, R0, R1, R2, R3, R4, R5, R6, R7, R8, R9⟩ := R
  refine zi_aload_n (pc' := 1334) rfl rfl rfl ?_
  refine zi_aload_n (pc' := 1335) rfl rfl rfl ?_
  refine zi_iload_n (pc' := 1336) rfl rfl rfl ?_
  refine zi_iconst (pc' := 1337) rfl rfl ?_
  refine zi_iadd (pc' := 1338) rfl rfl ?_
  refine zi_xald (pc' := 1339) rfl rfl hL ⟨by omega, by omega⟩ ?_
  refine zi_callV (d' := 1) (as := [_]) (pc' := 1342) rfl rfl rfl rfl (by decide) (s_S_look (Q := fun v g' => g' = g) (Nat.le_refl _) (k_S_look I (zw_r _ _) (by intros; rfl))) (zi_ki (fun v1 g1 h1 => ?_))
  have E1 : g1 = g := h1
  rw [E1]
  refine zi_pop (pc' := 1343) rfl rfl rfl ?_
  refine zi_aload_n (pc' := 1344) rfl rfl rfl ?_
  refine zi_aload_n (pc' := 1345) rfl rfl rfl ?_
  refine zi_iload_n (pc' := 1346) rfl rfl rfl ?_
  refine zi_iconst (pc' := 1347) rfl rfl ?_
  refine zi_iadd (pc' := 1348) rfl rfl ?_
  refine zi_xald (pc' := 1349) rfl rfl hL ⟨by omega, by omega⟩ ?_
  refine zi_callV (d' := 1) (as := [_]) (pc' := 1352) rfl rfl rfl rfl (by decide) (s_M_look (Q := fun v g' => zk_I g' ∧ zk_fr fr_M_look g g') (Nat.le_refl _) (k_M_look I (zw_r _ _) (fun v g' I' F' h0 => ⟨I', F'⟩))) (zi_ki (fun v2 g2 h2 => ?_))
  obtain ⟨I2, F2⟩ := h2
  have c2_0_2 : g2 0 2 = g 0 2 := F2 0 2 (by first | (simp [fr_M_look]; done) | (unfold fr_M_look; omega))
  have c2_0_8 : g2 0 8 = g 0 8 := F2 0 8 (by first | (simp [fr_M_look]; done) | (unfold fr_M_look; omega))
  have c2_2_8 : g2 2 8 = g 2 8 := F2 2 8 (by first | (simp [fr_M_look]; done) | (unfold fr_M_look; omega))
  have c2_2_11 : g2 2 11 = g 2 11 := F2 2 11 (by first | (simp [fr_M_look]; done) | (unfold fr_M_look; omega))
  have c2_47_8 : g2 47 8 = g 47 8 := F2 47 8 (by first | (simp [fr_M_look]; done) | (unfold fr_M_look; omega))
  have c2_47_11 : g2 47 11 = g 47 11 := F2 47 11 (by first | (simp [fr_M_look]; done) | (unfold fr_M_look; omega))
  have c2_191_5 : g2 191 5 = g 191 5 := F2 191 5 (by first | (simp [fr_M_look]; done) | (unfold fr_M_look; omega))
  have c2_191_6 : g2 191 6 = g 191 6 := F2 191 6 (by first | (simp [fr_M_look]; done) | (unfold fr_M_look; omega))
  have c2_214_6 : g2 214 6 = g 214 6 := F2 214 6 (by first | (simp [fr_M_look]; done) | (unfold fr_M_look; omega))
  have c2_214_7 : g2 214 7 = g 214 7 := F2 214 7 (by first | (simp [fr_M_look]; done) | (unfold fr_M_look; omega))
  have c2_214_13 : g2 214 13 = g 214 13 := F2 214 13 (by first | (simp [fr_M_look]; done) | (unfold fr_M_look; omega))
  have c2_214_33 : g2 214 33 = g 214 33 := F2 214 33 (by first | (simp [fr_M_look]; done) | (unfold fr_M_look; omega))
  have c2_214_34 : g2 214 34 = g 214 34 := F2 214 34 (by first | (simp [fr_M_look]; done) | (unfold fr_M_look; omega))
  have c2_214_62 : g2 214 62 = g 214 62 := F2 214 62 (by first | (simp [fr_M_look]; done) | (unfold fr_M_look; omega))
  have c2_250_264 : g2 250 264 = g 250 264 := F2 250 264 (by first | (simp [fr_M_look]; done) | (unfold fr_M_look; omega))
  have c2_250_265 : g2 250 265 = g 250 265 := F2 250 265 (by first | (simp [fr_M_look]; done) | (unfold fr_M_look; omega))
  have Z2 : zP g2 := zP_eq (fun a i hc => F2 a i (zpf_M_look hc)) R9
  refine zi_pop (pc' := 1353) rfl rfl rfl ?_
  refine zi_goto (x := 1356) rfl ?_
  exact k _ ⟨I2, (by rw [c2_191_5, c2_214_33]; exact R0), (by rw [c2_191_6, c2_214_34]; exact R1), (by rw [c2_0_2, c2_214_62]; exact R2), (by rw [c2_0_8, c2_214_13]; exact R3), (funext fun k => by rw [F2 190 k (by first | (simp [fr_M_look]; done) | (unfold fr_M_look; omega)), F2 222 k (by first | (simp [fr_M_look]; done) | (unfold fr_M_look; omega))]; exact congrFun R4 k), (by rw [c2_2_8, c2_214_6]; exact R5), (fun q => by rw [c2_47_8, c2_250_264]; exact R6 (by rw [c2_0_2] at q; exact q)), (by rw [c2_2_11, c2_214_7]; exact R7), (fun q => by rw [c2_47_11, c2_250_265]; exact R8 (by rw [c2_0_2] at q; exact q)), Z2⟩
set_option maxRecDepth 100000 in
theorem zw_step {E : sx_E} {i : Int} {g : zi_M} (hL : sx_Ln E ≤ 3072) (h0 : 0 ≤ i) (h1 : i ≤ ((sx_Ln E : Nat) : Int)) (R : zw_R g) (kk : i + 6 ≤ ((sx_Ln E : Nat) : Int) → ∀ g' : zi_M, zw_R g' → zi_W E 420 326 18 [some (.ref 1000000000), some (.ref 0), some (.ref 214), some (zi_i (i + 6))] [] g' zw_Q) : zi_W E 420 326 18 [some (.ref 1000000000), some (.ref 0), some (.ref 214), some (zi_i i)] [] g zw_Q := by
  refine zi_iload_n (pc' := 19) rfl rfl rfl ?_
  refine zi_aload_n (pc' := 20) rfl rfl rfl ?_
  refine zi_xlen (pc' := 21) rfl rfl ?_
  refine zi_bipush (pc' := 23) rfl rfl (by decide) ?_
  refine zi_isub (pc' := 24) rfl rfl ?_
  refine zi_icmp_gt (x := 1362) (pc' := 27) rfl rfl ⟨by omega, by omega⟩ ⟨by omega, by omega⟩ (fun c => ?_) (fun c => ?_)
  · refine zi_iconst (pc' := 1363) rfl rfl ?_
    exact zi_zret rfl rfl (Or.inr rfl) rfl
  · have h6 : i + 6 ≤ ((sx_Ln E : Nat) : Int) := by omega
    have k : ∀ g' : zi_M, zw_R g' → zi_W E 420 326 1356 [some (.ref 1000000000), some (.ref 0), some (.ref 214), some (zi_i i)] [] g' zw_Q := by
      intro g' R'
      refine zi_iinc (pc' := 1359) [some _, some _, some _, some _] rfl rfl rfl rfl ?_
      refine zi_goto (x := 18) rfl ?_
      exact kk h6 g' R'
    refine zi_aload_n (pc' := 28) rfl rfl rfl ?_
    refine zi_iload_n (pc' := 29) rfl rfl rfl ?_
    refine zi_xald (pc' := 30) rfl rfl hL ⟨by omega, by omega⟩ ?_
    refine zi_bipush (pc' := 32) rfl rfl (by decide) ?_
    refine zi_iand (pc' := 33) rfl rfl ?_
    exact zi_tsw [(0, 200), (1, 223), (2, 266), (3, 289), (4, 332), (5, 375), (6, 398), (7, 461), (8, 484), (9, 507), (10, 530), (11, 563), (12, 596), (13, 629), (14, 652), (15, 685), (16, 718), (17, 751), (18, 784), (19, 807), (20, 840), (21, 863), (22, 896), (23, 919), (24, 952), (25, 985), (26, 1008), (27, 1067), (28, 1090), (29, 1133), (30, 1156), (31, 1179), (32, 1202), (33, 1225), (34, 1258), (35, 1281), (36, 1294), (37, 1333)] 1356 rfl rfl (zi_r_and _ _) (fun _ => k g R) (And.intro (fun _ => zw_c0 hL h0 h6 R k) (And.intro (fun _ => zw_c1 hL h0 h6 R k) (And.intro (fun _ => zw_c2 hL h0 h6 R k) (And.intro (fun _ => zw_c3 hL h0 h6 R k) (And.intro (fun _ => zw_c4 hL h0 h6 R k) (And.intro (fun _ => zw_c5 hL h0 h6 R k) (And.intro (fun _ => zw_c6 hL h0 h6 R k) (And.intro (fun _ => zw_c7 hL h0 h6 R k) (And.intro (fun _ => zw_c8 hL h0 h6 R k) (And.intro (fun _ => zw_c9 hL h0 h6 R k) (And.intro (fun _ => zw_c10 hL h0 h6 R k) (And.intro (fun _ => zw_c11 hL h0 h6 R k) (And.intro (fun _ => zw_c12 hL h0 h6 R k) (And.intro (fun _ => zw_c13 hL h0 h6 R k) (And.intro (fun _ => zw_c14 hL h0 h6 R k) (And.intro (fun _ => zw_c15 hL h0 h6 R k) (And.intro (fun _ => zw_c16 hL h0 h6 R k) (And.intro (fun _ => zw_c17 hL h0 h6 R k) (And.intro (fun _ => zw_c18 hL h0 h6 R k) (And.intro (fun _ => zw_c19 hL h0 h6 R k) (And.intro (fun _ => zw_c20 hL h0 h6 R k) (And.intro (fun _ => zw_c21 hL h0 h6 R k) (And.intro (fun _ => zw_c22 hL h0 h6 R k) (And.intro (fun _ => zw_c23 hL h0 h6 R k) (And.intro (fun _ => zw_c24 hL h0 h6 R k) (And.intro (fun _ => zw_c25 hL h0 h6 R k) (And.intro (fun _ => zw_c26 hL h0 h6 R k) (And.intro (fun _ => zw_c27 hL h0 h6 R k) (And.intro (fun _ => zw_c28 hL h0 h6 R k) (And.intro (fun _ => zw_c29 hL h0 h6 R k) (And.intro (fun _ => zw_c30 hL h0 h6 R k) (And.intro (fun _ => zw_c31 hL h0 h6 R k) (And.intro (fun _ => zw_c32 hL h0 h6 R k) (And.intro (fun _ => zw_c33 hL h0 h6 R k) (And.intro (fun _ => zw_c34 hL h0 h6 R k) (And.intro (fun _ => zw_c35 hL h0 h6 R k) (And.intro (fun _ => zw_c36 hL h0 h6 R k) (And.intro (fun _ => zw_c37 hL h0 h6 R k) trivial))))))))))))))))))))))))))))))))))))))
theorem zw_loop {E : sx_E} (hL : sx_Ln E ≤ 3072) : ∀ (f : Nat) (i : Int) (g : zi_M), 0 ≤ i → i ≤ ((sx_Ln E : Nat) : Int) → ((sx_Ln E : Nat) : Int) - i ≤ (f : Int) → zw_R g → zi_W E 420 326 18 [some (.ref 1000000000), some (.ref 0), some (.ref 214), some (zi_i i)] [] g zw_Q
  | 0, i, g, h0, h1, h2, R => zw_step hL h0 h1 R (fun h6 => by exfalso; omega)
  | f + 1, i, g, h0, h1, h2, R => zw_step hL h0 h1 R (fun h6 g' R' => zw_loop hL f (i + 6) g' (by omega) h6 (by omega) R')
theorem zw_run {E : sx_E} (hL : sx_Ln E ≤ 3072) : sx_W E 420 600000 7302250 326 0 [some (.ref 1000000000), none, none, none] [] (0, fun _ => none, fun _ _ => 0, fun _ _ => none) zw_Q :=
  zw_ini (fun m hm => zw_loop hL (sx_Ln E) 0 zw_g0 (Int.le_refl 0) (by omega) (by omega) zw_R0 m hm)
