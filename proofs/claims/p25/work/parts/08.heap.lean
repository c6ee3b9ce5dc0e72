-- RULES: fields, arrays, new cells, calls, the end
section
variable {E : sx_E} {d kc ks j pc n x y : Nat} {z : Int32} {ls : List (Option Value)} {st : List Value} {m : sx_M} {Q : Option Value → sx_M → Prop}
theorem sx_locs1 {E : sx_E} {locs L : List Loc} (h : ∀ q ∈ locs, sx_fr E q.base) {a : Nat} (hL : ∀ q ∈ L, q.base = sx_B E + a) : ∀ q ∈ locs ++ L, sx_fr E q.base := by
  intro q hq
  rcases List.mem_append.mp hq with h1 | h1
  · exact h q h1
  · show sx_B E ≤ q.base
    rw [hL q h1]
    omega
theorem sx_locsS {E : sx_E} {a i : Nat} : ∀ q ∈ ([⟨sx_B E + a, i⟩] : List Loc), q.base = sx_B E + a := fun q h => by rw [List.mem_singleton.mp h]
theorem sx_get {i a : Nat} {N : Nat} (ht : sx_tab j pc = some (.getfield i, n, x, y, z)) (hs : m.2.1 a = some (x, N)) (k : sx_W E d kc ks j (pc + 3) ls ((bif sx_isI x y then .int (m.2.2.1 a y) else sx_rv (m.2.2.2 a y)) :: st) m Q) : sx_W E d kc ks j pc ls (.ref a :: st) m Q := by
  intro p e s mi args below meth c H locs cells slots KC KS A hx hb hml hr hlk hin hown hts hok hK hR hlo hfr hcl hsl
  obtain ⟨h1, h2⟩ := hok _ _ ht
  simp only [sx_okE, Bool.and_eq_true] at h1
  have hn : n = 3 := Nat.eq_of_beq_eq_true h1.1
  subst hn
  have hc : x < 13 := Nat.le_of_ble_eq_true h1.2.1
  have hy : y < sx_N x := Nat.le_of_ble_eq_true h1.2.2.1
  obtain ⟨q, hq⟩ := sx_any5 h1.2.2.2
  have hN := (hR.2.2.2 a _ hs).2.1 hc
  simp only at hN
  subst hN
  have hP := hR.at hs
  have hl := hts _ (sx_tb_mm (sx_fl_ok _ hq) rfl)
  have hk := k p e s mi args below meth c H locs cells slots KC KS A hx hb hml hr hlk hin hown hts hok hK hR hlo hfr hcl hsl
  rw [List.map_cons, sx_fv_eq E hc hy] at hk
  show W p (sx_l E) e (sx_rm d KC KS) s mi args below meth c H locs cells slots _ (F0 mi pc A (.ref (sx_ad E a) :: st.map (sx_v E)))
  rw [hR.ad hs]
  refine va_get (C := sx_cn x) (T := sx_T x) (N := sx_N x) (ci := x) (fs := (List.range (sx_N x)).map fun k => sx_fv E (sx_ty x k) (m.2.2.1 a k) (m.2.2.2 a k)) hx hb hts (sx_in x hc) hown hK.1 hP 0 ?_ (sx_cl_at x hc) y hy hl (fun _ h => h) ?_ h2 hk
  · simp [sx_e, hc]
  · simp [hy]
theorem sx_putW {i a : Nat} {N : Nat} {v : Value} {w : Value} {f : Nat → Int32} {r : Nat → Option Nat} (ht : sx_tab j pc = some (.putfield i, n, x, y, z)) (hs : m.2.1 a = some (x, N)) (hw : sx_v E v = w) (hnar : narrow (sx_ty x y) w = w) (hfit : fits (sx_ty x y) w = true) (hf : ∀ k, k < sx_N x → sx_fv E (sx_ty x k) (f k) (r k) = if k = y then w else sx_fv E (sx_ty x k) (m.2.2.1 a k) (m.2.2.2 a k)) (k : sx_W E d kc ks j (pc + 3) ls st (m.1, m.2.1, sx_ua m.2.2.1 a f, sx_ua m.2.2.2 a r) Q) : sx_W E d kc ks j pc ls (v :: .ref a :: st) m Q := by
  intro p e s mi args below meth c H locs cells slots KC KS A hx hb hml hr hlk hin hown hts hok hK hR hlo hfr hcl hsl'
  obtain ⟨h1, h2⟩ := hok _ _ ht
  simp only [sx_okE, Bool.and_eq_true] at h1
  have hn : n = 3 := Nat.eq_of_beq_eq_true h1.1
  subst hn
  have hc : x < 13 := Nat.le_of_ble_eq_true h1.2.1
  have hy : y < sx_N x := Nat.le_of_ble_eq_true h1.2.2.1
  obtain ⟨q, hq⟩ := sx_any5 h1.2.2.2.1
  have hN := (hR.2.2.2 a _ hs).2.1 hc
  simp only at hN
  subst hN
  have hat := (hR.2.2.2 a _ hs).2.2
  have hl := hts _ (sx_tb_mm (sx_fl_ok _ hq) rfl)
  simp only at hl
  show W p (sx_l E) e (sx_rm d KC KS) s mi args below meth c H locs cells slots _ (F0 mi pc A (sx_v E v :: .ref (sx_ad E a) :: st.map (sx_v E)))
  rw [hR.ad hs, hw]
  have hap := va_apart (own := sx_cn (sx_oc j)) hts (sx_in x hc) (sx_ty x) (sx_tyok x hc) (sx_nm x hc) hK.1 (sx_cl_at x hc)
  simp only [sx_e, hc, if_true] at hat
  obtain ⟨rr, g1, cell, q1, q2, q3, q4⟩ := hat
  simp only at g1 q1 q2 q4
  have hrr : rr = (sx_cn x, sx_T x, sx_N x) := Option.some.inj (g1.symm.trans (sx_cl_at x hc))
  subst hrr
  obtain ⟨hS, hfc, kC, hkC, hkind⟩ := hK.1.1 x _ (sx_cl_at x hc)
  obtain ⟨cf, kf, fi, fd, hi, hsl⟩ := hS y hy
  have hst := (u_facts hfc hkC (u_lays hts (sx_in x hc) hy) hi).1
  have hlay := hts _ (sx_in x hc _ (u_in_lay hy))
  have fin : ∀ H' : Heap, H'[sx_B E + a]? = some (cell.setSlot fd.slot w) → H'.size = H.size → (∀ q, q ≠ sx_B E + a → H'[q]? = H[q]?) → W p (sx_l E) e (sx_rm d KC KS) s mi args below meth c H' (locs ++ [⟨sx_B E + a, fd.slot⟩]) cells slots (MQ below (sx_Qc E Q) args s KC KS (sx_fr E)) (F0 mi (pc + 3) A (st.map (sx_v E))) := by
    intro H' e1 e2 e3
    rw [hsl] at e1
    refine k p e s mi args below meth c H' _ cells slots KC KS A hx hb hml hr hlk hin hown hts hok hK (hR.set (m' := (m.1, m.2.1, sx_ua m.2.2.1 a f, sx_ua m.2.2.2 a r)) hs rfl rfl (fun i' hi' => ⟨sx_ua_ne hi', sx_ua_ne hi'⟩) e2 e3 ?_) hlo (sx_locs1 hfr sx_locsS) hcl hsl'
    show va_at _ _ (_, sx_e E _ (sx_ua m.2.2.1 a f a) (sx_ua m.2.2.2 a r a)) H'
    rw [sx_ua_eq, sx_ua_eq]
    simp only [sx_e, hc, if_true]
    refine ⟨_, sx_cl_at x hc, t_OB.to (V := updV (vp_V _) y w) ⟨_, e1, q2, q3, t_set q4 hap hy w⟩ (fun jj hjj => ?_)⟩
    have hjj : jj < sx_N x := hjj
    have z1 : ∀ g : Nat → Value, vp_V ((List.range (sx_N x)).map g) jj = g jj := fun g => by simp [vp_V, hjj]
    rw [z1, hf jj hjj]
    by_cases e : jj = y
    · simp [updV, e]
    · simp only [updV, e, if_false]
      exact z1 _
  unfold u_lay at hlay
  cases hF : sx_isF x y with
  | false =>
    have hF2 : (sx_T x y).2.2.2 = false := (sx_fin x hc y hy).trans hF
    rw [if_neg (by rw [hF2]; decide)] at hlay
    have h6 := u_store hfc hkC hkind hlay hi (sx_tyok x hc y hy) hnar hfit
    exact W.putK hx hb (f := fd) ⟨hown, hl, ⟨_, _, _, hi⟩, hst⟩ (by rw [q2]; exact h6) q1 q3 (by rw [hsl]; exact k2_hasslot (q4 y hy)) rfl rfl h2 fin
  | true =>
    have hF2 : (sx_T x y).2.2.2 = true := (sx_fin x hc y hy).trans hF
    rw [if_pos hF2] at hlay
    have h7 := h1.2.2.2.2
    rw [hF] at h7
    simp only [Bool.not_true, Bool.or_eq_true, Bool.and_eq_true] at h7
    have h8 : Nat.beq x (sx_oc j) = true ∧ Nat.beq (sx_kd j) 2 = true := by
      rcases h7 with h7 | h7
      · exact absurd h7 (by decide)
      · exact h7
    have ex : x = sx_oc j := Nat.eq_of_beq_eq_true h8.1
    have hkd : sx_kd j = 2 := Nat.eq_of_beq_eq_true h8.2
    have hcf : mi.cls = cf := by
      obtain ⟨_, _, c', _, _, _, -, -, hf', -, -, -, hown2, -⟩ := Cond.laysFinal_spec hlay
      have e1 : c' = cf := by have := hi.symm.trans hf'; simp at this; exact this.1.symm
      rw [sx_own x hc y hy, ex] at hown2
      rw [← e1]; exact Option.some.inj (hown.symm.trans hown2)
    have h6 := u_fits hfc hkC hkind (Or.inr hlay) hi (sx_tyok x hc y hy) hnar hfit
    exact W.putFinK hx hb hown hl hi hst hcf (hin hkd) (by rw [q2]; exact h6) q1 q3 (by rw [hsl]; exact k2_hasslot (q4 y hy)) rfl rfl h2 fin
end
