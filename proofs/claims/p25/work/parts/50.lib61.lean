-- A DAY, the other side: plan, weather, dry or wet
theorem zPa_d {S T d w x : Int} (v : zPa S T d w x) : 0 ≤ w ∧ (((d = 0 ∨ d = 1 ∨ d = 6) ∧ w < T) ∨ ((d = 2 ∨ d = 7) ∧ w < 6) ∨ ((3 ≤ d ∧ d ≤ 5) ∧ w < S)) := by
  have f := zCw_f S T d
  have a := v.1
  omega
theorem zCo_k {T : Int} {r a : Nat} {g g' : zi_M} {i0 y : Int} (F : zk_fr (fr_World_carryOut r) g g') (ha : a = 4 ∨ (8 ≤ a ∧ a ≤ 11)) (e4 : g' (r + 4) = zi_u g (r + a) i0 y (r + 4)) (e8 : g' (r + 8) = zi_u g (r + a) i0 y (r + 8)) (e9 : g' (r + 9) = zi_u g (r + a) i0 y (r + 9)) (e10 : g' (r + 10) = zi_u g (r + a) i0 y (r + 10)) (e11 : g' (r + 11) = zi_u g (r + a) i0 y (r + 11)) : zVC T r g' = zVC T r (zi_u g (r + a) i0 y) := zVC_c (fun b i hb => by
  by_cases q4 : b = r + 4
  · rw [q4, e4]
  · by_cases q8 : b = r + 8
    · rw [q8, e8]
    · by_cases q9 : b = r + 9
      · rw [q9, e9]
      · by_cases q10 : b = r + 10
        · rw [q10, e10]
        · by_cases q11 : b = r + 11
          · rw [q11, e11]
          · rw [zi_u_ne (by omega)]
            exact F b i (fun w => by unfold fr_World_carryOut at w; omega))
theorem zCo_V {S T d w x : Int} {r : Nat} (hr : zs_sh r = some (10, 20)) {g g' : zi_M} (v : zPa S T d w x) (hS : S ≤ 10) (hT : T ≤ 8) (h : zCo r g g' d w x) (F : zk_fr (fr_World_carryOut r) g g') : zVC T r g' = zAc (zVC T r g) d w x := by
  have hb := zs_wb hr
  have z := zPa_d v
  obtain ⟨h4, h8, h9, h10, h11⟩ := h
  rcases (show d = 0 ∨ d = 1 ∨ d = 2 ∨ d = 3 ∨ d = 4 ∨ d = 5 ∨ d = 6 ∨ d = 7 by omega) with e | e | e | e | e | e | e | e <;> subst e
  · rw [if_neg (by decide), if_neg (by decide), if_neg (by decide)] at h4
    rw [if_neg (by decide)] at h8
    rw [if_pos (by decide)] at h9
    rw [if_neg (by decide)] at h10
    rw [if_neg (by decide)] at h11
    rw [zCo_k (T := T) (a := 9) (i0 := w) (y := x) F (by decide) (by rw [h4, zi_u_row (by omega)]) (by rw [h8, zi_u_row (by omega)]) (by rw [h9, zup_u]) (by rw [h10, zi_u_row (by omega)]) (by rw [h11, zi_u_row (by omega)]), zV_at hb ⟨by omega, by omega⟩ (by omega)]
    unfold zAc
    rw [if_pos (by decide)]
  · rw [if_neg (by decide), if_neg (by decide), if_neg (by decide)] at h4
    rw [if_neg (by decide)] at h8
    rw [if_neg (by decide), if_pos (by decide)] at h9
    rw [if_neg (by decide)] at h10
    rw [if_neg (by decide)] at h11
    rw [zCo_k (T := T) (a := 9) (i0 := w) (y := (-1)) F (by decide) (by rw [h4, zi_u_row (by omega)]) (by rw [h8, zi_u_row (by omega)]) (by rw [h9, zup_u]) (by rw [h10, zi_u_row (by omega)]) (by rw [h11, zi_u_row (by omega)]), zV_at hb ⟨by omega, by omega⟩ (by omega)]
    unfold zAc
    rw [if_neg (by decide), if_pos (by decide)]
    rfl
  · rw [if_neg (by decide), if_neg (by decide), if_neg (by decide)] at h4
    rw [if_neg (by decide)] at h8
    rw [if_neg (by decide), if_neg (by decide)] at h9
    rw [if_pos (by decide)] at h10
    rw [if_neg (by decide)] at h11
    rw [zCo_k (T := T) (a := 10) (i0 := w) (y := x) F (by decide) (by rw [h4, zi_u_row (by omega)]) (by rw [h8, zi_u_row (by omega)]) (by rw [h9, zi_u_row (by omega)]) (by rw [h10, zup_u]) (by rw [h11, zi_u_row (by omega)]), zV_jar hb ⟨by omega, by omega⟩]
    unfold zAc
    rw [if_neg (by decide), if_neg (by decide), if_pos (by decide)]
  · rw [if_pos (by decide)] at h4
    rw [if_neg (by decide)] at h8
    rw [if_neg (by decide), if_neg (by decide)] at h9
    rw [if_neg (by decide)] at h10
    rw [if_neg (by decide)] at h11
    rw [zCo_k (T := T) (a := 4) (i0 := w) (y := 1) F (by decide) (by rw [h4, zup_u]) (by rw [h8, zi_u_row (by omega)]) (by rw [h9, zi_u_row (by omega)]) (by rw [h10, zi_u_row (by omega)]) (by rw [h11, zi_u_row (by omega)]), zV_mouth hb ⟨by omega, by omega⟩]
    unfold zAc
    rw [if_neg (by decide), if_neg (by decide), if_neg (by decide), if_pos (by decide)]
  · rw [if_neg (by decide), if_pos (by decide)] at h4
    rw [if_neg (by decide)] at h8
    rw [if_neg (by decide), if_neg (by decide)] at h9
    rw [if_neg (by decide)] at h10
    rw [if_neg (by decide)] at h11
    rw [zCo_k (T := T) (a := 4) (i0 := w) (y := 2) F (by decide) (by rw [h4, zup_u]) (by rw [h8, zi_u_row (by omega)]) (by rw [h9, zi_u_row (by omega)]) (by rw [h10, zi_u_row (by omega)]) (by rw [h11, zi_u_row (by omega)]), zV_mouth hb ⟨by omega, by omega⟩]
    unfold zAc
    rw [if_neg (by decide), if_neg (by decide), if_neg (by decide), if_neg (by decide), if_pos (by decide)]
  · rw [if_neg (by decide), if_neg (by decide), if_pos (by decide)] at h4
    rw [if_neg (by decide)] at h8
    rw [if_neg (by decide), if_neg (by decide)] at h9
    rw [if_neg (by decide)] at h10
    rw [if_neg (by decide)] at h11
    rw [zCo_k (T := T) (a := 4) (i0 := w) (y := 0) F (by decide) (by rw [h4, zup_u]) (by rw [h8, zi_u_row (by omega)]) (by rw [h9, zi_u_row (by omega)]) (by rw [h10, zi_u_row (by omega)]) (by rw [h11, zi_u_row (by omega)]), zV_mouth hb ⟨by omega, by omega⟩]
    unfold zAc
    rw [if_neg (by decide), if_neg (by decide), if_neg (by decide), if_neg (by decide), if_neg (by decide), if_pos (by decide)]
  · rw [if_neg (by decide), if_neg (by decide), if_neg (by decide)] at h4
    rw [if_pos (by decide)] at h8
    rw [if_neg (by decide), if_neg (by decide)] at h9
    rw [if_neg (by decide)] at h10
    rw [if_neg (by decide)] at h11
    rw [zCo_k (T := T) (a := 8) (i0 := w) (y := (zi_or (g (r + 8) w) (zi_shl 1 x))) F (by decide) (by rw [h4, zi_u_row (by omega)]) (by rw [h8, zup_u]) (by rw [h9, zi_u_row (by omega)]) (by rw [h10, zi_u_row (by omega)]) (by rw [h11, zi_u_row (by omega)]), zV_kn hb ⟨by omega, by omega⟩]
    unfold zAc
    rw [show zVC T r g (236 + w) = g (r + 8) w from (zVC_rd (T := T) (r := r) (g := g)).2.2.2.2.2.2.2.2.2.2.1 w (by omega) (by omega)]
    rw [if_neg (by decide), if_neg (by decide), if_neg (by decide), if_neg (by decide), if_neg (by decide), if_neg (by decide), if_pos (by decide)]
  · rw [if_neg (by decide), if_neg (by decide), if_neg (by decide)] at h4
    rw [if_neg (by decide)] at h8
    rw [if_neg (by decide), if_neg (by decide)] at h9
    rw [if_neg (by decide)] at h10
    rw [if_pos (by decide)] at h11
    rw [zCo_k (T := T) (a := 11) (i0 := w) (y := 0) F (by decide) (by rw [h4, zi_u_row (by omega)]) (by rw [h8, zi_u_row (by omega)]) (by rw [h9, zi_u_row (by omega)]) (by rw [h10, zi_u_row (by omega)]) (by rw [h11, zup_u]), zV_ca hb ⟨by omega, by omega⟩]
    unfold zAc
    rw [if_neg (by decide), if_neg (by decide), if_neg (by decide), if_neg (by decide), if_neg (by decide), if_neg (by decide), if_neg (by decide), if_pos (by decide)]
/-- the plan: its first n lines -/
noncomputable def zPp (r : Nat) (n : Int) (g0 g : zi_M) : Prop := zVC (g0 r 11) r g = zpn (g0 r 8) (g0 r 11) (g0 32) (g0 33) (g0 34) (g0 35) n.toNat (zVC (g0 r 11) r g0)
theorem zPp_0 {r : Nat} {g : zi_M} : zPp r 0 g g := rfl
noncomputable def zPfr (r : Nat) (g0 g : zi_M) : Prop := (∀ (a : Nat) (i : Int), (19 ≤ a ∧ a ≤ 35 ∧ ¬ a = 27 ∧ ¬ a = 28) ∨ (r + 1 ≤ a ∧ a ≤ r + 3) → g a i = g0 a i) ∧ g r 0 = g0 r 0 ∧ g r 8 = g0 r 8 ∧ g r 11 = g0 r 11
theorem zPfr_of {r : Nat} (hr : zs_sh r = some (10, 20)) {g0 g : zi_M} (F : zk_fr (fr_DayRun_pass r) g0 g) : zPfr r g0 g := by
  have hb := zs_wb hr
  exact ⟨fun a i h => F a i (fun w => by unfold fr_DayRun_pass at w; omega), F r 0 (fun w => by unfold fr_DayRun_pass at w; omega), F r 8 (fun w => by unfold fr_DayRun_pass at w; omega), F r 11 (fun w => by unfold fr_DayRun_pass at w; omega)⟩
theorem zPp_n {r : Nat} {g0 g : zi_M} {n : Int} (h : zPp r n g0 g) (f : zPfr r g0 g) (n0 : 0 ≤ n) (c : ¬ g 32 n = g r 17) : zPp r (n + 1) g0 g := by
  have e : zVC (g0 r 11) r g = _ := h
  have v0 := (zVC_rd (T := g0 r 11) (r := r) (g := g)).1
  unfold zPp
  rw [show (n + 1).toNat = n.toNat + 1 by omega]
  show _ = zite _ _ _
  rw [← e, show ((n.toNat : Nat) : Int) = n by omega, v0, zite_n (fun q => c (by rw [f.1 32 n (by omega)]; exact q.1))]
theorem zPp_s {r : Nat} (hr : zs_sh r = some (10, 20)) {g0 g g7 : zi_M} {n : Int} (I0 : zk_I g0) (h : zPp r n g0 g) (f : zPfr r g0 g) (n0 : 0 ≤ n) (c : g 32 n = g r 17) (k1 : zPa (g r 8) (g r 11) (g 33 n) (g 34 n) (g 35 n) → zCo r g g7 (g 33 n) (g 34 n) (g 35 n)) (k2 : ¬ zPa (g r 8) (g r 11) (g 33 n) (g 34 n) (g 35 n) → g7 = g) (F : zk_fr (fr_World_carryOut r) g g7) : zPp r (n + 1) g0 g7 := by
  have e : zVC (g0 r 11) r g = _ := h
  have v0 := (zVC_rd (T := g0 r 11) (r := r) (g := g)).1
  have b8 := zk_c10_8 hr I0
  have b11 := zk_c10_11 hr I0
  rw [f.2.2.1, f.2.2.2, f.1 33 n (by omega), f.1 34 n (by omega), f.1 35 n (by omega)] at k1 k2
  unfold zPp
  rw [show (n + 1).toNat = n.toNat + 1 by omega]
  show _ = zite _ _ _
  rw [← e, show ((n.toNat : Nat) : Int) = n by omega, v0]
  by_cases q : zPa (g0 r 8) (g0 r 11) (g0 33 n) (g0 34 n) (g0 35 n)
  · rw [zite_p ⟨by rw [← f.1 32 n (by omega)]; exact c, q⟩]
    exact zCo_V hr q b8.2 b11.2 (k1 q) F
  · rw [zite_n (fun w => q w.2), k2 q]
noncomputable def zPE (r : Nat) (g0 g : zi_M) : Prop := zVC (g0 r 11) r g = zpn (g0 r 8) (g0 r 11) (g0 32) (g0 33) (g0 34) (g0 35) (g0 19 10).toNat (zVC (g0 r 11) r g0)
theorem zPp_x {r : Nat} {g0 g : zi_M} {n : Int} (h : zPp r n g0 g) (e : n = g0 19 10) : zPE r g0 g := by
  rw [e] at h
  exact h
/-- what the class's day starts from -/
noncomputable def zPf (r : Nat) (g0 : zi_M) : Int → Int := zpn (g0 r 8) (g0 r 11) (g0 32) (g0 33) (g0 34) (g0 35) (g0 19 10).toNat (zVC (g0 r 11) r g0)
/-- weather has come: v the rain told for that day -/
noncomputable def zPr (r : Nat) (g0 g : zi_M) : Prop := ∃ v : Int, zWo (g0 30) (g0 31) (g0 19 5) (zPf r g0 0) v ∧ zVC (g0 r 11) r g = zwr v (zPf r g0)
theorem zPr_w {r : Nat} {g0 g : zi_M} {v l : Int} (h : zPE r g0 g) (f : zPfr r g0 g) (w : zWo (g 30) (g 31) (g 19 5) (g r 17) v) : zWo (g0 30) (g0 31) (g0 19 5) (zPf r g0 0) v := by
  have v0 := (zVC_rd (T := g0 r 11) (r := r) (g := g)).1
  have e : zPf r g0 = zVC (g0 r 11) r g := h.symm
  rw [e, v0, ← f.1 19 5 (by omega), show g0 30 = g 30 from funext fun i => (f.1 30 i (by omega)).symm, show g0 31 = g 31 from funext fun i => (f.1 31 i (by omega)).symm]
  exact w
theorem zPr_n {r : Nat} {g0 g : zi_M} {v : Int} (h : zPE r g0 g) (f : zPfr r g0 g) (w : zWo (g 30) (g 31) (g 19 5) (g r 17) v) (c : v = -1) : zPr r g0 g := ⟨v, zPr_w (l := 0) h f w, by
  unfold zwr
  rw [zite_n (fun q => q c)]
  exact h⟩
theorem zPr_y {r : Nat} (hr : zs_sh r = some (10, 20)) {g0 g g26 : zi_M} {v : Int} (h : zPE r g0 g) (f : zPfr r g0 g) (w : zWo (g 30) (g 31) (g 19 5) (g r 17) v) (c : ¬ v = -1) (e : g26 = zi_u g r 14 v) : zPr r g0 g26 := ⟨v, zPr_w (l := 0) h f w, by
  unfold zwr
  rw [zite_p c, e, zV_rain (zs_wb hr), show zVC (g0 r 11) r g = zPf r g0 from h]⟩
/-- the day behind -/
noncomputable def zPD (r : Nat) (g0 g : zi_M) : Prop := zGv r g0 → ∃ v : Int, zWo (g0 30) (g0 31) (g0 19 5) (zPf r g0 0) v ∧ zVC (g0 r 11) r g = zde (zdw (g0 r 0) (zLc g0 r) (zeg g0) (g0 r 8).toNat (g0 r 11).toNat (zwr v (zPf r g0)))
theorem zPfr_g {r : Nat} {g0 g : zi_M} (f : zPfr r g0 g) : zLc g r = zLc g0 r ∧ zeg g = zeg g0 ∧ (zGv r g0 → zGv r g) :=
  ⟨zLc_c (f.1 20 7 (by omega)) (fun a i q => f.1 a i (by omega)), funext fun p => zeg_c (fun i => f.1 29 i (by omega)) p, fun v i i0 i1 => by rw [f.1 29 i (by omega), f.2.2.1]; exact v i i0 i1⟩
theorem zPD_e {r : Nat} (hr : zs_sh r = some (10, 20)) {g0 g g18 g20 : zi_M} (h : zPr r g0 g) (k : zGv r g0 → ∀ F : Int → Int, zVC (g0 r 11) r g = F → zVC (g0 r 11) r g18 = zdw (g0 r 0) (zLc g0 r) (zeg g0) (g0 r 8).toNat (g0 r 11).toNat F) (e : g20 = zi_u g18 r 17 (zi_w (g18 r 17 + 1))) : zPD r g0 g20 := fun v => by
  obtain ⟨u, w, z⟩ := h
  refine ⟨u, w, ?_⟩
  have x := k v _ z
  rw [e, zV_day (zs_wb hr), x]
  unfold zde
  rw [← x, (zVC_rd (T := g0 r 11) (r := r) (g := g18)).1]
theorem zPD_w {r : Nat} (hr : zs_sh r = some (10, 20)) {g0 g g18 g20 : zi_M} (h : zPr r g0 g) (f : zPfr r g0 g) (c : ¬ g r 14 = 0) (k : zWY r g g18) (e : g20 = zi_u g18 r 17 (zi_w (g18 r 17 + 1))) : zPD r g0 g20 := zPD_e hr h (fun v F hF => by
  have o := zPfr_g f
  have v3 := (zVC_rd (T := g0 r 11) (r := r) (g := g)).2.2.2.1
  unfold zdw
  rw [← hF, v3, zite_n c, k (o.2.2 v) (g0 r 11), f.2.1, o.1, o.2.1, f.2.2.1]) e
theorem zPD_d {r : Nat} (hr : zs_sh r = some (10, 20)) {g0 g g18 g20 : zi_M} (h : zPr r g0 g) (f : zPfr r g0 g) (c : g r 14 = 0) (k : zDF r g g18) (e : g20 = zi_u g18 r 17 (zi_w (g18 r 17 + 1))) : zPD r g0 g20 := zPD_e hr h (fun v F hF => by
  have o := zPfr_g f
  have v3 := (zVC_rd (T := g0 r 11) (r := r) (g := g)).2.2.2.1
  unfold zdw
  have kk : zVC (g r 11) r g18 = _ := k
  rw [f.2.2.2, f.2.1, o.1, f.2.2.1] at kk
  rw [← hF, v3, zite_p c]
  exact kk) e
