-- a wet day, the other side: frames, counts, what waits, the end
theorem zWfr_of {r : Nat} (hr : zs_sh r = some (10, 20)) {g0 g : zi_M} (F : zk_fr (fr_DayRun_passWet r) g0 g) : zWfr r g0 g := by
  have hb := zs_wb hr
  exact ⟨fun a i h => F a i (fun w => by unfold fr_DayRun_passWet at w; omega), F 20 7 (fun w => by unfold fr_DayRun_passWet at w; omega), F r 0 (fun w => by unfold fr_DayRun_passWet at w; omega), F r 8 (fun w => by unfold fr_DayRun_passWet at w; omega), F r 14 (fun w => by unfold fr_DayRun_passWet at w; omega)⟩
theorem zWx_c {r : Nat} (hr : zs_sh r = some (10, 20)) {g g16 : zi_M} {p : Int} (I : zk_I g) (hp : 0 ≤ p ∧ p ≤ 9) (hs : p < g r 8) (c : 1 ≤ g (r + 6) p) (k : zSF r p g g16) : g16 (r + 6) p = g (r + 6) p - 1 := by
  have e := congrFun (k hs c 0) (26 + p)
  have b6 := zk_a10_6 hr I p
  have b19 := zk_c10_19 hr I
  have b2 : 0 ≤ g 177 2 ∧ g 177 2 ≤ 90 := I.1 177 2
  rw [zVC_hc hp] at e
  rw [e]
  unfold zsy
  have v2 := (zVC_rd (T := 0) (r := r) (g := g)).2.2.1
  have vw := (zVC_rw (T := 0) (r := r) (g := g)).1
  have vc := zVC_hc (T := 0) (r := r) (g := g) hp
  rw [zsb_c hp (by rw [zsf_o (by omega) (by omega), vc]; exact b6.2) (by rw [zsf_o (by omega) (by omega), v2]; exact b19.1) (by rw [zsf_o (by omega) (by omega), vw]; exact b2.1), zsf_o (by omega) (by omega), vc]
noncomputable def zWX (r : Nat) (g0 g : zi_M) : Prop := zGv r g0 → zWv r g0 g
theorem zWx_v {r : Nat} (hr : zs_sh r = some (10, 20)) {g0 g g16 : zi_M} {p : Int} (I : zk_I g) (h : zWX r g0 g) (f : zWfr r g0 g) (hp : 0 ≤ p ∧ p ≤ 9) (hs : p < g0 r 8) (c : 1 ≤ g (r + 6) p) (k : zSF r p g g16) (I16 : zk_I g16) : zWX r g0 g16 := fun v => by
  have hv := h v
  have e := k (by rw [f.2.2.2.1]; exact hs) c 0
  have b6 := zk_a10_6 hr I p
  have b19 := zk_c10_19 hr I
  have b2 : 0 ≤ g 177 2 ∧ g 177 2 ≤ 90 := I.1 177 2
  have b16 : 0 ≤ g16 177 2 ∧ g16 177 2 ≤ 90 := I16.1 177 2
  have v2 := (zVC_rd (T := 0) (r := r) (g := g)).2.2.1
  have vw := (zVC_rw (T := 0) (r := r) (g := g)).1
  have vj := (zVC_rw (T := 0) (r := r) (g := g)).2.1
  have ww := (zVC_rw (T := 0) (r := r) (g := g16)).1
  have wj := (zVC_rw (T := 0) (r := r) (g := g16)).2.1
  have vc := zVC_hc (T := 0) (r := r) (g := g) hp
  unfold zsy at e
  obtain ⟨y1, y2⟩ := zsb_w (th := g r 0) (i := zeg g p) (p := p) (w := zsw (g r 0) (zLc g r 2 p (zVC 0 r g (36 + 20 * p)) (zVC 0 r g)) (zVC 0 r g (36 + 20 * p)) (zVC 0 r g)) (f := zsf (g r 0) (zLc g r 2 p (zVC 0 r g (36 + 20 * p)) (zVC 0 r g)) (zVC 0 r g)) hp (by rw [zsf_o (by omega) (by omega), vc]; exact b6.2) (by rw [zsf_o (by omega) (by omega), v2]; exact b19.1) (by rw [zsf_o (by omega) (by omega), vw]; exact b2.1)
  rw [← e, zsf_o (by omega) (by omega), vw] at y1 y2
  rw [ww] at y1
  have old : ∀ j : Int, 0 ≤ j → j < g 177 2 → g16 179 j < g0 r 8 := fun j j0 j1 => by
    have z := y2 j j0 j1 (by omega)
    rw [wj j j0 (by omega), zsf_o (by omega) (by omega), vj j j0 (by omega)] at z
    rw [z]
    exact hv j j0 j1
  intro j j0 j1
  rcases y1 with y | ⟨y, ye⟩
  · exact old j j0 (by omega)
  · by_cases q : j < g 177 2
    · exact old j j0 q
    · rw [wj (g 177 2) b2.1 (by omega)] at ye
      rw [show j = g 177 2 by omega, ye, zWfr_g f]
      have gv := v p hp.1 hp.2
      have ge : zeg g0 p = g0 29 p := by unfold zeg; rw [if_pos (by omega)]
      rw [ge]
      exact gv
theorem zWx_0 {r : Nat} {g g1 : zi_M} (e : g1 = zi_u g 177 2 0) : zWX r g g1 := fun _ j j0 j1 => by
  rw [e, zi_u_eq] at j1
  omega
theorem zWx_k {r : Nat} {g0 g g8 : zi_M} (h : zWX r g0 g) (F : zk_fr (fr_Law_tells r) g g8) (hr : zs_sh r = some (10, 20)) : zWX r g0 g8 := fun v j j0 j1 => by
  have hb := zs_wb hr
  rw [F 179 j (fun w => by unfold fr_Law_tells at w; omega)]
  exact h v j j0 (by rw [← F 177 2 (fun w => by unfold fr_Law_tells at w; omega)]; exact j1)
/-- the reset of the dry days -/
noncomputable def zWe (r : Nat) (n : Int) (g0 g : zi_M) : Prop := zGv r g0 → ∀ T : Int, zVC T r g = zdz n.toNat (zwl (g0 r 0) (zwp (g0 r 0) (zLc g0 r) (zeg g0) (g0 r 8).toNat (zup (zVC T r g0) 2000 0)))
noncomputable def zWQ (r : Nat) (g0 g : zi_M) : Prop := zWp r (g0 r 8) g0 g
theorem zWp_x {r : Nat} {g0 g : zi_M} {p : Int} (h : zWp r p g0 g) (e : p = g0 r 8) : zWQ r g0 g := by
  rw [e] at h
  exact h
theorem zWe_0 {r : Nat} {g0 g g25 : zi_M} (h : zWQ r g0 g) (hv : zWX r g0 g) (f : zWfr r g0 g) (k : zWL r g g25) : zWe r 0 g0 g25 := fun v T => by
  have w : zWv r g g := fun j j0 j1 => by rw [f.2.2.2.1]; exact hv v j j0 j1
  rw [k w T, f.2.2.1, h T]
  rfl
theorem zWe_s {r : Nat} (hr : zs_sh r = some (10, 20)) {g0 g g30 : zi_M} {n : Int} (h : zWe r n g0 g) (n0 : 0 ≤ n) (n1 : n < 10) (e : g30 = zi_u g (r + 5) n 0) : zWe r (n + 1) g0 g30 := fun v T => by
  rw [e, zV_dry (zs_wb hr) ⟨n0, n1⟩, h v T, show (n + 1).toNat = n.toNat + 1 by omega]
  show _ = zup _ _ _
  rw [show ((n.toNat : Nat) : Int) = n by omega]
/-- a wet day -/
noncomputable def zWY (r : Nat) (g0 g : zi_M) : Prop := zGv r g0 → ∀ T : Int, zVC T r g = zwy (g0 r 0) (zLc g0 r) (zeg g0) (g0 r 8).toNat (zVC T r g0)
theorem zWe_x {r : Nat} {g0 g : zi_M} {n : Int} (h : zWe r n g0 g) (e : n = g0 r 8) : zWY r g0 g := by
  rw [e] at h
  exact h
theorem zk_r177 {g : zi_M} (I : zk_I g) : 0 ≤ g 177 2 ∧ g 177 2 ≤ 90 := I.1 177 2
theorem zk_r19 {g : zi_M} (I : zk_I g) : 0 ≤ g 19 10 ∧ g 19 10 ≤ 16 := I.1 19 10
