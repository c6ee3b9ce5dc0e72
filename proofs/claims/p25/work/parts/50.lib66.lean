-- SAID, counted over days
theorem zi_w_k (x : Int) : ∃ k : Int, zi_w x = x + 4294967296 * k := by
  have h : (Int32.ofInt x).toInt = x.bmod (2 ^ 32) := by
    rw [Int32.toInt_ofInt]; first | done | rfl
  have e : zi_w x = x.bmod (2 ^ 32) := h
  rw [Int.bmod_def] at e
  exact ⟨(zi_w x - x) / 4294967296, by omega⟩
theorem zi_w_m {a b : Int} (k : Int) (h : a = b + 4294967296 * k) : zi_w a = zi_w b := by
  obtain ⟨p, hp⟩ := zi_w_k a
  obtain ⟨q, hq⟩ := zi_w_k b
  have r1 : -2147483648 ≤ zi_w a ∧ zi_w a ≤ 2147483647 := zi_r_w a
  have r2 : -2147483648 ≤ zi_w b ∧ zi_w b ≤ 2147483647 := zi_r_w b
  omega
theorem zi_w_0 {a b : Int} (h : a = b) : 0 = zi_w (a - b) := by
  rw [h, show b - b = 0 by omega]
  exact (zi_w_id ⟨by decide, by decide⟩).symm
theorem zi_w_a {a b c : Int} : zi_w (zi_w (a - c) + zi_w (b - a)) = zi_w (b - c) := by
  obtain ⟨p, hp⟩ := zi_w_k (a - c)
  obtain ⟨q, hq⟩ := zi_w_k (b - a)
  exact zi_w_m (p + q) (by omega)
theorem zMa_4 {g g1 : zi_M} (F : zk_fr fr_M_acts g g1) : g1 215 4 = g 215 4 := F 215 4 (fun w => by unfold fr_M_acts at w; omega)
theorem zMu_4 {g g1 : zi_M} {v : Int} (e : g1 = zi_u g 215 3 v) : g1 215 4 = g 215 4 := by rw [e]; exact zi_u_ni (by decide)
theorem zMd_4 {g g1 : zi_M} (F : zk_fr fr_M_isDry g g1) : g1 215 4 = g 215 4 := F 215 4 (fun w => by unfold fr_M_isDry at w; omega)
theorem zMw_4 {v : Int} {g0 g g30 : zi_M} (h : g 215 4 = g0 215 4) (k : v = zi_w (g30 215 4 - g 215 4)) : v = zi_w (g30 215 4 - g0 215 4) := by
  rw [← h]
  exact k
theorem zMu_v {l x : Int} {g0 g g27 : zi_M} (h : l = zi_w (g 215 4 - g0 215 4)) (e : g27 = zi_u g 215 0 x) : l = zi_w (g27 215 4 - g0 215 4) := by
  rw [e, zi_u_ni (by decide)]
  exact h
theorem zMs_0 {g0 g1 : zi_M} {v : Int} (e : g1 = zi_u g0 214 0 v) : 0 = zi_w (g1 215 4 - g0 215 4) := zi_w_0 (by rw [e, zi_u_ne (by decide)])
theorem zMs_s {l v : Int} {g0 g g8 g11 : zi_M} (h : l = zi_w (g 215 4 - g0 215 4)) (F : zk_fr fr_M_keepsAhead g g8) (k : v = zi_w (g11 215 4 - g8 215 4)) : zi_w (l + v) = zi_w (g11 215 4 - g0 215 4) := by
  rw [h, k, F 215 4 (fun w => by unfold fr_M_keepsAhead at w; omega)]
  exact zi_w_a
theorem zDu {g g1 : zi_M} {v l n : Int} (e : g1 = zi_u g 214 0 v) (h : n < zi_w (g1 215 0 + l)) : n < zi_w (g 215 0 + l) := by
  rw [e, zi_u_ne (by decide)] at h
  exact h
theorem zDu2 {g g1 : zi_M} {v l n : Int} (e : g1 = zi_u g 214 0 v) (h : zi_w (g1 215 0 + l) ≤ n) : zi_w (g 215 0 + l) ≤ n := by
  rw [e, zi_u_ne (by decide)] at h
  exact h
