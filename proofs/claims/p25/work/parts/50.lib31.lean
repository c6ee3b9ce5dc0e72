-- WALKS over tokens. T: kinds, values, places, how many
abbrev zyT : Type := (Int → Int) × (Int → Int) × (Int → Int) × Int
/-- END is the last one alone; numbers are not below 0 -/
noncomputable def zyE (T : zyT) : Prop := (1 ≤ T.2.2.2 ∧ T.2.2.2 ≤ 401) ∧ T.1 (T.2.2.2 - 1) = 4 ∧ (∀ t : Int, 0 ≤ t → t < T.2.2.2 - 1 → ¬ T.1 t = 4) ∧ ∀ t : Int, 0 ≤ t → t < T.2.2.2 → T.1 t = 1 → 0 ≤ T.2.1 t
/-- the class stands at token t, no fault is told -/
noncomputable def zyC (T : zyT) (g : zi_M) (t : Int) : Prop := (g 192 = T.1 ∧ g 193 = T.2.1 ∧ g 194 = T.2.2.1 ∧ g 191 3 = T.2.2.2) ∧ (g 191 4 = t ∧ 0 ≤ t ∧ t < T.2.2.2) ∧ g 191 5 = 0 ∧ g 191 6 = -1
noncomputable def zyF (T : zyT) (g : zi_M) (e t : Int) : Prop := g 191 5 = e ∧ g 191 6 = T.2.2.1 t
/-- the reference stands there -/
noncomputable def zyR (r : Nat) (T : zyT) (g : zi_M) (t : Int) : Prop := zSp r (g 222) (g 214 13) T.1 T.2.1 T.2.2.1 T.2.2.2 ∧ (0 ≤ t ∧ t < T.2.2.2) ∧ g 214 15 = T.2.2.1 t ∧ ∃ p : Int, zTn (g 222) (g 214 13) p (T.2.2.1 t) (g 214 14) (g 214 16) (g 214 17)
noncomputable def zyG (T : zyT) (g : zi_M) (e t : Int) : Prop := g 214 31 = e ∧ g 214 32 = T.2.2.1 t
/-- what a token is worth: 0 right, else the fault -/
noncomputable def zyN (T : zyT) (b t : Int) : Int := if T.1 t = 1 then (if T.2.1 t < b then 0 else 2) else 1
noncomputable def zyK (T : zyT) (k j t : Int) : Int := if T.1 t = k ∧ T.2.1 t = j then 0 else 1
noncomputable def zyL (T : zyT) (j n t : Int) : Int := if T.1 t = 2 ∧ T.2.1 t = j then (if n < 16 then 0 else 3) else 1
noncomputable def zyS (T : zyT) (g : zi_M) (t e : Int) : Prop := (e = 0 → zyC T g (t + 1)) ∧ (¬ e = 0 → zyF T g e t)
noncomputable def zyQ (r : Nat) (T : zyT) (g : zi_M) (t e : Int) : Prop := (e = 0 → zyR r T g (t + 1)) ∧ (¬ e = 0 → zyG T g e t)
theorem zyK_0 {T : zyT} {k j t : Int} : zyK T k j t = 0 ↔ T.1 t = k ∧ T.2.1 t = j := by
  unfold zyK
  by_cases h : T.1 t = k ∧ T.2.1 t = j
  · rw [if_pos h]; exact ⟨fun _ => h, fun _ => rfl⟩
  · rw [if_neg h]; exact ⟨fun q => absurd q (by decide), fun q => absurd q h⟩
theorem zyK_1 {T : zyT} {k j t : Int} (h : ¬ (T.1 t = k ∧ T.2.1 t = j)) : zyK T k j t = 1 := by unfold zyK; rw [if_neg h]
theorem zyN_0 {T : zyT} {b t : Int} : zyN T b t = 0 ↔ T.1 t = 1 ∧ T.2.1 t < b := by
  unfold zyN
  by_cases h : T.1 t = 1
  · rw [if_pos h]
    by_cases q : T.2.1 t < b
    · rw [if_pos q]; exact ⟨fun _ => ⟨h, q⟩, fun _ => rfl⟩
    · rw [if_neg q]; exact ⟨fun z => absurd z (by decide), fun z => absurd z.2 q⟩
  · rw [if_neg h]; exact ⟨fun q => absurd q (by decide), fun q => absurd q.1 h⟩
theorem zyN_1 {T : zyT} {b t : Int} (h : ¬ T.1 t = 1) : zyN T b t = 1 := by unfold zyN; rw [if_neg h]
theorem zyN_2 {T : zyT} {b t : Int} (h : T.1 t = 1) (q : ¬ T.2.1 t < b) : zyN T b t = 2 := by unfold zyN; rw [if_pos h, if_neg q]
theorem zyL_0 {T : zyT} {j n t : Int} : zyL T j n t = 0 ↔ (T.1 t = 2 ∧ T.2.1 t = j) ∧ n < 16 := by
  unfold zyL
  by_cases h : T.1 t = 2 ∧ T.2.1 t = j
  · rw [if_pos h]
    by_cases q : n < 16
    · rw [if_pos q]; exact ⟨fun _ => ⟨h, q⟩, fun _ => rfl⟩
    · rw [if_neg q]; exact ⟨fun z => absurd z (by decide), fun z => absurd z.2 q⟩
  · rw [if_neg h]; exact ⟨fun q => absurd q (by decide), fun q => absurd q.1 h⟩
theorem zyL_1 {T : zyT} {j n t : Int} (h : ¬ (T.1 t = 2 ∧ T.2.1 t = j)) : zyL T j n t = 1 := by unfold zyL; rw [if_neg h]
theorem zyL_3 {T : zyT} {j n t : Int} (h : T.1 t = 2 ∧ T.2.1 t = j) (q : ¬ n < 16) : zyL T j n t = 3 := by unfold zyL; rw [if_pos h, if_neg q]
theorem zyC_a {T : zyT} {g : zi_M} {t : Int} (h : zyC T g t) : g 192 (g 191 4) = T.1 t ∧ g 193 (g 191 4) = T.2.1 t ∧ g 194 (g 191 4) = T.2.2.1 t ∧ g 191 4 < g 191 3 := by
  obtain ⟨⟨h1, h2, h3, h4⟩, ⟨h5, h6, h7⟩, -⟩ := h
  rw [h5, h1, h2, h3]
  exact ⟨rfl, rfl, rfl, by omega⟩
/-- memory that is the same from 191 to 194 -/
theorem zyC_m {T : zyT} {g g' : zi_M} {t : Int} (h : zyC T g t) (e : ∀ (a : Nat) (i : Int), 191 ≤ a → a ≤ 194 → g' a i = g a i) : zyC T g' t := by
  have r : ∀ a : Nat, 191 ≤ a → a ≤ 194 → g' a = g a := fun a h1 h2 => funext (fun i => e a i h1 h2)
  unfold zyC at *
  rw [r 191 (by decide) (by decide), r 192 (by decide) (by decide), r 193 (by decide) (by decide), r 194 (by decide) (by decide)]
  exact h
theorem zyC_u {T : zyT} {g g' : zi_M} {a : Nat} {i v t : Int} (h : zyC T g t) (e : g' = zi_u g a i v) (ha : a < 191 ∨ 194 < a) : zyC T g' t := zyC_m h (fun b k h1 h2 => by rw [e]; exact zi_u_ne (by omega))
theorem zyC_up {T : zyT} {g g' : zi_M} {t : Int} (h : zyC T g t) (e : g' = zi_u g 191 4 (g 191 4 + 1)) (ht : t + 1 < T.2.2.2) : zyC T g' (t + 1) := by
  obtain ⟨⟨h1, h2, h3, h4⟩, ⟨h5, h6, h7⟩, h8, h9⟩ := h
  refine ⟨⟨?_, ?_, ?_, ?_⟩, ⟨?_, by omega, ht⟩, ?_, ?_⟩
  · rw [e, zi_u_row (by decide)]; exact h1
  · rw [e, zi_u_row (by decide)]; exact h2
  · rw [e, zi_u_row (by decide)]; exact h3
  · rw [e, zi_u_ni (by decide)]; exact h4
  · rw [e, zi_u_eq, h5]
  · rw [e, zi_u_ni (by decide)]; exact h8
  · rw [e, zi_u_ni (by decide)]; exact h9
theorem zyC_F {T : zyT} {g g1 g6 : zi_M} {l t : Int} (h : zyC T g t) (e1 : g1 = zi_u g 191 5 l) (e6 : g6 = zi_u g1 191 6 (g1 194 (g1 191 4))) : zyF T g6 l t := by
  have a := zyC_a h
  have m : g1 191 4 = g 191 4 := by rw [e1]; exact zi_u_ni (by decide)
  refine ⟨by rw [e6, zi_u_ni (by decide), e1, zi_u_eq], ?_⟩
  rw [e6, zi_u_eq, m, e1, zi_u_ne (by decide)]
  exact a.2.2.1
theorem zyE_of {r : Nat} {f : Int → Int} {n : Int} {T : zyT} (h : zSp r f n T.1 T.2.1 T.2.2.1 T.2.2.2) (hc : T.2.2.2 ≤ 401) : zyE T := by
  obtain ⟨c1, ⟨i1, i2, i3⟩, h3, h4⟩ := h
  have k : ∀ t : Int, 0 ≤ t → t < T.2.2.2 - 1 → ¬ T.1 t = 4 ∧ (T.1 t = 1 → 0 ≤ T.2.1 t) := fun t t0 t1 => by
    have a := (i1 t t0 t1).2.2
    rcases a with ⟨-, b, -, x⟩ | ⟨-, b, hb, x⟩ | ⟨-, -, x⟩
    · rcases x with ⟨x1, -⟩ | ⟨x1, -⟩
      · exact ⟨by omega, fun q => by omega⟩
      · exact ⟨by omega, fun q => by omega⟩
    · rcases x with ⟨x1, -, x3⟩ | ⟨x1, -⟩
      · exact ⟨by omega, fun _ => by rw [x3]; exact zdec_0 hb⟩
      · exact ⟨by omega, fun q => by omega⟩
    · rcases x with ⟨x1, -⟩ | ⟨x1, -⟩
      · exact ⟨by omega, fun q => by omega⟩
      · exact ⟨by omega, fun q => by omega⟩
  refine ⟨⟨c1, hc⟩, h4, fun t t0 t1 => (k t t0 t1).1, fun t t0 t1 q => ?_⟩
  by_cases e : t < T.2.2.2 - 1
  · exact (k t t0 e).2 q
  · rw [show t = T.2.2.2 - 1 by omega] at q
    omega
/-- kinds and values of both sides -/
theorem zyR_k {r : Nat} (hr : zs_str r) {T : zyT} {g : zi_M} {t : Int} (h : zyR r T g t) : (g 214 16 = 0 ↔ T.1 t = 4) ∧ (g 214 16 = 3 ↔ T.1 t = 1) ∧ (g 214 16 = 4 ↔ T.1 t = 3) ∧ (g 214 16 = 3 ∨ g 214 16 = 4 → g 214 17 = T.2.1 t) ∧ ∀ j : Int, 0 ≤ j → j < zkN r → ((g 214 16 = 2 ∧ g 214 17 = zmp r j) ↔ (T.1 t = 2 ∧ T.2.1 t = j)) := by
  obtain ⟨h1, h2, h3, p, h4⟩ := h
  exact zTC hr h1 h2 h4
/-- the next one -/
theorem zyR_n {r : Nat} {T : zyT} {g g' : zi_M} {t : Int} (h : zyR r T g t) (F : zk_fr fr_M_reads g g') (k : zTn (g 222) (g 214 13) (g 214 14) (g' 214 15) (g' 214 14) (g' 214 16) (g' 214 17)) (ht : t < T.2.2.2 - 1) : zyR r T g' (t + 1) := by
  obtain ⟨h1, h2, h3, p, h4⟩ := h
  have e : g' 214 15 = T.2.2.1 (t + 1) := zNx h1 ⟨h2.1, ht⟩ h4 k
  have en : g' 214 13 = g 214 13 := F 214 13 (by unfold fr_M_reads; omega)
  have ef : g' 222 = g 222 := funext (fun i => F 222 i (by unfold fr_M_reads; omega))
  refine ⟨by rw [ef, en]; exact h1, ⟨by omega, by omega⟩, e, g 214 14, ?_⟩
  rw [ef, en, ← e]
  exact k
theorem zyR_0 {r : Nat} {T : zyT} {g g' : zi_M} (h : zSp r (g 222) (g 214 13) T.1 T.2.1 T.2.2.1 T.2.2.2) (F : zk_fr fr_M_reads g g') (k : zTn (g 222) (g 214 13) 0 (g' 214 15) (g' 214 14) (g' 214 16) (g' 214 17)) : zyR r T g' 0 := by
  have e : g' 214 15 = T.2.2.1 0 := zN0 h k
  have en : g' 214 13 = g 214 13 := F 214 13 (by unfold fr_M_reads; omega)
  have ef : g' 222 = g 222 := funext (fun i => F 222 i (by unfold fr_M_reads; omega))
  refine ⟨by rw [ef, en]; exact h, ⟨Int.le_refl _, by have := h.1; omega⟩, e, 0, ?_⟩
  rw [ef, en, ← e]
  exact k
theorem zyR_m {r : Nat} {T : zyT} {g g' : zi_M} {t : Int} (h : zyR r T g t) (e : ∀ i : Int, g' 222 i = g 222 i) (e2 : ∀ i : Int, 13 ≤ i → i ≤ 17 → g' 214 i = g 214 i) : zyR r T g' t := by
  have ef : g' 222 = g 222 := funext e
  unfold zyR at *
  rw [ef, e2 13 (by decide) (by decide), e2 14 (by decide) (by decide), e2 15 (by decide) (by decide), e2 16 (by decide) (by decide), e2 17 (by decide) (by decide)]
  exact h
theorem zyR_u {r : Nat} {T : zyT} {g g' : zi_M} {a : Nat} {i v t : Int} (h : zyR r T g t) (e : g' = zi_u g a i v) (ha : ¬ a = 222 ∧ ¬ a = 214) : zyR r T g' t := zyR_m h (fun k => by rw [e]; exact zi_u_ne (fun q => ha.1 q.symm)) (fun k _ _ => by rw [e]; exact zi_u_ne (fun q => ha.2 q.symm))
/-- where the first fault (or the end) is -/
noncomputable def zyI (f : Int → Int) (s : Int) : Prop := 0 ≤ s ∧ (∀ i : Int, 0 ≤ i → i < s → f i = 0) ∧ ¬ f s = 0
theorem zyI_u {f : Int → Int} {s t : Int} (h : zyI f s) (k : zyI f t) : s = t := by
  by_cases c : s < t
  · exact absurd (k.2.1 s h.1 c) h.2.2
  · by_cases d : t < s
    · exact absurd (h.2.1 t k.1 d) k.2.2
    · omega
theorem zyI_s {f : Int → Int} {t : Int} (h : ∀ i : Int, 0 ≤ i → i < t → f i = 0) (h0 : f t = 0) : ∀ i : Int, 0 ≤ i → i < t + 1 → f i = 0 := fun i i0 i1 => by
  by_cases e : i = t
  · rw [e]; exact h0
  · exact h i i0 (by omega)
-- WEATHER: five tokens a line
noncomputable def zyW (T : zyT) (t : Int) : Int := if t % 5 = 0 then (if T.1 t = 4 then -1 else zyL T 0 (t / 5) t) else if t % 5 = 1 then zyN T 1000 t else if t % 5 = 2 then zyK T 2 1 t else if t % 5 = 3 then zyN T 10 t else zyK T 3 59 t
theorem zyW_e {T : zyT} {n : Int} (h : T.1 (5 * n) = 4) : zyW T (5 * n) = -1 := by
  unfold zyW
  rw [if_pos (by omega), if_pos h]
theorem zyW_0 {T : zyT} {n : Int} (h : ¬ T.1 (5 * n) = 4) : zyW T (5 * n) = zyL T 0 n (5 * n) := by
  unfold zyW
  rw [if_pos (by omega), if_neg h, show 5 * n / 5 = n by omega]
theorem zyW_1 {T : zyT} {n : Int} : zyW T (5 * n + 1) = zyN T 1000 (5 * n + 1) := by
  unfold zyW
  rw [if_neg (by omega), if_pos (by omega)]
theorem zyW_2 {T : zyT} {n : Int} : zyW T (5 * n + 1 + 1) = zyK T 2 1 (5 * n + 1 + 1) := by
  unfold zyW
  rw [if_neg (by omega), if_neg (by omega), if_pos (by omega)]
theorem zyW_3 {T : zyT} {n : Int} : zyW T (5 * n + 1 + 1 + 1) = zyN T 10 (5 * n + 1 + 1 + 1) := by
  unfold zyW
  rw [if_neg (by omega), if_neg (by omega), if_neg (by omega), if_pos (by omega)]
theorem zyW_4 {T : zyT} {n : Int} : zyW T (5 * n + 1 + 1 + 1 + 1) = zyK T 3 59 (5 * n + 1 + 1 + 1 + 1) := by
  unfold zyW
  rw [if_neg (by omega), if_neg (by omega), if_neg (by omega), if_neg (by omega)]
/-- the lines that were read -/
noncomputable def zyWr (T : zyT) (f h : Int → Int) (n : Int) : Prop := ∀ m : Int, 0 ≤ m → m < n → f m = T.2.1 (5 * m + 1) ∧ h m = T.2.1 (5 * m + 1 + 1 + 1)
theorem zyWr_0 {T : zyT} {f h : Int → Int} : zyWr T f h 0 := fun m m0 m1 => by exfalso; omega
theorem zyWr_s {T : zyT} {f h : Int → Int} {n : Int} (k : zyWr T f h n) : zyWr T (zup f n (T.2.1 (5 * n + 1))) (zup h n (T.2.1 (5 * n + 1 + 1 + 1))) (n + 1) := fun m m0 m1 => by
  by_cases e : m = n
  · rw [e, zup_e, zup_e]; exact ⟨rfl, rfl⟩
  · rw [zup_n e, zup_n e]; exact k m m0 (by omega)
theorem zyN_ne {T : zyT} {b t : Int} : ¬ zyN T b t = -1 := by
  unfold zyN
  split
  · split <;> decide
  · decide
theorem zyK_ne {T : zyT} {k j t : Int} : ¬ zyK T k j t = -1 := by
  unfold zyK
  split <;> decide
theorem zyL_ne {T : zyT} {j n t : Int} : ¬ zyL T j n t = -1 := by
  unfold zyL
  split
  · split <;> decide
  · decide
/-- the tokens that lie in a memory -/
abbrev zyM (g : zi_M) : zyT := (g 192, g 193, g 194, g 191 3)
theorem zyE_lt {T : zyT} (hE : zyE T) {t : Int} (ht : t < T.2.2.2) (hk : ¬ T.1 t = 4) : t < T.2.2.2 - 1 := by
  refine Classical.byContradiction (fun q => hk ?_)
  rw [show t = T.2.2.2 - 1 by omega]
  exact hE.2.1
/-- what reading WEATHER makes -/
noncomputable def zyWo (T : zyT) (g' : zi_M) (v : Int) : Prop := ∃ s : Int, zyI (zyW T) s ∧ (zyW T s = -1 → v = 1 ∧ s = 5 * g' 195 5 ∧ zyWr T (g' 206) (g' 207) (g' 195 5) ∧ g' 191 5 = 0 ∧ g' 191 6 = -1) ∧ (¬ zyW T s = -1 → v = 0 ∧ zyF T g' (zyW T s) s)
noncomputable def zyWx (T : zyT) (g : zi_M) (n : Int) : Prop := ∀ m : Int, 0 ≤ m → m < n → g 233 (32 + 2 * m) = T.2.1 (5 * m + 1) ∧ g 233 (32 + 2 * m + 1) = T.2.1 (5 * m + 1 + 1 + 1)
theorem zyWx_s {T : zyT} {g g6 g9 g12 g15 g18 : zi_M} {n v w : Int} (h : zyWx T g n) (e6 : g6 233 = g 233) (e9 : g9 = zi_u g6 233 (32 + 2 * n) v) (e12 : g12 233 = g9 233) (e15 : g15 = zi_u g12 233 (32 + 2 * n + 1) w) (e18 : g18 233 = g15 233) (hv : v = T.2.1 (5 * n + 1)) (hw : w = T.2.1 (5 * n + 1 + 1 + 1)) : zyWx T g18 (n + 1) := fun m m0 m1 => by
  rw [e18, e15]
  by_cases q : m = n
  · rw [q, zi_u_ni (by omega), zi_u_eq, e12, e9, zi_u_eq]
    exact ⟨hv, hw⟩
  · rw [zi_u_ni (by omega), zi_u_ni (by omega), e12, e9, zi_u_ni (by omega), zi_u_ni (by omega), e6]
    exact h m m0 (by omega)
noncomputable def zyWm (T : zyT) (g' : zi_M) (v : Int) : Prop := ∃ s : Int, zyI (zyW T) s ∧ (zyW T s = -1 → s = 5 * v ∧ zyWx T g' v) ∧ (¬ zyW T s = -1 → v = -1 ∧ zyG T g' (zyW T s) s)
theorem zyk3 : zkN 1000000003 = 2 ∧ zmp 1000000003 0 = 15 ∧ zmp 1000000003 1 = 11 := by decide +kernel
theorem zyk2 : zkN 1000000002 = 2 ∧ zmp 1000000002 0 = 16 ∧ zmp 1000000002 1 = 17 := by decide +kernel
theorem zyk4 : zkN 1000000004 = 9 ∧ zmp 1000000004 0 = 19 ∧ zmp 1000000004 7 = 18 ∧ zmp 1000000004 8 = 20 ∧ ∀ n : Nat, n < 7 → 1 ≤ n → zmp 1000000004 (n : Int) = 20 + (n : Int) := by decide +kernel
/-- a word of the reference -/
theorem zyR_w {r : Nat} (hr : zs_str r) {T : zyT} {g : zi_M} {t j w : Int} (h : zyR r T g t) (hj : 0 ≤ j ∧ j < zkN r) (e : w = zmp r j) : (g 214 16 = 2 ∧ g 214 17 = w) ↔ (T.1 t = 2 ∧ T.2.1 t = j) := by
  rw [e]
  exact (zyR_k hr h).2.2.2.2 j hj.1 hj.2
-- GUTTERS: five tokens a line, sp spouts
noncomputable def zyH (T : zyT) (sp t : Int) : Int := if t % 5 = 0 then (if T.1 t = 4 then -1 else zyL T 0 (t / 5) t) else if t % 5 = 1 then zyN T sp t else if t % 5 = 2 then zyK T 2 1 t else if t % 5 = 3 then (if T.1 t = 1 ∧ T.2.1 t = T.2.1 (t - 1 - 1) then 2 else zyN T sp t) else zyK T 3 59 t
theorem zyH_e {T : zyT} {sp n : Int} (h : T.1 (5 * n) = 4) : zyH T sp (5 * n) = -1 := by
  unfold zyH
  rw [if_pos (by omega), if_pos h]
theorem zyH_0 {T : zyT} {sp n : Int} (h : ¬ T.1 (5 * n) = 4) : zyH T sp (5 * n) = zyL T 0 n (5 * n) := by
  unfold zyH
  rw [if_pos (by omega), if_neg h, show 5 * n / 5 = n by omega]
theorem zyH_1 {T : zyT} {sp n : Int} : zyH T sp (5 * n + 1) = zyN T sp (5 * n + 1) := by
  unfold zyH
  rw [if_neg (by omega), if_pos (by omega)]
theorem zyH_2 {T : zyT} {sp n : Int} : zyH T sp (5 * n + 1 + 1) = zyK T 2 1 (5 * n + 1 + 1) := by
  unfold zyH
  rw [if_neg (by omega), if_neg (by omega), if_pos (by omega)]
theorem zyH_3 {T : zyT} {sp n : Int} : zyH T sp (5 * n + 1 + 1 + 1) = if T.1 (5 * n + 1 + 1 + 1) = 1 ∧ T.2.1 (5 * n + 1 + 1 + 1) = T.2.1 (5 * n + 1) then 2 else zyN T sp (5 * n + 1 + 1 + 1) := by
  unfold zyH
  rw [if_neg (by omega), if_neg (by omega), if_neg (by omega), if_pos (by omega), show 5 * n + 1 + 1 + 1 - 1 - 1 = 5 * n + 1 by omega]
theorem zyH_3s {T : zyT} {sp n : Int} (h : T.1 (5 * n + 1 + 1 + 1) = 1 ∧ T.2.1 (5 * n + 1 + 1 + 1) = T.2.1 (5 * n + 1)) : zyH T sp (5 * n + 1 + 1 + 1) = 2 := by rw [zyH_3, if_pos h]
theorem zyH_3n {T : zyT} {sp n : Int} (h : ¬ (T.1 (5 * n + 1 + 1 + 1) = 1 ∧ T.2.1 (5 * n + 1 + 1 + 1) = T.2.1 (5 * n + 1))) : zyH T sp (5 * n + 1 + 1 + 1) = zyN T sp (5 * n + 1 + 1 + 1) := by rw [zyH_3, if_neg h]
theorem zyH_4 {T : zyT} {sp n : Int} : zyH T sp (5 * n + 1 + 1 + 1 + 1) = zyK T 3 59 (5 * n + 1 + 1 + 1 + 1) := by
  unfold zyH
  rw [if_neg (by omega), if_neg (by omega), if_neg (by omega), if_neg (by omega)]
/-- into which one each leads behind n lines -/
noncomputable def zyHi (T : zyT) : Nat → Int → Int
  | 0, _ => -1
  | n + 1, k => if k = T.2.1 (5 * (n : Int) + 1) then T.2.1 (5 * (n : Int) + 1 + 1 + 1) else zyHi T n k
theorem zyHi_s {T : zyT} {n k : Int} (h : 0 ≤ n) : zyHi T (n + 1).toNat k = if k = T.2.1 (5 * n + 1) then T.2.1 (5 * n + 1 + 1 + 1) else zyHi T n.toNat k := by
  rw [show (n + 1).toNat = n.toNat + 1 by omega]
  show (if k = T.2.1 (5 * (n.toNat : Int) + 1) then _ else _) = _
  rw [show ((n.toNat : Nat) : Int) = n by omega]
noncomputable def zyHr (T : zyT) (f : Int → Int) (n : Int) : Prop := ∀ k : Int, 0 ≤ k → k < 10 → f k = zyHi T n.toNat k
theorem zyHr_s {T : zyT} {f : Int → Int} {n : Int} (h : zyHr T f n) (h0 : 0 ≤ n) : zyHr T (zup f (T.2.1 (5 * n + 1)) (T.2.1 (5 * n + 1 + 1 + 1))) (n + 1) := fun k k0 k1 => by
  rw [zyHi_s h0]
  by_cases q : k = T.2.1 (5 * n + 1)
  · rw [if_pos q, q, zup_e]
  · rw [if_neg q, zup_n q]
    exact h k k0 k1
noncomputable def zyHx (T : zyT) (g : zi_M) (n : Int) : Prop := ∀ k : Int, 0 ≤ k → k < 10 → g 232 (10 + k) = zyHi T n.toNat k + 1
theorem zyHx_s {T : zyT} {g g13 g17 g19 : zi_M} {n x v : Int} (h : zyHx T g n) (h0 : 0 ≤ n) (e13 : g13 232 = g 232) (e17 : g17 = zi_u g13 232 (10 + x) (v + 1)) (e19 : g19 232 = g17 232) (hx : x = T.2.1 (5 * n + 1)) (hv : v = T.2.1 (5 * n + 1 + 1 + 1)) : zyHx T g19 (n + 1) := fun k k0 k1 => by
  rw [zyHi_s h0, e19, e17]
  by_cases q : k = T.2.1 (5 * n + 1)
  · rw [if_pos q, show 10 + k = 10 + x by omega, zi_u_eq, hv]
  · rw [if_neg q, zi_u_ni (by omega), e13]
    exact h k k0 k1
noncomputable def zyHo (T : zyT) (sp : Int) (g' : zi_M) (v : Int) : Prop := ∃ s : Int, zyI (zyH T sp) s ∧ (zyH T sp s = -1 → v = 1 ∧ s = 5 * g' 195 2 ∧ zyHr T (g' 205) (g' 195 2) ∧ g' 191 5 = 0 ∧ g' 191 6 = -1) ∧ (¬ zyH T sp s = -1 → v = 0 ∧ zyF T g' (zyH T sp s) s)
noncomputable def zyHm (T : zyT) (sp : Int) (g' : zi_M) (v : Int) : Prop := ∃ s : Int, zyI (zyH T sp) s ∧ (zyH T sp s = -1 → s = 5 * v ∧ zyHx T g' v) ∧ (¬ zyH T sp s = -1 → v = -1 ∧ zyG T g' (zyH T sp s) s)
/-- the line of a gutter from token t on, the reference: what it answers -/
noncomputable def zyHl (T : zyT) (sp : Int) (g g' : zi_M) (n v : Int) : Prop := (v = -1 ∧ ∃ s : Int, (5 * n + 1 ≤ s ∧ s ≤ 5 * n + 4) ∧ (∀ i : Int, 5 * n + 1 ≤ i → i < s → zyH T sp i = 0) ∧ ¬ zyH T sp s = 0 ∧ zyG T g' (zyH T sp s) s) ∨ (v = 0 ∧ (∀ i : Int, 5 * n + 1 ≤ i → i < 5 * n + 5 → zyH T sp i = 0) ∧ zyR 1000000002 T g' (5 * n + 5) ∧ ∀ k : Int, 0 ≤ k → k < 10 → (k = T.2.1 (5 * n + 1) → g' 232 (10 + k) = T.2.1 (5 * n + 1 + 1 + 1) + 1) ∧ (¬ k = T.2.1 (5 * n + 1) → g' 232 (10 + k) = g 232 (10 + k)))
noncomputable def zyHp (T : zyT) (g : zi_M) (n : Int) : Prop := zyR 1000000002 T g (5 * n) ∧ zyE T ∧ zyK T 2 0 (5 * n) = 0 ∧ 0 ≤ n
theorem zyZ_s {f : Int → Int} {a t : Int} (h : ∀ i : Int, a ≤ i → i < t → f i = 0) (h0 : f t = 0) : ∀ i : Int, a ≤ i → i < t + 1 → f i = 0 := fun i i0 i1 => by
  by_cases e : i = t
  · rw [e]; exact h0
  · exact h i i0 (by omega)
theorem zyZ_0 {f : Int → Int} {a : Int} : ∀ i : Int, a ≤ i → i < a → f i = 0 := fun i i0 i1 => by exfalso; omega
theorem zyH_ne {T : zyT} {sp n s : Int} (h1 : 5 * n + 1 ≤ s) (h2 : s ≤ 5 * n + 4) : ¬ zyH T sp s = -1 := by
  unfold zyH
  rw [if_neg (by omega)]
  split
  · exact zyN_ne
  · split
    · exact zyK_ne
    · split
      · split
        · decide
        · exact zyN_ne
      · exact zyK_ne
-- A PLAN: lines of 5, 6 or 7 tokens
noncomputable def zyPl (d : Int) : Int := if d = 0 ∨ d = 2 then 7 else if d = 6 then 6 else 5
theorem zyPl_b (d : Int) : 5 ≤ zyPl d ∧ zyPl d ≤ 7 := by
  unfold zyPl
  split
  · decide
  · split <;> decide
theorem zyPl_2 {d : Int} (h : d = 0 ∨ d = 2) : zyPl d = 7 := by unfold zyPl; rw [if_pos h]
theorem zyPl_6 {d : Int} (h : d = 6) : zyPl d = 6 := by unfold zyPl; rw [if_neg (by omega), if_pos h]
theorem zyPl_n {d : Int} (h : ¬ (d = 0 ∨ d = 2)) (h6 : ¬ d = 6) : zyPl d = 5 := by unfold zyPl; rw [if_neg h, if_neg h6]
/-- where line n begins -/
noncomputable def zyPp (T : zyT) : Nat → Int
  | 0 => 0
  | n + 1 => zyPp T n + zyPl (T.2.1 (zyPp T n + 2))
noncomputable def zyPP (T : zyT) (n : Int) : Int := zyPp T n.toNat
theorem zyPP_0 {T : zyT} : zyPP T 0 = 0 := rfl
theorem zyPP_s {T : zyT} {n : Int} (h : 0 ≤ n) : zyPP T (n + 1) = zyPP T n + zyPl (T.2.1 (zyPP T n + 2)) := by
  unfold zyPP
  rw [show (n + 1).toNat = n.toNat + 1 by omega]
  rfl
theorem zyPp_b {T : zyT} : ∀ n : Nat, 0 ≤ zyPp T n
  | 0 => Int.le_refl _
  | n + 1 => by
    have h := zyPp_b (T := T) n
    have k := zyPl_b (T.2.1 (zyPp T n + 2))
    show 0 ≤ zyPp T n + zyPl _
    omega
theorem zyPP_b {T : zyT} {n : Int} : 0 ≤ zyPP T n := zyPp_b _
/-- what a deed names besides -/
noncomputable def zyPx (T : zyT) (t : Int) : Int := if T.2.1 (t + 2) = 0 ∨ T.2.1 (t + 2) = 2 then T.2.1 (t + 5) else if T.2.1 (t + 2) = 6 then T.2.1 (t + 4) else 0
/-- token o of line n, which begins at t -/
noncomputable def zyPg (T : zyT) (sp si n t o : Int) : Int :=
  if o = 0 then (if T.1 t = 4 then -1 else zyL T 7 n t)
  else if o = 1 then zyN T 1000 (t + 1)
  else if o = 2 then (if T.1 (t + 2) = 2 ∧ 0 ≤ T.2.1 (t + 2) ∧ T.2.1 (t + 2) ≤ 6 then 0 else 1)
  else if o = 3 then zyN T (zCw sp si (T.2.1 (t + 2))) (t + 3)
  else if o = 4 then (if T.2.1 (t + 2) = 0 ∨ T.2.1 (t + 2) = 2 then zyK T 2 8 (t + 4) else if T.2.1 (t + 2) = 6 then zyN T 16 (t + 4) else zyK T 3 59 (t + 4))
  else if o = 5 then (if T.2.1 (t + 2) = 0 ∨ T.2.1 (t + 2) = 2 then zyN T sp (t + 5) else zyK T 3 59 (t + 5))
  else zyK T 3 59 (t + 6)
section
variable {T : zyT} {sp si n t : Int}
theorem zyPg_e (h : T.1 t = 4) : zyPg T sp si n t 0 = -1 := by unfold zyPg; rw [if_pos rfl, if_pos h]
theorem zyPg_0 (h : ¬ T.1 t = 4) : zyPg T sp si n t 0 = zyL T 7 n t := by unfold zyPg; rw [if_pos rfl, if_neg h]
theorem zyPg_1 : zyPg T sp si n t 1 = zyN T 1000 (t + 1) := by unfold zyPg; rw [if_neg (by decide), if_pos rfl]
theorem zyPg_2 (h : T.1 (t + 2) = 2 ∧ 0 ≤ T.2.1 (t + 2) ∧ T.2.1 (t + 2) ≤ 6) : zyPg T sp si n t 2 = 0 := by unfold zyPg; rw [if_neg (by decide), if_neg (by decide), if_pos rfl, if_pos h]
theorem zyPg_2n (h : ¬ (T.1 (t + 2) = 2 ∧ 0 ≤ T.2.1 (t + 2) ∧ T.2.1 (t + 2) ≤ 6)) : zyPg T sp si n t 2 = 1 := by unfold zyPg; rw [if_neg (by decide), if_neg (by decide), if_pos rfl, if_neg h]
theorem zyPg_3 : zyPg T sp si n t 3 = zyN T (zCw sp si (T.2.1 (t + 2))) (t + 3) := by unfold zyPg; rw [if_neg (by decide), if_neg (by decide), if_neg (by decide), if_pos rfl]
theorem zyPg_4a (h : T.2.1 (t + 2) = 0 ∨ T.2.1 (t + 2) = 2) : zyPg T sp si n t 4 = zyK T 2 8 (t + 4) := by unfold zyPg; rw [if_neg (by decide), if_neg (by decide), if_neg (by decide), if_neg (by decide), if_pos rfl, if_pos h]
theorem zyPg_4t (h : T.2.1 (t + 2) = 6) : zyPg T sp si n t 4 = zyN T 16 (t + 4) := by unfold zyPg; rw [if_neg (by decide), if_neg (by decide), if_neg (by decide), if_neg (by decide), if_pos rfl, if_neg (by omega), if_pos h]
theorem zyPg_4e (h : ¬ (T.2.1 (t + 2) = 0 ∨ T.2.1 (t + 2) = 2)) (h6 : ¬ T.2.1 (t + 2) = 6) : zyPg T sp si n t 4 = zyK T 3 59 (t + 4) := by unfold zyPg; rw [if_neg (by decide), if_neg (by decide), if_neg (by decide), if_neg (by decide), if_pos rfl, if_neg h, if_neg h6]
theorem zyPg_5a (h : T.2.1 (t + 2) = 0 ∨ T.2.1 (t + 2) = 2) : zyPg T sp si n t 5 = zyN T sp (t + 5) := by unfold zyPg; rw [if_neg (by decide), if_neg (by decide), if_neg (by decide), if_neg (by decide), if_neg (by decide), if_pos rfl, if_pos h]
theorem zyPg_5e (h : ¬ (T.2.1 (t + 2) = 0 ∨ T.2.1 (t + 2) = 2)) : zyPg T sp si n t 5 = zyK T 3 59 (t + 5) := by unfold zyPg; rw [if_neg (by decide), if_neg (by decide), if_neg (by decide), if_neg (by decide), if_neg (by decide), if_pos rfl, if_neg h]
theorem zyPg_6 : zyPg T sp si n t 6 = zyK T 3 59 (t + 6) := by unfold zyPg; rw [if_neg (by decide), if_neg (by decide), if_neg (by decide), if_neg (by decide), if_neg (by decide), if_neg (by decide)]
/-- the last token of a line -/
theorem zyPg_l : zyPg T sp si n t (zyPl (T.2.1 (t + 2)) - 1) = zyK T 3 59 (t + (zyPl (T.2.1 (t + 2)) - 1)) := by
  by_cases h : T.2.1 (t + 2) = 0 ∨ T.2.1 (t + 2) = 2
  · rw [zyPl_2 h]; exact zyPg_6
  · by_cases h6 : T.2.1 (t + 2) = 6
    · rw [zyPl_6 h6]; exact zyPg_5e h
    · rw [zyPl_n h h6]; exact zyPg_4e h h6
theorem zyPg_ne {o : Int} (h : 1 ≤ o) : ¬ zyPg T sp si n t o = -1 := by
  unfold zyPg
  rw [if_neg (by omega)]
  split
  · exact zyN_ne
  · split
    · split <;> decide
    · split
      · exact zyN_ne
      · split
        · split
          · exact zyK_ne
          · split
            · exact zyN_ne
            · exact zyK_ne
        · split
          · split
            · exact zyN_ne
            · exact zyK_ne
          · exact zyK_ne
end
/-- a fault in the line behind its first token -/
noncomputable def zyDf (T : zyT) (sp si n a : Int) (P : Int → Int → Prop) : Prop := ∃ o : Int, (a ≤ o ∧ o < zyPl (T.2.1 (zyPP T n + 2))) ∧ (∀ k : Int, a ≤ k → k < o → zyPg T sp si n (zyPP T n) k = 0) ∧ ¬ zyPg T sp si n (zyPP T n) o = 0 ∧ P (zyPg T sp si n (zyPP T n) o) (zyPP T n + o)
/-- which token is the first that is wrong (or the end) -/
noncomputable def zyPi (T : zyT) (sp si n o : Int) : Prop := (0 ≤ n ∧ 0 ≤ o ∧ o < zyPl (T.2.1 (zyPP T n + 2))) ∧ (∀ m : Int, 0 ≤ m → m < n → ∀ k : Int, 0 ≤ k → k < zyPl (T.2.1 (zyPP T m + 2)) → zyPg T sp si m (zyPP T m) k = 0) ∧ (∀ k : Int, 0 ≤ k → k < o → zyPg T sp si n (zyPP T n) k = 0) ∧ ¬ zyPg T sp si n (zyPP T n) o = 0
theorem zyPi_u {T : zyT} {sp si n o m p : Int} (h : zyPi T sp si n o) (k : zyPi T sp si m p) : n = m ∧ o = p := by
  obtain ⟨⟨h1, h2, h3⟩, h4, h5, h6⟩ := h
  obtain ⟨⟨k1, k2, k3⟩, k4, k5, k6⟩ := k
  by_cases c : n < m
  · exact absurd (k4 n h1 c o h2 h3) h6
  · by_cases d : m < n
    · exact absurd (h4 m k1 d p k2 k3) k6
    · have e : n = m := by omega
      subst e
      by_cases c2 : o < p
      · exact absurd (k5 o h2 c2) h6
      · by_cases d2 : p < o
        · exact absurd (h5 p k2 d2) k6
        · exact ⟨rfl, by omega⟩
/-- a line more -/
theorem zyPm_s {T : zyT} {sp si n : Int} (h : ∀ m : Int, 0 ≤ m → m < n → ∀ k : Int, 0 ≤ k → k < zyPl (T.2.1 (zyPP T m + 2)) → zyPg T sp si m (zyPP T m) k = 0) (h0 : zyPg T sp si n (zyPP T n) 0 = 0) (h1 : ∀ k : Int, 1 ≤ k → k < zyPl (T.2.1 (zyPP T n + 2)) → zyPg T sp si n (zyPP T n) k = 0) : ∀ m : Int, 0 ≤ m → m < n + 1 → ∀ k : Int, 0 ≤ k → k < zyPl (T.2.1 (zyPP T m + 2)) → zyPg T sp si m (zyPP T m) k = 0 := fun m m0 m1 k k0 k1 => by
  by_cases e : m = n
  · subst e
    by_cases q : k = 0
    · rw [q]; exact h0
    · exact h1 k (by omega) k1
  · exact h m m0 (by omega) k k0 k1
theorem zyPi_f {T : zyT} {sp si n : Int} {P : Int → Int → Prop} (hn : 0 ≤ n) (h : ∀ m : Int, 0 ≤ m → m < n → ∀ k : Int, 0 ≤ k → k < zyPl (T.2.1 (zyPP T m + 2)) → zyPg T sp si m (zyPP T m) k = 0) (h0 : zyPg T sp si n (zyPP T n) 0 = 0) (h1 : zyDf T sp si n 1 P) : ∃ o : Int, zyPi T sp si n o ∧ ¬ zyPg T sp si n (zyPP T n) o = -1 ∧ P (zyPg T sp si n (zyPP T n) o) (zyPP T n + o) := by
  obtain ⟨o, o1, o2, o3, o4⟩ := h1
  refine ⟨o, ⟨⟨hn, by omega, o1.2⟩, h, fun k k0 k1 => ?_, o3⟩, zyPg_ne o1.1, o4⟩
  by_cases q : k = 0
  · rw [q]; exact h0
  · exact o2 k (by omega) k1
theorem zyPi_0 {T : zyT} {sp si n : Int} (hn : 0 ≤ n) (h : ∀ m : Int, 0 ≤ m → m < n → ∀ k : Int, 0 ≤ k → k < zyPl (T.2.1 (zyPP T m + 2)) → zyPg T sp si m (zyPP T m) k = 0) (h0 : ¬ zyPg T sp si n (zyPP T n) 0 = 0) : zyPi T sp si n 0 := ⟨⟨hn, Int.le_refl _, by have := zyPl_b (T.2.1 (zyPP T n + 2)); omega⟩, h, fun k k0 k1 => by exfalso; omega, h0⟩
/-- rows of deeds of the class, of the reference -/
noncomputable def zyPc (T : zyT) (f1 f2 f3 f4 : Int → Int) (n : Int) : Prop := ∀ m : Int, 0 ≤ m → m < n → f1 m = T.2.1 (zyPP T m + 1) ∧ f2 m = T.2.1 (zyPP T m + 2) ∧ f3 m = T.2.1 (zyPP T m + 3) ∧ f4 m = zyPx T (zyPP T m)
noncomputable def zyPr (T : zyT) (g : zi_M) (n : Int) : Prop := ∀ m : Int, 0 ≤ m → m < n → g 234 (64 + 4 * m) = T.2.1 (zyPP T m + 1) ∧ g 234 (64 + 4 * m + 1) = T.2.1 (zyPP T m + 2) ∧ g 234 (64 + 4 * m + 2) = T.2.1 (zyPP T m + 3) ∧ g 234 (64 + 4 * m + 3) = zyPx T (zyPP T m)
noncomputable def zyPo (T : zyT) (sp si : Int) (g' : zi_M) (v : Int) : Prop := ∃ n o : Int, zyPi T sp si n o ∧ (zyPg T sp si n (zyPP T n) o = -1 → v = 1 ∧ n = g' 195 10 ∧ zyPc T (g' 208) (g' 209) (g' 210) (g' 211) n ∧ g' 191 5 = 0 ∧ g' 191 6 = -1) ∧ (¬ zyPg T sp si n (zyPP T n) o = -1 → v = 0 ∧ zyF T g' (zyPg T sp si n (zyPP T n) o) (zyPP T n + o))
noncomputable def zyPM (T : zyT) (sp si : Int) (g' : zi_M) (v : Int) : Prop := ∃ n o : Int, zyPi T sp si n o ∧ (zyPg T sp si n (zyPP T n) o = -1 → v = n ∧ zyPr T g' n) ∧ (¬ zyPg T sp si n (zyPP T n) o = -1 → v = -1 ∧ zyG T g' (zyPg T sp si n (zyPP T n) o) (zyPP T n + o))
/-- a deed of the class, from its word on; of the reference, from its line on -/
noncomputable def zyDc (T : zyT) (sp si : Int) (g g' : zi_M) (l n v : Int) : Prop := (v = 0 ∧ zyDf T sp si n 2 (zyF T g')) ∨ (v = 1 ∧ (∀ k : Int, 2 ≤ k → k < zyPl (T.2.1 (zyPP T n + 2)) - 1 → zyPg T sp si n (zyPP T n) k = 0) ∧ zyC T g' (zyPP T n + (zyPl (T.2.1 (zyPP T n + 2)) - 1)) ∧ g' 209 = zup (g 209) l (T.2.1 (zyPP T n + 2)) ∧ g' 210 = zup (g 210) l (T.2.1 (zyPP T n + 3)) ∧ g' 211 = zup (g 211) l (zyPx T (zyPP T n)))
noncomputable def zyDp (T : zyT) (g : zi_M) (n : Int) : Prop := zyR 1000000004 T g (zyPP T n) ∧ zyE T ∧ 0 ≤ n ∧ T.1 (zyPP T n) = 2 ∧ T.2.1 (zyPP T n) = 7
noncomputable def zyDm (T : zyT) (sp si : Int) (g' : zi_M) (l n v : Int) : Prop := (v = -1 ∧ zyDf T sp si n 1 (zyG T g')) ∨ (v = 0 ∧ (∀ k : Int, 1 ≤ k → k < zyPl (T.2.1 (zyPP T n + 2)) → zyPg T sp si n (zyPP T n) k = 0) ∧ zyR 1000000004 T g' (zyPP T n + zyPl (T.2.1 (zyPP T n + 2))) ∧ g' 234 l = T.2.1 (zyPP T n + 1) ∧ g' 234 (l + 1) = T.2.1 (zyPP T n + 2) ∧ g' 234 (l + 2) = T.2.1 (zyPP T n + 3) ∧ g' 234 (l + 3) = zyPx T (zyPP T n))
/-- the deed at which the reference stands -/
theorem zyR_d {T : zyT} {g : zi_M} {t v : Int} (h : zyR 1000000004 T g t) (b16 : 0 ≤ g 214 16 ∧ g 214 16 ≤ 4) (a1 : g 214 16 = 2 → g 214 17 = 19 → v = 0) (a2 : g 214 16 = 2 → 21 ≤ g 214 17 → g 214 17 ≤ 26 → v = g 214 17 - 20) (a3 : ¬ g 214 16 = 2 ∨ (¬ g 214 17 = 19 ∧ (g 214 17 < 21 ∨ 26 < g 214 17)) → v = -1) : (¬ v = -1 → T.1 t = 2 ∧ T.2.1 t = v ∧ 0 ≤ v ∧ v ≤ 6) ∧ (v = -1 → ¬ (T.1 t = 2 ∧ 0 ≤ T.2.1 t ∧ T.2.1 t ≤ 6)) := by
  have hr : zs_str 1000000004 := rfl
  have z4 := zyk4
  have k := (zyR_k hr h).2.2.2.2
  refine ⟨fun ne => ?_, fun e q => ?_⟩
  · have e2 : g 214 16 = 2 := Classical.byContradiction (fun q => ne (a3 (Or.inl q)))
    by_cases q : g 214 17 = 19
    · have := (k 0 (by decide) (by omega)).1 ⟨e2, q.trans z4.2.1.symm⟩
      have := a1 e2 q
      omega
    · have w : 21 ≤ g 214 17 ∧ g 214 17 ≤ 26 := by
        refine Classical.byContradiction (fun z => ne (a3 (Or.inr ⟨q, by omega⟩)))
      have z := z4.2.2.2.2 (g 214 17 - 20).toNat (by omega) (by omega)
      rw [show (((g 214 17 - 20).toNat : Nat) : Int) = g 214 17 - 20 by omega] at z
      have := (k (g 214 17 - 20) (by omega) (by omega)).1 ⟨e2, by omega⟩
      have := a2 e2 w.1 w.2
      omega
  · by_cases q0 : T.2.1 t = 0
    · have := (k 0 (by decide) (by omega)).2 ⟨q.1, q0⟩
      have := a1 this.1 (this.2.trans z4.2.1)
      omega
    · have z := z4.2.2.2.2 (T.2.1 t).toNat (by omega) (by omega)
      rw [show (((T.2.1 t).toNat : Nat) : Int) = T.2.1 t by omega] at z
      have := (k (T.2.1 t) q.2.1 (by omega)).2 ⟨q.1, rfl⟩
      have := a2 this.1 (by omega) (by omega)
      omega
theorem zyDf_1 {T : zyT} {sp si n : Int} {P : Int → Int → Prop} (h : zyDf T sp si n 2 P) (h1 : zyPg T sp si n (zyPP T n) 1 = 0) : zyDf T sp si n 1 P := by
  obtain ⟨o, o1, o2, o3, o4⟩ := h
  refine ⟨o, ⟨by omega, o1.2⟩, fun k k0 k1 => ?_, o3, o4⟩
  by_cases q : k = 1
  · rw [q]; exact h1
  · exact o2 k (by omega) k1
theorem zyDf_o {T : zyT} {sp si n a o : Int} {P : Int → Int → Prop} (ho : a ≤ o ∧ o < zyPl (T.2.1 (zyPP T n + 2))) (hz : ∀ k : Int, a ≤ k → k < o → zyPg T sp si n (zyPP T n) k = 0) (h : ¬ zyPg T sp si n (zyPP T n) o = 0) (hp : P (zyPg T sp si n (zyPP T n) o) (zyPP T n + o)) : zyDf T sp si n a P := ⟨o, ho, hz, h, hp⟩
theorem zyPx_a {T : zyT} {t : Int} (h : T.2.1 (t + 2) = 0 ∨ T.2.1 (t + 2) = 2) : zyPx T t = T.2.1 (t + 5) := by unfold zyPx; rw [if_pos h]
theorem zyPx_t {T : zyT} {t : Int} (h : T.2.1 (t + 2) = 6) : zyPx T t = T.2.1 (t + 4) := by unfold zyPx; rw [if_neg (by omega), if_pos h]
theorem zyPx_e {T : zyT} {t : Int} (h : ¬ (T.2.1 (t + 2) = 0 ∨ T.2.1 (t + 2) = 2)) (h6 : ¬ T.2.1 (t + 2) = 6) : zyPx T t = 0 := by unfold zyPx; rw [if_neg h, if_neg h6]
theorem zyZ_2 {f : Int → Int} {a b c : Int} (h : ∀ i : Int, a ≤ i → i < b → f i = 0) (e : c = b + 1) (h0 : f b = 0) : ∀ i : Int, a ≤ i → i < c → f i = 0 := by
  rw [e]
  exact zyZ_s h h0
-- COPIES of texts, and what a text makes of the class
theorem zs_txt : ∀ r, r < 251 → zs_sh r = some (6, 11) → r = 19 ∨ r = 64 ∨ r = 195 := by decide +kernel
theorem zs_txtI {r : Nat} (h : zs_sh r = some (6, 11)) : r = 19 ∨ r = 64 ∨ r = 195 := zs_txt r (zs_lt h).1 h
noncomputable def zyTg (r0 r1 : Nat) (g g' : zi_M) : Prop := g' r0 2 = g r1 2 ∧ ∀ i : Int, 0 ≤ i → i < 10 → g' (r0 + 10) i = g (r1 + 10) i
noncomputable def zyTw (r0 r1 : Nat) (g g' : zi_M) : Prop := g' r0 5 = g r1 5 ∧ (∀ i : Int, 0 ≤ i → i < 16 → g' (r0 + 11) i = g (r1 + 11) i) ∧ ∀ i : Int, 0 ≤ i → i < 16 → g' (r0 + 12) i = g (r1 + 12) i
noncomputable def zyTp (r0 r1 : Nat) (g g' : zi_M) : Prop := g' r0 10 = g r1 10 ∧ (∀ i : Int, 0 ≤ i → i < 16 → g' (r0 + 13) i = g (r1 + 13) i) ∧ (∀ i : Int, 0 ≤ i → i < 16 → g' (r0 + 14) i = g (r1 + 14) i) ∧ (∀ i : Int, 0 ≤ i → i < 16 → g' (r0 + 15) i = g (r1 + 15) i) ∧ ∀ i : Int, 0 ≤ i → i < 16 → g' (r0 + 16) i = g (r1 + 16) i
theorem zyTg_all {r0 r1 : Nat} {g h1 h2 : zi_M} (hr0 : zs_sh r0 = some (6, 11)) (hr1 : zs_sh r1 = some (6, 11)) (e1 : h1 = zi_cp g (r1 + 10) 0 (r0 + 10) 0 10) (e2 : h2 = zi_u h1 r0 2 (h1 r1 2)) : zyTg r0 r1 g h2 := by
  have q0 := zs_txtI hr0
  have q1 := zs_txtI hr1
  clear hr0 hr1
  subst e1 e2
  rcases q0 with q0 | q0 | q0 <;> rcases q1 with q1 | q1 | q1 <;> subst q0 q1 <;> refine ⟨?_, ?_⟩ <;> first | (simp [zi_u, zi_cp]; done) | (intro i h0 h1; simp [zi_u, zi_cp, h0, h1]; done)
theorem zyTw_all {r0 r1 : Nat} {g h1 h2 h3 : zi_M} (hr0 : zs_sh r0 = some (6, 11)) (hr1 : zs_sh r1 = some (6, 11)) (e1 : h1 = zi_cp g (r1 + 11) 0 (r0 + 11) 0 16) (e2 : h2 = zi_cp h1 (r1 + 12) 0 (r0 + 12) 0 16) (e3 : h3 = zi_u h2 r0 5 (h2 r1 5)) : zyTw r0 r1 g h3 := by
  have q0 := zs_txtI hr0
  have q1 := zs_txtI hr1
  clear hr0 hr1
  subst e1 e2 e3
  rcases q0 with q0 | q0 | q0 <;> rcases q1 with q1 | q1 | q1 <;> subst q0 q1 <;> refine ⟨?_, ?_, ?_⟩ <;> first | (simp [zi_u, zi_cp]; done) | (intro i h0 h1; simp [zi_u, zi_cp, h0, h1]; done)
theorem zyTp_all {r0 r1 : Nat} {g h1 h2 h3 h4 h5 : zi_M} (hr0 : zs_sh r0 = some (6, 11)) (hr1 : zs_sh r1 = some (6, 11)) (e1 : h1 = zi_cp g (r1 + 13) 0 (r0 + 13) 0 16) (e2 : h2 = zi_cp h1 (r1 + 14) 0 (r0 + 14) 0 16) (e3 : h3 = zi_cp h2 (r1 + 15) 0 (r0 + 15) 0 16) (e4 : h4 = zi_cp h3 (r1 + 16) 0 (r0 + 16) 0 16) (e5 : h5 = zi_u h4 r0 10 (h4 r1 10)) : zyTp r0 r1 g h5 := by
  have q0 := zs_txtI hr0
  have q1 := zs_txtI hr1
  clear hr0 hr1
  subst e1 e2 e3 e4 e5
  rcases q0 with q0 | q0 | q0 <;> rcases q1 with q1 | q1 | q1 <;> subst q0 q1 <;> refine ⟨?_, ?_, ?_, ?_, ?_⟩ <;> first | (simp [zi_u, zi_cp]; done) | (intro i h0 h1; simp [zi_u, zi_cp, h0, h1]; done)
noncomputable def zySw (g g' : zi_M) (v : Int) : Prop := ∃ s : Int, zyI (zyW (zyM g')) s ∧ (zyW (zyM g') s = -1 → v = g' 19 5 ∧ s = 5 * v ∧ zyWr (zyM g') (g' 30) (g' 31) v ∧ g' 191 5 = 0 ∧ g' 191 6 = -1 ∧ g' 91 1 = 0) ∧ (¬ zyW (zyM g') s = -1 → v = -1 ∧ zyF (zyM g') g' (zyW (zyM g') s) s ∧ g' 91 1 = g 91 1 ∧ g' 19 5 = g 19 5 ∧ (∀ i : Int, g' 30 i = g 30 i) ∧ ∀ i : Int, g' 31 i = g 31 i)
noncomputable def zySg (sp : Int) (g g' : zi_M) (v : Int) : Prop := g' 91 1 = g 91 1 ∧ ∃ s : Int, zyI (zyH (zyM g') sp) s ∧ (zyH (zyM g') sp s = -1 → v = g' 19 2 ∧ s = 5 * v ∧ zyHr (zyM g') (g' 29) v ∧ g' 191 5 = 0 ∧ g' 191 6 = -1) ∧ (¬ zyH (zyM g') sp s = -1 → v = -1 ∧ zyF (zyM g') g' (zyH (zyM g') sp s) s ∧ g' 19 2 = g 19 2 ∧ ∀ i : Int, g' 29 i = g 29 i)
noncomputable def zySp (sp si : Int) (g g' : zi_M) (v : Int) : Prop := ∃ n o : Int, zyPi (zyM g') sp si n o ∧ (zyPg (zyM g') sp si n (zyPP (zyM g') n) o = -1 → v = n ∧ v = g' 19 10 ∧ zyPc (zyM g') (g' 32) (g' 33) (g' 34) (g' 35) n ∧ g' 191 5 = 0 ∧ g' 191 6 = -1 ∧ g' 91 1 = 0) ∧ (¬ zyPg (zyM g') sp si n (zyPP (zyM g') n) o = -1 → v = -1 ∧ zyF (zyM g') g' (zyPg (zyM g') sp si n (zyPP (zyM g') n) o) (zyPP (zyM g') n + o) ∧ g' 91 1 = g 91 1 ∧ g' 19 10 = g 19 10 ∧ (∀ i : Int, g' 32 i = g 32 i) ∧ (∀ i : Int, g' 33 i = g 33 i) ∧ (∀ i : Int, g' 34 i = g 34 i) ∧ ∀ i : Int, g' 35 i = g 35 i)
/-- the tokens of a tape lie in a memory -/
noncomputable def zySs (r : Nat) (f : Int → Int) (n : Int) (g' : zi_M) : Prop := zSp r f n (g' 192) (g' 193) (g' 194) (g' 191 3) ∧ g' 191 3 ≤ 401
theorem zySs_m {r : Nat} {f : Int → Int} {n : Int} {g g' : zi_M} (h : zySs r f n g) (e : ∀ (a : Nat) (i : Int), a = 192 ∨ a = 193 ∨ a = 194 ∨ (a = 191 ∧ i = 3) → g' a i = g a i) : zySs r f n g' := by
  unfold zySs at *
  rw [funext (fun i => e 192 i (by omega)), funext (fun i => e 193 i (by omega)), funext (fun i => e 194 i (by omega)), e 191 3 (by omega)]
  exact h
theorem zyM_m {g g' : zi_M} (e : ∀ (a : Nat) (i : Int), a = 192 ∨ a = 193 ∨ a = 194 ∨ (a = 191 ∧ i = 3) → g' a i = g a i) : zyM g' = zyM g := by
  unfold zyM
  rw [funext (fun i => e 192 i (by omega)), funext (fun i => e 193 i (by omega)), funext (fun i => e 194 i (by omega)), e 191 3 (by omega)]
theorem zySs_C {r : Nat} {f : Int → Int} {n : Int} {g' : zi_M} (h : zySs r f n g') (h2 : g' 191 4 = 0 ∧ g' 191 5 = 0 ∧ g' 191 6 = -1 ∧ g' 191 3 ≤ 401) : zyC (zyM g') g' 0 ∧ zyE (zyM g') := ⟨⟨⟨rfl, rfl, rfl, rfl⟩, ⟨h2.1, Int.le_refl _, by have := h.1.1; show 0 < g' 191 3; omega⟩, h2.2.1, h2.2.2.1⟩, zyE_of (T := zyM g') h.1 h.2⟩
theorem zyF_m {T : zyT} {g g' : zi_M} {e t : Int} (h : zyF T g e t) (e5 : g' 191 5 = g 191 5) (e6 : g' 191 6 = g 191 6) : zyF T g' e t := by
  unfold zyF at *
  rw [e5, e6]
  exact h
noncomputable def zyUw (g g' : zi_M) : Prop := g' 19 5 = g 19 5 ∧ (∀ i : Int, g' 30 i = g 30 i) ∧ ∀ i : Int, g' 31 i = g 31 i
noncomputable def zyUg (g g' : zi_M) : Prop := g' 19 2 = g 19 2 ∧ ∀ i : Int, g' 29 i = g 29 i
noncomputable def zyUp (g g' : zi_M) : Prop := g' 19 10 = g 19 10 ∧ (∀ i : Int, g' 32 i = g 32 i) ∧ (∀ i : Int, g' 33 i = g 33 i) ∧ (∀ i : Int, g' 34 i = g 34 i) ∧ ∀ i : Int, g' 35 i = g 35 i
noncomputable def zyNw (g g' : zi_M) : Prop := g' 214 37 = g 214 37 ∧ ∀ i : Int, i < 32 → g' 233 i = g 233 i
noncomputable def zyNg (g g' : zi_M) : Prop := g' 214 35 = g 214 35 ∧ ∀ i : Int, i < 10 → g' 232 i = g 232 i
noncomputable def zyNp (g g' : zi_M) : Prop := g' 214 39 = g 214 39 ∧ ∀ i : Int, i < 64 → g' 234 i = g 234 i
/-- what a text makes of the reference -/
noncomputable def zyMw (g g' : zi_M) (v : Int) : Prop := ∃ s : Int, zyI (zyW (zyM g)) s ∧ (zyW (zyM g) s = -1 → s = 5 * v ∧ (∀ m : Int, 0 ≤ m → m < v → g' 233 (2 * m) = (zyM g).2.1 (5 * m + 1) ∧ g' 233 (2 * m + 1) = (zyM g).2.1 (5 * m + 1 + 1 + 1)) ∧ g' 214 37 = v ∧ g' 214 33 = 0 ∧ g' 214 34 = -1 ∧ g' 214 3 = 0) ∧ (¬ zyW (zyM g) s = -1 → v = -1 ∧ g' 214 33 = zyW (zyM g) s ∧ g' 214 34 = (zyM g).2.2.1 s ∧ g' 214 3 = g 214 3 ∧ zyNw g g')
noncomputable def zyMg (g g' : zi_M) (v : Int) : Prop := ∃ s : Int, zyI (zyH (zyM g) (g 214 6)) s ∧ (zyH (zyM g) (g 214 6) s = -1 → s = 5 * v ∧ (∀ k : Int, 0 ≤ k → k < 10 → g' 232 k = zyHi (zyM g) v.toNat k + 1) ∧ g' 214 35 = v ∧ g' 214 33 = 0 ∧ g' 214 34 = -1) ∧ (¬ zyH (zyM g) (g 214 6) s = -1 → v = -1 ∧ g' 214 33 = zyH (zyM g) (g 214 6) s ∧ g' 214 34 = (zyM g).2.2.1 s ∧ zyNg g g')
noncomputable def zyMp (g g' : zi_M) (v : Int) : Prop := ∃ n o : Int, zyPi (zyM g) (g 214 6) (g 214 7) n o ∧ (zyPg (zyM g) (g 214 6) (g 214 7) n (zyPP (zyM g) n) o = -1 → v = n ∧ (∀ m : Int, 0 ≤ m → m < n → g' 234 (4 * m) = (zyM g).2.1 (zyPP (zyM g) m + 1) ∧ g' 234 (4 * m + 1) = (zyM g).2.1 (zyPP (zyM g) m + 2) ∧ g' 234 (4 * m + 2) = (zyM g).2.1 (zyPP (zyM g) m + 3) ∧ g' 234 (4 * m + 3) = zyPx (zyM g) (zyPP (zyM g) m)) ∧ g' 214 39 = n ∧ g' 214 33 = 0 ∧ g' 214 34 = -1 ∧ g' 214 3 = 0) ∧ (¬ zyPg (zyM g) (g 214 6) (g 214 7) n (zyPP (zyM g) n) o = -1 → v = -1 ∧ g' 214 33 = zyPg (zyM g) (g 214 6) (g 214 7) n (zyPP (zyM g) n) o ∧ g' 214 34 = (zyM g).2.2.1 (zyPP (zyM g) n + o) ∧ g' 214 3 = g 214 3 ∧ zyNp g g')
theorem zySs_L1 {f : Int → Int} {n : Int} {g2 g5 : zi_M} (h : zSp 1000000001 f n (g2 192) (g2 193) (g2 194) (g2 191 3)) (c : g2 191 4 = 0 ∧ g2 191 5 = 0 ∧ g2 191 6 = -1 ∧ g2 191 3 ≤ 401) (F : zk_fr fr_LawReader_readLaw g2 g5) : zySs 1000000001 f n g5 := zySs_m ⟨h, c.2.2.2⟩ (fun a i q => F a i (fun w => by unfold fr_LawReader_readLaw at w; omega))
theorem zySs_L2 {f : Int → Int} {n : Int} {g2 g5 g8 : zi_M} (h : zSp 1000000001 f n (g2 192) (g2 193) (g2 194) (g2 191 3)) (c : g2 191 4 = 0 ∧ g2 191 5 = 0 ∧ g2 191 6 = -1 ∧ g2 191 3 ≤ 401) (F : zk_fr fr_LawReader_readLaw g2 g5) (F8 : zk_fr (fr_Law_copyFrom 20 196) g5 g8) : zySs 1000000001 f n g8 := zySs_m (zySs_L1 h c F) (fun a i q => F8 a i (fun w => by unfold fr_Law_copyFrom at w; omega))
