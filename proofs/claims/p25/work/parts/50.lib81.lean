-- THE LAW, the class: sums and comparisons
theorem zEa_q {l : Int} {g : zi_M} (h : l = -1) : zEa (zLat l) g g := by
  unfold zLat
  rw [if_pos h]
  exact zEa_0
theorem zEa_w {l : Int} {g g3 : zi_M} (n : ¬ l = -1) (k : g 196 2 < 400 → zEa [(l, 0)] g g3) : (l = -1 ∨ g 196 2 < 400) → zEa (zLat l) g g3 := fun h => by
  unfold zLat
  rw [if_neg n]
  exact k (by omega)
theorem zyF_mm {T : zyT} {g g' : zi_M} {e t : Int} (h : zyF T g e t) (e5 : g' 191 5 = g 191 5) (e6 : g' 191 6 = g 191 6) : zyF T g' e t := ⟨by rw [e5]; exact h.1, by rw [e6]; exact h.2⟩
theorem zis_y {T : zyT} {g : zi_M} {t k c v : Int} (h : zyC T g t) (b6 : g 191 4 < g 191 3 → ¬ g 192 (g 191 4) = k → v = 0) (b7 : g 191 4 < g 191 3 → g 192 (g 191 4) = k → ¬ g 193 (g 191 4) = c → v = 0) (n : ¬ v = 0) : T.1 t = k ∧ T.2.1 t = c := by
  have a := zyC_a h
  rw [a.1, a.2.1] at b7
  rw [a.1] at b6
  have e1 : T.1 t = k := Classical.byContradiction (fun q => n (b6 a.2.2.2 q))
  exact ⟨e1, Classical.byContradiction (fun q => n (b7 a.2.2.2 e1 q))⟩
theorem zis_n {T : zyT} {g : zi_M} {t k c v : Int} (h : zyC T g t) (b8 : g 191 4 < g 191 3 → g 192 (g 191 4) = k → g 193 (g 191 4) = c → v = 1) (z : v = 0) : ¬ (T.1 t = k ∧ T.2.1 t = c) := fun q => by
  have a := zyC_a h
  rw [a.1, a.2.1] at b8
  have := b8 a.2.2.2 q.1 q.2
  omega
/-- what step, refuse and add tell -/
noncomputable def zstp (g g1 : zi_M) : Prop := ∀ (T : zyT) (t : Int), zyC T g t → zyE T → ¬ T.1 t = 4 → zyC T g1 (t + 1)
noncomputable def zcon (R : zyT → Int → zLR) (v : Int) (g g1 : zi_M) : Prop := ∀ (T : zyT) (t : Int), zyC T g t → zyE T → g 196 2 ≤ t → zCr T (R T t) v g g1
section
variable {g g1 g2 g3 : zi_M} {v w x : Int}
theorem zsf_196 (F : zk_fr fr_Tokens_step g g1) : ∀ (a : Nat) (i : Int), 196 ≤ a → a ≤ 198 → g1 a i = g a i := fun a i h1 h2 => F a i (fun q => by unfold fr_Tokens_step at q; omega)
theorem zaf_191 (F : zk_fr fr_Law_add g g1) : ∀ (a : Nat) (i : Int), 191 ≤ a → a ≤ 194 → g1 a i = g a i := fun a i h1 h2 => F a i (fun q => by unfold fr_Law_add at q; omega)
theorem zlf_191 (F : zk_fr fr_LawReader_addLate g g1) : ∀ (a : Nat) (i : Int), 191 ≤ a → a ≤ 194 → g1 a i = g a i := fun a i h1 h2 => F a i (fun q => by unfold fr_LawReader_addLate at q; omega)
theorem zun_n (c : ¬ v = -1) (d1 : g 191 3 ≤ g 191 4 → v = -1) (d2 : g 191 4 < g 191 3 → ¬ g 192 (g 191 4) = 1 → v = -1) (k : g 196 2 < 400 → zEa [(0, w)] g g1) (d3 : g 191 4 < g 191 3 → g 192 (g 191 4) = 1 → w = g 193 (g 191 4)) (F : zk_fr fr_Law_add g g1) (s : zstp g1 g2) (F2 : zk_fr fr_Tokens_step g1 g2) : zcon zUn 1 g g2 := fun T t hC hE hs => by
  have a := zyC_a hC
  rw [a.1] at d2 d3
  rw [a.2.1] at d3
  have e1 : T.1 t = 1 := Classical.byContradiction (fun q => c (d2 a.2.2.2 q))
  have b := zyC_b hC hE
  have b4 := b.2.2.2 (by omega)
  rw [zUn_1 e1]
  have z := k (by omega)
  rw [d3 a.2.2.2 e1] at z
  exact zCr_y (s T t (zyC_m hC (zaf_191 F)) hE (by omega)) (zEa_m z (zsf_196 F2))
theorem zun_k (c0 : v = -1) (d0 : g 191 4 < g 191 3 → g 192 (g 191 4) = 1 → v = g 193 (g 191 4)) (c : 7 ≤ x) (d2 : g 191 4 < g 191 3 → ¬ g 192 (g 191 4) = 2 → x = -1) (d3 : g 191 4 < g 191 3 → g 192 (g 191 4) = 2 → x = g 193 (g 191 4)) (k : g 196 2 < 400 → zEa [(1, w - 7)] g g1) (d4 : g 191 4 < g 191 3 → g 192 (g 191 4) = 2 → w = g 193 (g 191 4)) (F : zk_fr fr_Law_add g g1) (s : zstp g1 g2) (F2 : zk_fr fr_Tokens_step g1 g2) : zcon zUn 1 g g2 := fun T t hC hE hs => by
  have a := zyC_a hC
  rw [a.1] at d2 d3 d4
  rw [a.2.1] at d3 d4
  have e1 : T.1 t = 2 := Classical.byContradiction (fun q => by have := d2 a.2.2.2 q; omega)
  have x1 := d3 a.2.2.2 e1
  have b := zyC_b hC hE
  have b4 := b.2.2.2 (by omega)
  rw [zUn_2 e1 (by omega)]
  have z := k (by omega)
  rw [d4 a.2.2.2 e1] at z
  exact zCr_y (s T t (zyC_m hC (zaf_191 F)) hE (by omega)) (zEa_m z (zsf_196 F2))
theorem zun_f (c0 : v = -1) (d0 : g 191 4 < g 191 3 → g 192 (g 191 4) = 1 → v = g 193 (g 191 4)) (c : x < 7) (d3 : g 191 4 < g 191 3 → g 192 (g 191 4) = 2 → x = g 193 (g 191 4)) (r : ∀ (T : zyT) (t : Int), zyC T g t → zyF T g1 1 t) (hw : 0 ≤ w ∧ w ≤ 0) : zcon zUn w g g1 := fun T t hC hE hs => by
  have a := zyC_a hC
  rw [a.1] at d0 d3
  rw [a.2.1] at d0 d3
  rw [show w = 0 by omega, zUn_0 (fun q => by have h := d0 a.2.2.2 q; have h2 := hE.2.2.2 t (zyC_b hC hE).1 (zyC_b hC hE).2.1 q; omega) (fun q => by have := d3 a.2.2.2 q.1; omega)]
  exact zCr_n (by decide) (r T t hC)
theorem zpt_y (c : 1 ≤ v) (d1 : g 191 3 ≤ g 191 4 → v = -1) (d2 : g 191 4 < g 191 3 → ¬ g 192 (g 191 4) = 1 → v = -1) (d3 : g 191 4 < g 191 3 → g 192 (g 191 4) = 1 → v = g 193 (g 191 4)) (k : g 196 2 < 400 → zEa [(5, v)] g g1) (F : zk_fr fr_Law_add g g1) (s : zstp g1 g2) (F2 : zk_fr fr_Tokens_step g1 g2) : zcon zPt 1 g g2 := fun T t hC hE hs => by
  have a := zyC_a hC
  rw [a.1] at d2 d3
  rw [a.2.1] at d3
  have e1 : T.1 t = 1 := Classical.byContradiction (fun q => by have := d2 a.2.2.2 q; omega)
  have e2 := d3 a.2.2.2 e1
  have b := zyC_b hC hE
  have b4 := b.2.2.2 (by omega)
  rw [zPt_1 e1 (by omega)]
  have z := k (by omega)
  rw [e2] at z
  exact zCr_y (s T t (zyC_m hC (zaf_191 F)) hE (by omega)) (zEa_m z (zsf_196 F2))
theorem zpt_2 (c : v = 0) (d2 : g 191 4 < g 191 3 → ¬ g 192 (g 191 4) = 1 → v = -1) (d3 : g 191 4 < g 191 3 → g 192 (g 191 4) = 1 → v = g 193 (g 191 4)) (r : ∀ (T : zyT) (t : Int), zyC T g t → zyF T g1 2 t) (hw : 0 ≤ w ∧ w ≤ 0) : zcon zPt w g g1 := fun T t hC hE hs => by
  have a := zyC_a hC
  rw [a.1] at d2 d3
  rw [a.2.1] at d3
  have e1 : T.1 t = 1 := Classical.byContradiction (fun q => by have := d2 a.2.2.2 q; omega)
  have e2 := d3 a.2.2.2 e1
  rw [show w = 0 by omega, zPt_2 e1 (by omega)]
  exact zCr_n (by decide) (r T t hC)
theorem zpt_1 (c : v < 1) (c2 : ¬ v = 0) (d3 : g 191 4 < g 191 3 → g 192 (g 191 4) = 1 → v = g 193 (g 191 4)) (r : ∀ (T : zyT) (t : Int), zyC T g t → zyF T g1 1 t) (hw : 0 ≤ w ∧ w ≤ 0) : zcon zPt w g g1 := fun T t hC hE hs => by
  have a := zyC_a hC
  rw [a.1] at d3
  rw [a.2.1] at d3
  rw [show w = 0 by omega, zPt_0 (fun q => by have h := d3 a.2.2.2 q; have h2 := hE.2.2.2 t (zyC_b hC hE).1 (zyC_b hC hE).2.1 q; omega)]
  exact zCr_n (by decide) (r T t hC)
end
/-- the loop of a sum -/
noncomputable def zSmi (T : zyT) (t0 l4 l5 : Int) (g0 g : zi_M) (t : Int) (n : Nat) (L : List (Int × Int)) : Prop := zyC T g t ∧ zEa L g0 g ∧ zSu T t0 = zpre L (zFl T n l4 t) ∧ T.2.2.2 - t < n ∧ 2 * l5 ≤ t ∧ g 196 2 + (if l4 = -1 then 0 else 1) ≤ t
noncomputable def zSml (l3 l4 l5 : Int) (g0 g : zi_M) : Prop := ∀ (T : zyT) (t0 : Int), zyC T g0 t0 → zyE T → g0 196 2 ≤ t0 → (l3 = 1 ∧ ∃ (t : Int) (n : Nat) (L : List (Int × Int)), zSmi T t0 l4 l5 g0 g t n L) ∨ (l3 = 0 ∧ ¬ (zSu T t0).2.1 = 0 ∧ zyF T g (zSu T t0).2.1 (zSu T t0).2.2)
noncomputable def zSj (l4 l5 : Int) (g0 g : zi_M) : Prop := ∀ (T : zyT) (t0 : Int), zyC T g0 t0 → zyE T → g0 196 2 ≤ t0 → ∃ (t : Int) (n : Nat) (L : List (Int × Int)), zSmi T t0 l4 l5 g0 g t n L ∧ (zSg T 43 t ∨ zSg T 45 t)
noncomputable def zSx (l3 l4 : Int) (g0 g : zi_M) : Prop := ∀ (T : zyT) (t0 : Int), zyC T g0 t0 → zyE T → g0 196 2 ≤ t0 → (l3 = 1 ∧ ∃ (t : Int) (L : List (Int × Int)), zyC T g t ∧ zEa L g0 g ∧ zSu T t0 = (L ++ zLat l4, 0, t) ∧ (l4 = -1 ∨ g 196 2 < 400)) ∨ (l3 = 0 ∧ ¬ (zSu T t0).2.1 = 0 ∧ zyF T g (zSu T t0).2.1 (zSu T t0).2.2)
section
variable {g0 g g1 g2 g3 : zi_M} {v w x l3 l4 l5 : Int}
theorem zSml_0 (h : zcon zUn v g0 g) : zSml v (-1) 0 g0 g := fun T t0 hC hE hs => by
  have q := h T t0 hC hE hs
  by_cases z : (zUn T t0).2.1 = 0
  · obtain ⟨q1, q2, q3⟩ := q.1 z
    have b := zUn_b z
    have c := zyC_b hC hE
    refine Or.inl ⟨q1, (zUn T t0).2.2, 402, (zUn T t0).1, q2, q3, zbd_y z, by omega, by omega, ?_⟩
    rw [if_pos rfl, q3.1]
    omega
  · obtain ⟨q1, q2⟩ := q.2 z
    have e : zSu T t0 = zUn T t0 := zbd_n z
    refine Or.inr ⟨q1, ?_, ?_⟩
    · rw [e]; exact z
    · rw [e]; exact q2
/-- one of the units, parts behind a sign -/
theorem zSmi_k {T : zyT} {t0 t : Int} {m : Nat} {L M : List (Int × Int)} {r : zLR} {K : List (Int × Int)} {y : Int} (h : zSu T t0 = zpre L (zpre M (zbd r (fun u => zpre K (zFl T m y u))))) : (r.2.1 = 0 → zSu T t0 = zpre (L ++ M ++ r.1 ++ K) (zFl T m y r.2.2)) ∧ (¬ r.2.1 = 0 → (zSu T t0).2 = r.2) := by
  refine ⟨fun z => ?_, fun z => ?_⟩
  · rw [h, zbd_y z, zpre_p, zpre_p, zpre_p, List.append_assoc, List.append_assoc]
  · rw [h, zbd_n z]
    rfl
theorem zSmi_n {T : zyT} {t0 t : Int} {n : Nat} {L : List (Int × Int)} (h : zSmi T t0 l4 l5 g0 g t n L) : ∃ m : Nat, n = m + 1 := ⟨n - 1, by
  have a := h.2.2.2.1
  have b := h.1.2.1.2.2
  omega⟩
theorem zSml_m (h : zSml l3 l4 l5 g0 g) (c : ¬ l3 = 0) (n : ¬ x = 0) (b6 : g 191 4 < g 191 3 → ¬ g 192 (g 191 4) = 3 → x = 0) (b7 : g 191 4 < g 191 3 → g 192 (g 191 4) = 3 → ¬ g 193 (g 191 4) = 42 → x = 0) (s : zstp g g1) (F1 : zk_fr fr_Tokens_step g g1) (u : zcon zUn v g1 g2) (a : g2 196 2 < 400 → zEa [(4, 0)] g2 g3) (F3 : zk_fr fr_Law_add g2 g3) : zSml v l4 (l5 + 1) g0 g3 := fun T t0 hC hE hs => by
  rcases h T t0 hC hE hs with ⟨e1, t, k, L, si⟩ | ⟨e0, _⟩
  · obtain ⟨m, rfl⟩ := zSmi_n si
    obtain ⟨k1, k2, k3, k4, k5, k6⟩ := si
    have q := zis_y k1 b6 b7 n
    have c1 := s T t k1 hE (by omega)
    have e196 : g1 196 2 = g 196 2 := zsf_196 F1 196 2 (by decide) (by decide)
    have wl : (0 : Int) ≤ if l4 = -1 then 0 else 1 := by split <;> decide
    have u1 := u T (t + 1) c1 hE (by omega)
    have sp := zSmi_k (T := T) (t0 := t0) (t := t) (L := L) (M := []) (K := [(4, 0)]) (r := zUn T (t + 1)) (m := m) (y := l4) (by rw [zpre_0, ← zFl_m q]; exact k3)
    rw [List.append_nil] at sp
    by_cases z : (zUn T (t + 1)).2.1 = 0
    · obtain ⟨v1, c2, e2⟩ := u1.1 z
      have b := zUn_b z
      have b4 := (zyC_b c1 hE).2.2.2 (by omega)
      have n2 : g2 196 2 = g 196 2 + 1 := by rw [e2.1, e196]; omega
      have a1 := a (by omega)
      refine Or.inl ⟨v1, (zUn T (t + 1)).2.2, m, L ++ (zUn T (t + 1)).1 ++ [(4, 0)], zyC_m c2 (zaf_191 F3), zEa_t (zEa_t k2 (zEa_s e2 (zsf_196 F1))) a1, sp.1 z, by omega, by omega, ?_⟩
      rw [a1.1, n2, show (([((4 : Int), (0 : Int))] : List (Int × Int)).length : Int) = 1 from rfl]
      omega
    · obtain ⟨v0, f0⟩ := u1.2 z
      have e := sp.2 z
      refine Or.inr ⟨v0, ?_, ?_⟩
      · rw [e]; exact z
      · rw [e]; exact zyF_mm f0 (zaf_191 F3 191 5 (by decide) (by decide)) (zaf_191 F3 191 6 (by decide) (by decide))
  · exact absurd e0 c
theorem zSml_d (h : zSml l3 l4 l5 g0 g) (c : ¬ l3 = 0) (n : ¬ x = 0) (b6 : g 191 4 < g 191 3 → ¬ g 192 (g 191 4) = 3 → x = 0) (b7 : g 191 4 < g 191 3 → g 192 (g 191 4) = 3 → ¬ g 193 (g 191 4) = 47 → x = 0) (s : zstp g g1) (F1 : zk_fr fr_Tokens_step g g1) (u : zcon zPt v g1 g2) : zSml v l4 (l5 + 1) g0 g2 := fun T t0 hC hE hs => by
  rcases h T t0 hC hE hs with ⟨e1, t, k, L, si⟩ | ⟨e0, _⟩
  · obtain ⟨m, rfl⟩ := zSmi_n si
    obtain ⟨k1, k2, k3, k4, k5, k6⟩ := si
    have q := zis_y k1 b6 b7 n
    have c1 := s T t k1 hE (by omega)
    have e196 : g1 196 2 = g 196 2 := zsf_196 F1 196 2 (by decide) (by decide)
    have wl : (0 : Int) ≤ if l4 = -1 then 0 else 1 := by split <;> decide
    have u1 := u T (t + 1) c1 hE (by omega)
    have sp := zSmi_k (T := T) (t0 := t0) (t := t) (L := L) (M := []) (K := []) (r := zPt T (t + 1)) (m := m) (y := l4) (by rw [zpre_0]; show zSu T t0 = zpre L (zbd (zPt T (t + 1)) (fun u => zFl T m l4 u)); rw [← zFl_d q]; exact k3)
    rw [List.append_nil, List.append_nil] at sp
    by_cases z : (zPt T (t + 1)).2.1 = 0
    · obtain ⟨v1, c2, e2⟩ := u1.1 z
      have b := zPt_b z
      have n2 : g2 196 2 = g 196 2 + 1 := by rw [e2.1, e196]; omega
      refine Or.inl ⟨v1, (zPt T (t + 1)).2.2, m, L ++ (zPt T (t + 1)).1, c2, zEa_t k2 (zEa_s e2 (zsf_196 F1)), sp.1 z, by omega, by omega, by omega⟩
    · obtain ⟨v0, f0⟩ := u1.2 z
      have e := sp.2 z
      refine Or.inr ⟨v0, ?_, ?_⟩
      · rw [e]; exact z
      · rw [e]; exact f0
  · exact absurd e0 c
theorem zSj_p (h : zSml l3 l4 l5 g0 g) (c : ¬ l3 = 0) (n : ¬ x = 0) (b6 : g 191 4 < g 191 3 → ¬ g 192 (g 191 4) = 3 → x = 0) (b7 : g 191 4 < g 191 3 → g 192 (g 191 4) = 3 → ¬ g 193 (g 191 4) = 43 → x = 0) : zSj l4 l5 g0 g := fun T t0 hC hE hs => by
  rcases h T t0 hC hE hs with ⟨e1, t, k, L, si⟩ | ⟨e0, _⟩
  · exact ⟨t, k, L, si, Or.inl (zis_y si.1 b6 b7 n)⟩
  · exact absurd e0 c
theorem zSj_s (h : zSml l3 l4 l5 g0 g) (c : ¬ l3 = 0) (n : ¬ x = 0) (b6 : g 191 4 < g 191 3 → ¬ g 192 (g 191 4) = 3 → x = 0) (b7 : g 191 4 < g 191 3 → g 192 (g 191 4) = 3 → ¬ g 193 (g 191 4) = 45 → x = 0) : zSj l4 l5 g0 g := fun T t0 hC hE hs => by
  rcases h T t0 hC hE hs with ⟨e1, t, k, L, si⟩ | ⟨e0, _⟩
  · exact ⟨t, k, L, si, Or.inr (zis_y si.1 b6 b7 n)⟩
  · exact absurd e0 c
/-- behind + or - -/
theorem zSml_k {y : Int} {g16 g22 g25 : zi_M} (hy : y = 2 ∨ y = 3) (h : zSj l4 l5 g0 g) (al : (l4 = -1 ∨ g 196 2 < 400) → zEa (zLat l4) g g16) (F16 : zk_fr fr_LawReader_addLate g g16) (ty : ∀ (T : zyT) (t : Int), zyC T g16 t → (zSg T 43 t ∨ zSg T 45 t) → (y = 2 ∧ zSg T 43 t) ∨ (y = 3 ∧ zSg T 45 t)) (s : zstp g16 g22) (F22 : zk_fr fr_Tokens_step g16 g22) (u : zcon zUn v g22 g25) : zSml v y (l5 + 1) g0 g25 := fun T t0 hC hE hs => by
  obtain ⟨t, k, L, si, sg⟩ := h T t0 hC hE hs
  obtain ⟨m, rfl⟩ := zSmi_n si
  obtain ⟨k1, k2, k3, k4, k5, k6⟩ := si
  have b := zyC_b k1 hE
  have t4 : ¬ T.1 t = 4 := by rcases sg with q | q <;> (have := q.1; omega)
  have b4 := b.2.2.2 t4
  have k16 := zyC_m k1 (zlf_191 F16)
  have c1 := s T t k16 hE t4
  have e22 : g22 196 2 = g16 196 2 := zsf_196 F22 196 2 (by decide) (by decide)
  have wl := zLat_b l4
  have a1 := al (by split at k6 <;> omega)
  have n16 : g16 196 2 ≤ t := by rw [a1.1, wl]; exact k6
  have u1 := u T (t + 1) c1 hE (by omega)
  have eq : zSu T t0 = zpre L (zpre (zLat l4) (zbd (zUn T (t + 1)) (fun u => zpre [] (zFl T m y u)))) := by
    rw [k3]
    rcases ty T t k16 sg with ⟨e, q⟩ | ⟨e, q⟩
    · rw [zFl_p q, e]; rfl
    · rw [zFl_s q, e]; rfl
  have sp := zSmi_k (t := t) eq
  rw [List.append_nil] at sp
  by_cases z : (zUn T (t + 1)).2.1 = 0
  · obtain ⟨v1, c2, e2⟩ := u1.1 z
    have bu := zUn_b z
    refine Or.inl ⟨v1, (zUn T (t + 1)).2.2, m, L ++ zLat l4 ++ (zUn T (t + 1)).1, c2, zEa_t (zEa_t k2 a1) (zEa_s e2 (zsf_196 F22)), sp.1 z, by omega, by omega, ?_⟩
    rw [if_neg (by omega), e2.1, e22]
    omega
  · obtain ⟨v0, f0⟩ := u1.2 z
    have e := sp.2 z
    refine Or.inr ⟨v0, ?_, ?_⟩
    · rw [e]; exact z
    · rw [e]; exact f0
theorem zSml_p {g16 g22 g25 : zi_M} (h : zSj l4 l5 g0 g) (al : (l4 = -1 ∨ g 196 2 < 400) → zEa (zLat l4) g g16) (F16 : zk_fr fr_LawReader_addLate g g16) (n : ¬ x = 0) (b6 : g16 191 4 < g16 191 3 → ¬ g16 192 (g16 191 4) = 3 → x = 0) (b7 : g16 191 4 < g16 191 3 → g16 192 (g16 191 4) = 3 → ¬ g16 193 (g16 191 4) = 43 → x = 0) (s : zstp g16 g22) (F22 : zk_fr fr_Tokens_step g16 g22) (u : zcon zUn v g22 g25) : zSml v 2 (l5 + 1) g0 g25 :=
  zSml_k (Or.inl rfl) h al F16 (fun T t hC _ => Or.inl ⟨rfl, zis_y hC b6 b7 n⟩) s F22 u
theorem zSml_s {g16 g22 g25 : zi_M} (h : zSj l4 l5 g0 g) (al : (l4 = -1 ∨ g 196 2 < 400) → zEa (zLat l4) g g16) (F16 : zk_fr fr_LawReader_addLate g g16) (n : x = 0) (b8 : g16 191 4 < g16 191 3 → g16 192 (g16 191 4) = 3 → g16 193 (g16 191 4) = 43 → x = 1) (s : zstp g16 g22) (F22 : zk_fr fr_Tokens_step g16 g22) (u : zcon zUn v g22 g25) : zSml v 3 (l5 + 1) g0 g25 :=
  zSml_k (Or.inr rfl) h al F16 (fun T t hC q => q.elim (fun q => absurd q (zis_n hC b8 n)) (fun q => Or.inr ⟨rfl, q⟩)) s F22 u
theorem zSx_0 (h : zSml l3 l4 l5 g0 g) (c : l3 = 0) : zSx l3 l4 g0 g := fun T t0 hC hE hs => by
  rcases h T t0 hC hE hs with ⟨e1, _⟩ | q
  · omega
  · exact Or.inr q
theorem zSx_l (h : zSml l3 l4 l5 g0 g) (c : 400 ≤ l5) : zSx l3 l4 g0 g := fun T t0 hC hE hs => by
  rcases h T t0 hC hE hs with ⟨e1, t, k, L, si⟩ | q
  · have b := zyC_b si.1 hE
    have := si.2.2.2.2.1
    omega
  · exact Or.inr q
theorem zSx_e {x1 x2 x3 x4 : Int} (h : zSml l3 l4 l5 g0 g) (b1 : g 191 4 < g 191 3 → g 192 (g 191 4) = 3 → g 193 (g 191 4) = 42 → x1 = 1) (z1 : x1 = 0) (b2 : g 191 4 < g 191 3 → g 192 (g 191 4) = 3 → g 193 (g 191 4) = 47 → x2 = 1) (z2 : x2 = 0) (b3 : g 191 4 < g 191 3 → g 192 (g 191 4) = 3 → g 193 (g 191 4) = 43 → x3 = 1) (z3 : x3 = 0) (b4 : g 191 4 < g 191 3 → g 192 (g 191 4) = 3 → g 193 (g 191 4) = 45 → x4 = 1) (z4 : x4 = 0) : zSx l3 l4 g0 g := fun T t0 hC hE hs => by
  rcases h T t0 hC hE hs with ⟨e1, t, k, L, si⟩ | q
  · obtain ⟨m, rfl⟩ := zSmi_n si
    obtain ⟨k1, k2, k3, k4, k5, k6⟩ := si
    have b := zyC_b k1 hE
    rw [zFl_e (zis_n k1 b1 z1) (zis_n k1 b2 z2) (zis_n k1 b3 z3) (zis_n k1 b4 z4)] at k3
    refine Or.inl ⟨e1, t, L, k1, k2, k3, ?_⟩
    split at k6 <;> omega
  · exact Or.inr q
theorem zSx_c {g62 : zi_M} (x : zSx l3 l4 g0 g) (al : (l4 = -1 ∨ g 196 2 < 400) → zEa (zLat l4) g g62) (F : zk_fr fr_LawReader_addLate g g62) : zcon zSu l3 g0 g62 := fun T t0 hC hE hs => by
  rcases x T t0 hC hE hs with ⟨e1, t, L, k1, k2, k3, k4⟩ | ⟨q1, q2, q3⟩
  · rw [k3, e1]
    exact zCr_y (zyC_m k1 (zlf_191 F)) (zEa_t k2 (al k4))
  · exact ⟨fun z => absurd z q2, fun _ => ⟨q1, zyF_mm q3 (zlf_191 F 191 5 (by decide) (by decide)) (zlf_191 F 191 6 (by decide) (by decide))⟩⟩
/-- comparisons -/
noncomputable def zCj (s0 : Int) (g0 g : zi_M) : Prop := ∀ (T : zyT) (t0 : Int), zyC T g0 t0 → zyE T → g0 196 2 ≤ t0 → (zSu T t0).2.1 = 0 ∧ zyC T g (zSu T t0).2.2 ∧ zEa (zSu T t0).1 g0 g ∧ s0 = zop T (zSu T t0).2.2
theorem zCp_f (h : zcon zSu v g0 g) (c : v = 0) : zcon zCp 0 g0 g := fun T t0 hC hE hs => by
  have q := h T t0 hC hE hs
  have z : ¬ (zSu T t0).2.1 = 0 := fun z => by have := (q.1 z).1; omega
  have e : zCp T t0 = zSu T t0 := zbd_n z
  rw [e]
  exact ⟨fun y => absurd y z, fun _ => ⟨rfl, (q.2 z).2⟩⟩
theorem zCj_of {s0 : Int} (h : zcon zSu v g0 g) (c : ¬ v = 0) (o : ∀ (T : zyT) (t : Int), zyC T g t → s0 = zop T t) : zCj s0 g0 g := fun T t0 hC hE hs => by
  have q := h T t0 hC hE hs
  have z : (zSu T t0).2.1 = 0 := Classical.byContradiction (fun z => c (q.2 z).1)
  obtain ⟨q1, q2, q3⟩ := q.1 z
  exact ⟨z, q2, q3, o T _ q2⟩
theorem zop_6 {T : zyT} {t : Int} (h : zSg T 60 t) : 6 = zop T t := by unfold zop; rw [if_pos h]
theorem zop_7 {T : zyT} {t : Int} (h : zSg T 61 t) : 7 = zop T t := by unfold zop; rw [if_neg (zSg_n h (by decide)), if_pos h]
theorem zop_8 {T : zyT} {t : Int} (h : zSg T 62 t) : 8 = zop T t := by unfold zop; rw [if_neg (zSg_n h (by decide)), if_neg (zSg_n h (by decide)), if_pos h]
theorem zop_n {T : zyT} {t : Int} (h6 : ¬ zSg T 60 t) (h7 : ¬ zSg T 61 t) (h8 : ¬ zSg T 62 t) : -1 = zop T t := by unfold zop; rw [if_neg h6, if_neg h7, if_neg h8]
theorem zop_t {T : zyT} {t : Int} (h : ¬ zop T t = -1) : T.1 t = 3 := by
  by_cases h6 : zSg T 60 t
  · exact h6.1
  · by_cases h7 : zSg T 61 t
    · exact h7.1
    · by_cases h8 : zSg T 62 t
      · exact h8.1
      · exact absurd (zop_n h6 h7 h8).symm h
theorem zCj_6 (h : zcon zSu v g0 g) (c : ¬ v = 0) (n : ¬ x = 0) (b6 : g 191 4 < g 191 3 → ¬ g 192 (g 191 4) = 3 → x = 0) (b7 : g 191 4 < g 191 3 → g 192 (g 191 4) = 3 → ¬ g 193 (g 191 4) = 60 → x = 0) : zCj 6 g0 g := zCj_of h c (fun _ _ hC => zop_6 (zis_y hC b6 b7 n))
theorem zCj_7 (h : zcon zSu v g0 g) (c : ¬ v = 0) (n : ¬ x = 0) (b6 : g 191 4 < g 191 3 → ¬ g 192 (g 191 4) = 3 → x = 0) (b7 : g 191 4 < g 191 3 → g 192 (g 191 4) = 3 → ¬ g 193 (g 191 4) = 61 → x = 0) : zCj 7 g0 g := zCj_of h c (fun _ _ hC => zop_7 (zis_y hC b6 b7 n))
theorem zCj_8 (h : zcon zSu v g0 g) (c : ¬ v = 0) (n : ¬ x = 0) (b6 : g 191 4 < g 191 3 → ¬ g 192 (g 191 4) = 3 → x = 0) (b7 : g 191 4 < g 191 3 → g 192 (g 191 4) = 3 → ¬ g 193 (g 191 4) = 62 → x = 0) : zCj 8 g0 g := zCj_of h c (fun _ _ hC => zop_8 (zis_y hC b6 b7 n))
theorem zCj_n {x1 x2 x3 : Int} (h : zcon zSu v g0 g) (c : ¬ v = 0) (b1 : g 191 4 < g 191 3 → g 192 (g 191 4) = 3 → g 193 (g 191 4) = 60 → x1 = 1) (z1 : x1 = 0) (b2 : g 191 4 < g 191 3 → g 192 (g 191 4) = 3 → g 193 (g 191 4) = 61 → x2 = 1) (z2 : x2 = 0) (b3 : g 191 4 < g 191 3 → g 192 (g 191 4) = 3 → g 193 (g 191 4) = 62 → x3 = 1) (z3 : x3 = 0) : zCj (-1) g0 g := zCj_of h c (fun _ _ hC => zop_n (zis_n hC b1 z1) (zis_n hC b2 z2) (zis_n hC b3 z3))
theorem zCj_r {s0 : Int} (j : zCj s0 g0 g) (c : s0 = -1) (r : ∀ (T : zyT) (t : Int), zyC T g t → zyF T g1 1 t) (hw : 0 ≤ w ∧ w ≤ 0) : zcon zCp w g0 g1 := fun T t0 hC hE hs => by
  obtain ⟨z, k1, k2, k3⟩ := j T t0 hC hE hs
  have e : zCp T t0 = zpre (zSu T t0).1 ([], 1, (zSu T t0).2.2) := by
    unfold zCp
    rw [zbd_y z, if_pos (by rw [← k3]; exact c)]
  rw [e, show w = 0 by omega]
  exact zCr_n (f := 1) (by decide) (r T _ k1)
theorem zCj_s {s0 : Int} (j : zCj s0 g0 g) (c : ¬ s0 = -1) (s : zstp g g1) (F1 : zk_fr fr_Tokens_step g g1) (u : zcon zSu v g1 g2) : ∀ (T : zyT) (t0 : Int), zyC T g0 t0 → zyE T → g0 196 2 ≤ t0 → ∃ u0 : Int, (zSu T t0).2.1 = 0 ∧ u0 = (zSu T t0).2.2 ∧ zEa (zSu T t0).1 g0 g1 ∧ s0 = zop T u0 ∧ zCr T (zSu T (u0 + 1)) v g1 g2 ∧ g1 196 2 ≤ u0 := fun T t0 hC hE hs => by
  obtain ⟨z, k1, k2, k3⟩ := j T t0 hC hE hs
  have b := zSu_b z
  have q := zop_t (T := T) (t := (zSu T t0).2.2) (by rw [← k3]; exact c)
  have c1 := s T _ k1 hE (by omega)
  have e196 : g1 196 2 = g 196 2 := zsf_196 F1 196 2 (by decide) (by decide)
  have n : g1 196 2 ≤ (zSu T t0).2.2 := by rw [e196, k2.1]; omega
  exact ⟨(zSu T t0).2.2, z, rfl, zEa_m k2 (zsf_196 F1), k3, u T _ c1 hE (by omega), n⟩
theorem zCj_g {s0 : Int} (j : zCj s0 g0 g) (c : ¬ s0 = -1) (s : zstp g g1) (F1 : zk_fr fr_Tokens_step g g1) (u : zcon zSu v g1 g2) (c0 : v = 0) : zcon zCp 0 g0 g2 := fun T t0 hC hE hs => by
  obtain ⟨u0, z, e0, k2, k3, r, n⟩ := zCj_s j c s F1 u T t0 hC hE hs
  have y : ¬ (zSu T (u0 + 1)).2.1 = 0 := fun y => by have := (r.1 y).1; omega
  have e : zCp T t0 = zpre (zSu T t0).1 (zSu T (u0 + 1)) := by
    unfold zCp
    rw [zbd_y z, ← e0, if_neg (by rw [← k3]; exact c), zbd_n y]
  rw [e]
  exact ⟨fun q => absurd q y, fun _ => ⟨rfl, (r.2 y).2⟩⟩
theorem zCj_y {s0 : Int} (j : zCj s0 g0 g) (c : ¬ s0 = -1) (s : zstp g g1) (F1 : zk_fr fr_Tokens_step g g1) (u : zcon zSu v g1 g2) (c0 : ¬ v = 0) (a : g2 196 2 < 400 → zEa [(s0, 0)] g2 g3) (F3 : zk_fr fr_Law_add g2 g3) : zcon zCp 1 g0 g3 := fun T t0 hC hE hs => by
  obtain ⟨u0, z, e0, k2, k3, r, n⟩ := zCj_s j c s F1 u T t0 hC hE hs
  have y : (zSu T (u0 + 1)).2.1 = 0 := Classical.byContradiction (fun y => c0 (r.2 y).1)
  obtain ⟨r1, r2, r3⟩ := r.1 y
  have b := zSu_b y
  have b2 := zyC_b r2 hE
  have e : zCp T t0 = ((zSu T t0).1 ++ ((zSu T (u0 + 1)).1 ++ [(s0, 0)]), 0, (zSu T (u0 + 1)).2.2) := by
    unfold zCp
    rw [zbd_y z, ← e0, if_neg (by rw [← k3]; exact c), zbd_y y, ← k3]
    rfl
  rw [e]
  refine zCr_y (zyC_m r2 (zaf_191 F3)) (zEa_t k2 (zEa_t r3 (a ?_)))
  rw [r3.1]
  omega
end
