-- mason: by the row, and by what both make of it
theorem rw_eq (x : Int32) (h1 : 0 ≤ x.toInt) (h2 : x.toInt ≤ 3210) : rw_m x = rw_C x := by
  obtain ⟨n, hn⟩ : ∃ n : Nat, x.toInt = n := ⟨x.toInt.toNat, by omega⟩
  have e : x = Int32.ofNat n := by
    rw [← Int32.ofInt_eq_ofNat, ← hn, Int32.ofInt_toInt]
  have h := List.all_eq_true.mp rw_k1 n (List.mem_range.mpr (by omega))
  rw [decide_eq_true_eq] at h
  rw [e]
  exact h
theorem rw_out (x : Int32) (h : x.toInt < 0 ∨ 3210 < x.toInt) : rw_C x = 0 := by
  rcases rw_c01 (0 + 1 + 1 + 1 + 1) 0 x with g | g
  · exact g
  · have h3 := rw_small (0 + 1 + 1 + 1 + 1) 0 x (by rw [g]; decide)
    have h4 : x.toInt.natAbs < 10000 := h3
    rcases h with h | h
    · obtain ⟨n, hn⟩ : ∃ n : Nat, x.toInt = -(n : Int) := ⟨x.toInt.natAbs, by omega⟩
      have h5 := List.all_eq_true.mp rw_k3 n (List.mem_range.mpr (by omega))
      rw [decide_eq_true_eq, ← hn, Int32.ofInt_toInt] at h5
      exact h5
    · obtain ⟨n, hn⟩ : ∃ n : Nat, x.toInt = (n : Int) := ⟨x.toInt.natAbs, by omega⟩
      have h5 := List.all_eq_true.mp rw_k2 n (List.mem_range.mpr (by omega))
      rw [Bool.or_eq_true, decide_eq_true_eq, ← Int32.ofInt_eq_ofNat, ← hn, Int32.ofInt_toInt] at h5
      rcases h5 with h5 | h5
      · have := Nat.le_of_ble_eq_true h5
        omega
      · exact h5
abbrev ax_SM : Type := Nat → List ax_V → ax_M → ax_N → Option (List (Option ax_V × ax_M × ax_N))
def rw_rg (N : ax_N) (ok : Int × Int → Bool) : Bool := match N[3]? with
  | some q => ok q
  | none => false
theorem rw_rg_e {N : ax_N} {ok : Int × Int → Bool} (h : rw_rg N ok = true) : ∃ q, N[3]? = some q ∧ ok q = true := by
  unfold rw_rg at h
  split at h
  · exact ⟨_, by assumption, h⟩
  · cases h
def rw_k12 (M : ax_M) : Bool := match M.2.1 214 with
  | some kd => Nat.beq kd.1 12
  | none => false
theorem rw_k12_e {M : ax_M} (h : rw_k12 M = true) : ∃ n0, M.2.1 214 = some (12, n0) := by
  unfold rw_k12 at h
  split at h
  · rename_i kd hk
    exact ⟨kd.2, by rw [hk, ← Nat.eq_of_beq_eq_true h]⟩
  · cases h
/-- no row, for the class: the number lies out of the range -/
def rw_sO : ax_SM := fun x as M N => bif (Nat.beq x 154 && (decide (as = [.inr (some (3, 0))]) && rw_rg N fun q => decide (q.2 < 0) || decide (3210 < q.1))) then some [(some (.inl (.int 0)), M, N)] else none
/-- a row or none: variable 6 says it -/
def rw_sI : ax_SM := fun x as M N => bif (Nat.beq x 154 && decide (as = [.inr (some (3, 0))])) then some [(some (.inr (some (6, 0))), M, N)] else bif (Nat.beq x 301 && (decide (as = [.inl (.ref 214), .inr (some (3, 0))]) && (rw_k12 M && rw_rg N fun q => decide (0 ≤ q.1) && decide (q.2 ≤ 3210)))) then some [(some (.inr (some (6, 0))), M, N)] else none
abbrev rw_B (E : sx_E) (ρ : Nat → Int) : Prop := a0_B E ρ ∧ ρ 6 = (rw_C (sx_xs E 3)).toInt
theorem rw_arg {ρ : Nat → Int} {w : List Value} (h : ax_rs ρ [.inr (some (3, 0))] w) : ∃ x : Int32, w = [.int x] ∧ x.toInt = ρ 3 := by
  obtain ⟨v, r, rfl, ⟨x, h1, h2⟩, h3⟩ := ax_rs1 h
  rw [ax_rs0 h3, h1]
  exact ⟨x, rfl, by rw [h2]; exact Int.add_zero _⟩
theorem rw_XOO {E : sx_E} (hL : sx_Ln E = 6) : ax_XO E (a0_B E) a0_Q (a0_X 6 rw_sO) := by
  have h0 := a0_XO hL
  refine ⟨h0.1, h0.2.1, h0.2.2.1, fun x as M N os ho ρ asv m hB has hm hN => ?_, h0.2.2.2.2⟩
  change rw_sO x as M N = some os at ho
  unfold rw_sO at ho
  cases hb : (Nat.beq x 154 && (decide (as = [.inr (some (3, 0))]) && rw_rg N fun q => decide (q.2 < 0) || decide (3210 < q.1))) with
  | false => rw [hb] at ho; cases ho
  | true =>
    rw [hb, cond_true] at ho
    cases ho
    simp only [Bool.and_eq_true, decide_eq_true_eq] at hb
    obtain ⟨b1, rfl, b3⟩ := hb
    have e1 : x = 154 := Nat.eq_of_beq_eq_true b1
    subst e1
    obtain ⟨y, rfl, hy⟩ := rw_arg has
    obtain ⟨q, q1, q2⟩ := rw_rg_e b3
    have q3 := hN 3 q q1
    rw [Bool.or_eq_true, decide_eq_true_eq, decide_eq_true_eq] at q2
    have e2 := rw_out y (by omega)
    exact rw_cS y ⟨_, List.mem_singleton.mpr rfl, by rw [e2]; rfl, hm, hN⟩
theorem rw_XOI {E : sx_E} (hL : sx_Ln E = 6) : ax_XO E (rw_B E) a0_Q (a0_X 6 rw_sI) := by
  have h0 := a0_XO hL
  refine ⟨h0.1, fun ρ h => h0.2.1 ρ h.1, h0.2.2.1, fun x as M N os ho ρ asv m hB has hm hN => ?_, fun a M N ρ v m hp hB => h0.2.2.2.2 a M N ρ v m hp hB.1⟩
  change rw_sI x as M N = some os at ho
  unfold rw_sI at ho
  have h3 : ρ 3 = (sx_xs E 3).toInt := hB.1 3 (by rw [hL]; decide)
  cases hb : (Nat.beq x 154 && decide (as = [.inr (some (3, 0))])) with
  | true =>
    rw [hb, cond_true] at ho
    cases ho
    simp only [Bool.and_eq_true, decide_eq_true_eq] at hb
    obtain ⟨b1, rfl⟩ := hb
    have e1 : x = 154 := Nat.eq_of_beq_eq_true b1
    subst e1
    obtain ⟨y, rfl, hy⟩ := rw_arg has
    have e2 : y = sx_xs E 3 := Int32.toInt_inj.mp (hy.trans h3)
    refine rw_cS y ⟨_, List.mem_singleton.mpr rfl, ⟨rw_C y, rfl, ?_⟩, hm, hN⟩
    rw [e2, hB.2]
    exact (Int.add_zero _).symm
  | false =>
    rw [hb, cond_false] at ho
    cases hc : (Nat.beq x 301 && (decide (as = [.inl (.ref 214), .inr (some (3, 0))]) && (rw_k12 M && rw_rg N fun q => decide (0 ≤ q.1) && decide (q.2 ≤ 3210)))) with
    | false => rw [hc] at ho; cases ho
    | true =>
      rw [hc, cond_true] at ho
      cases ho
      simp only [Bool.and_eq_true, decide_eq_true_eq] at hc
      obtain ⟨b1, rfl, b3, b4⟩ := hc
      have e1 : x = 301 := Nat.eq_of_beq_eq_true b1
      subst e1
      obtain ⟨v, r, rfl, g1, g2⟩ := ax_rs1 has
      have g3 : v = .ref 214 := g1
      subst g3
      obtain ⟨y, rfl, hy⟩ := rw_arg g2
      have e2 : y = sx_xs E 3 := Int32.toInt_inj.mp (hy.trans h3)
      obtain ⟨n0, k1⟩ := rw_k12_e b3
      obtain ⟨q, q1, q2⟩ := rw_rg_e b4
      have q3 := hN 3 q q1
      rw [Bool.and_eq_true, decide_eq_true_eq, decide_eq_true_eq] at q2
      have r1 : 0 ≤ y.toInt := by omega
      have r2 : y.toInt ≤ 3210 := by omega
      have c0 : (0 : Int32).toInt = 0 := by decide
      have c1 : (3210 : Int32).toInt = 3210 := by decide
      refine rw_mS y (hm.2.1 214 _ k1) (fun h => ?_) (fun h => ?_) ⟨_, List.mem_singleton.mpr rfl, ⟨rw_m y, rfl, ?_⟩, hm, hN⟩
      · rw [Int32.lt_iff_toInt_lt, c0] at h
        omega
      · rw [Int32.lt_iff_toInt_lt, c1] at h
        omega
      · rw [rw_eq y r1 r2, e2, hB.2]
        exact (Int.add_zero _).symm
def rw_T : ax_C := a0_at 1008 ((a0_all 6).set 3 (0, 3210) ++ [(0, 1)])
theorem rw_r0 : ax_run2 (a0_X 6 rw_sO) (fun _ => false) 900 [a0_at 1008 ((a0_all 6).set 3 (-2147483648, -1))] = true := by decide +kernel
theorem rw_r1 : ax_run2 (a0_X 6 rw_sI) (fun _ => false) 4600 [rw_T] = true := by decide +kernel
theorem rw_r2 : ax_run2 (a0_X 6 rw_sO) (fun _ => false) 900 [a0_at 1008 ((a0_all 6).set 3 (3211, 2147483647))] = true := by decide +kernel
theorem rw_l0 : ax_less [(6, .inl (.int 0))] rw_T (a0_at 1008 ((a0_all 6).set 3 (0, 3210))) = true := by decide +kernel
theorem rw_l1 : ax_less [(6, .inl (.int 1))] rw_T (a0_at 1008 ((a0_all 6).set 3 (0, 3210))) = true := by decide +kernel
theorem rw_B_ok {E : sx_E} (hL : sx_Ln E = 6) {ρ : Nat → Int} {c : Int32} (hB : a0_B E ρ) (hc : rw_C (sx_xs E 3) = c) : rw_B E (ax_rho ρ [(6, .inl (.int c))]) := by
  refine ⟨fun k hk => ?_, ?_⟩
  · have h6 : k < 6 := by rw [← hL]; exact hk
    have e : ax_rho ρ [(6, .inl (.int c))] k = ρ k := by
      show (match (bif Nat.beq 6 k then some (.inl (.int c)) else none : Option ax_V) with | some b => ax_ev ρ b | none => ρ k) = ρ k
      rw [sx_beq_ne (by omega)]
      rfl
    rw [e]
    exact hB k hk
  · rw [hc]
    rfl
theorem rw_G1 {E : sx_E} (hL : sx_Ln E = 6) : ax_G E (a0_B E) a0_Q (a0_at 1008 ((a0_all 6).set 3 (0, 3210))) := by
  have hT : ax_G E (rw_B E) a0_Q rw_T := ax_run2_ok (rw_XOI hL) a0_nost _ _ rw_r1 _ (List.mem_singleton.mpr rfl)
  refine ax_G_iff.mpr fun ρ hρ => ?_
  rcases rw_c01 (0 + 1 + 1 + 1 + 1) 0 (sx_xs E 3) with g | g
  · exact ax_less_ok a0_lt rw_l0 (ax_G_iff.mp hT _ (rw_B_ok hL hρ g))
  · exact ax_less_ok a0_lt rw_l1 (ax_G_iff.mp hT _ (rw_B_ok hL hρ g))
theorem a1_G26 {E : sx_E} (hL : sx_Ln E = 6) : ax_G E (a0_B E) a0_Q (a0_at 1008 (a0_all 6)) := ax_G.cuts 3 [-1, 3210] rfl (List.forall_mem_cons.mpr ⟨ax_run2_ok (rw_XOO hL) a0_nost _ _ rw_r0 _ (List.mem_singleton.mpr rfl), List.forall_mem_cons.mpr ⟨rw_G1 hL, List.forall_mem_cons.mpr ⟨ax_run2_ok (rw_XOO hL) a0_nost _ _ rw_r2 _ (List.mem_singleton.mpr rfl), fun _ h => absurd h List.not_mem_nil⟩⟩⟩)
