-- surmise: the summaries, and the run of the law with them
def sm_V (p n m : Int) : Int := if (0 ≤ p ∧ p ≤ 1000) ∧ (0 ≤ n ∧ n ≤ 20) ∧ 0 ≤ m ∧ m ≤ 20 then sm_S p n m else 0
theorem sm_V_in (p n m : Int) : 0 ≤ sm_V p n m ∧ sm_V p n m ≤ 1000000 := by
  unfold sm_V
  split
  · rename_i h
    have i1 := sm_it_in (a := 6) (b := 4) (by decide) (by decide) n.toNat (1000 * p) (by omega) (by omega)
    exact sm_it_in (a := 4) (b := 6) (by decide) (by decide) m.toNat _ i1.1 i1.2
  · exact ⟨by decide, by decide⟩
def sm_r1 (N : ax_N) (u : Nat) (hi : Int) : Bool := match N[u]? with
  | some q => decide (0 ≤ q.1) && decide (q.2 ≤ hi)
  | none => false
theorem sm_r1_e {ρ : Nat → Int} {N : ax_N} {u : Nat} {hi : Int} (h : sm_r1 N u hi = true) (hN : ax_sat ρ N) : 0 ≤ ρ u ∧ ρ u ≤ hi := by
  unfold sm_r1 at h
  split at h
  · rename_i q hq
    have h1 := hN u q hq
    rw [Bool.and_eq_true, decide_eq_true_eq, decide_eq_true_eq] at h
    omega
  · cases h
def sm_k (M : ax_M) : Bool := match M.2.1 214 with
  | some kd => Nat.beq kd.1 12 && (Nat.ble 1 kd.2 && decide ((M.2.2.1 214).2 0 = .inl (.int 0)))
  | none => false
def sm_rg (N : ax_N) : Bool := sm_r1 N 1 1000 && (sm_r1 N 2 20 && sm_r1 N 3 20)
def sm_sm : ax_SM := fun x as M N => bif (Nat.beq x 161 && (decide (as = [.inr (some (1, 0)), .inr (some (2, 0)), .inr (some (3, 0))]) && sm_rg N)) then some [(some (.inr (some (6, 0))), M, N)] else bif (Nat.beq x 308 && (decide (as = [.inl (.ref 214), .inr (some (1, 0)), .inr (some (2, 0)), .inr (some (3, 0))]) && (sm_k M && sm_rg N))) then some [(some (.inr (some (6, 0))), M, N)] else none
abbrev sm_B (E : sx_E) (ρ : Nat → Int) : Prop := a0_B E ρ ∧ ρ 6 = sm_V (ρ 1) (ρ 2) (ρ 3)
theorem sm_arg {ρ : Nat → Int} {w : List Value} (h : ax_rs ρ [.inr (some (1, 0)), .inr (some (2, 0)), .inr (some (3, 0))] w) : ∃ p n mm : Int32, w = [.int p, .int n, .int mm] ∧ p.toInt = ρ 1 ∧ n.toInt = ρ 2 ∧ mm.toInt = ρ 3 := by
  obtain ⟨v, r, rfl, ⟨x, h1, h2⟩, h3⟩ := ax_rs1 h
  obtain ⟨v2, r2, rfl, ⟨x2, g1, g2⟩, g3⟩ := ax_rs1 h3
  obtain ⟨v3, r3, rfl, ⟨x3, k1, k2⟩, k3⟩ := ax_rs1 g3
  rw [ax_rs0 k3, h1, g1, k1]
  exact ⟨x, x2, x3, rfl, by rw [h2]; exact Int.add_zero _, by rw [g2]; exact Int.add_zero _, by rw [k2]; exact Int.add_zero _⟩
theorem sm_XO {E : sx_E} (hL : sx_Ln E = 6) : ax_XO E (sm_B E) a0_Q (a0_X 6 sm_sm) := by
  have h0 := a0_XO hL
  refine ⟨h0.1, fun ρ h => h0.2.1 ρ h.1, h0.2.2.1, fun x as M N os ho ρ asv m hB has hm hN => ?_, fun a M N ρ v m hp hB => h0.2.2.2.2 a M N ρ v m hp hB.1⟩
  change sm_sm x as M N = some os at ho
  unfold sm_sm at ho
  cases hb : (Nat.beq x 161 && (decide (as = [.inr (some (1, 0)), .inr (some (2, 0)), .inr (some (3, 0))]) && sm_rg N)) with
  | true =>
    rw [hb, cond_true] at ho
    cases ho
    simp only [Bool.and_eq_true, decide_eq_true_eq, sm_rg] at hb
    obtain ⟨b1, rfl, b3, b4, b5⟩ := hb
    have e1 : x = 161 := Nat.eq_of_beq_eq_true b1
    subst e1
    obtain ⟨p, n, mm, rfl, y1, y2, y3⟩ := sm_arg has
    have c1 := sm_r1_e b3 hN
    have c2 := sm_r1_e b4 hN
    have c3 := sm_r1_e b5 hN
    refine sm_cS (by omega) (by omega) (by omega) (by omega) (by omega) (by omega) fun r hr => ⟨_, List.mem_singleton.mpr rfl, ⟨r, rfl, ?_⟩, hm, hN⟩
    rw [hr, hB.2, y1, y2, y3, sm_V, if_pos ⟨c1, c2, c3⟩]
    exact (Int.add_zero _).symm
  | false =>
    rw [hb, cond_false] at ho
    cases hc : (Nat.beq x 308 && (decide (as = [.inl (.ref 214), .inr (some (1, 0)), .inr (some (2, 0)), .inr (some (3, 0))]) && (sm_k M && sm_rg N))) with
    | false => rw [hc] at ho; cases ho
    | true =>
      rw [hc, cond_true] at ho
      cases ho
      simp only [Bool.and_eq_true, decide_eq_true_eq, sm_rg] at hc
      obtain ⟨b1, rfl, b2, b3, b4, b5⟩ := hc
      have e1 : x = 308 := Nat.eq_of_beq_eq_true b1
      subst e1
      obtain ⟨v, r, rfl, g1, g2⟩ := ax_rs1 has
      have g3 : v = .ref 214 := g1
      subst g3
      obtain ⟨p, n, mm, rfl, y1, y2, y3⟩ := sm_arg g2
      have c1 := sm_r1_e b3 hN
      have c2 := sm_r1_e b4 hN
      have c3 := sm_r1_e b5 hN
      unfold sm_k at b2
      split at b2
      · rename_i kd hk
        simp only [Bool.and_eq_true, decide_eq_true_eq] at b2
        have k1 : kd = (12, kd.2) := by rw [← Nat.eq_of_beq_eq_true b2.1]
        have k2 := hm.2.2.2 214 kd 0 hk (Nat.le_of_ble_eq_true b2.2.1)
        rw [b2.2.2] at k2
        have k3 : m.2.2.1 214 0 = 0 := by
          have : (Value.int (m.2.2.1 214 0)) = .int 0 := k2
          injection this
        have e : sx_up m.2.2.1 214 0 0 = m.2.2.1 := by
          funext i k
          by_cases hi : i = 214
          · subst hi
            rw [sx_up_eq]
            by_cases hk0 : k = 0
            · subst hk0
              rw [k3]
              rfl
            · show (bif Nat.beq k 0 then _ else _) = _
              rw [sx_beq_ne hk0]
              rfl
          · rw [sx_up_ne hi]
        refine sm_mS (n0 := kd.2) ((hm.2.1 214 kd hk).trans (by rw [← k1])) (by omega) (by omega) (by omega) (by omega) (by omega) (by omega) fun r hr => ?_
        rw [e]
        refine ⟨_, List.mem_singleton.mpr rfl, ⟨r, rfl, ?_⟩, hm, hN⟩
        rw [hr, hB.2, y1, y2, y3, sm_V, if_pos ⟨c1, c2, c3⟩]
        exact (Int.add_zero _).symm
      · cases b2
theorem a0_nv : ((List.range 251).all fun i => match a0_sh i with | none => true | some kd => (List.range kd.2).all fun k => match (a0_f i).2 k with | .inr (some _) => false | _ => true) = true := by decide +kernel
theorem a0_anyρ {ρ ρ' : Nat → Int} {m : sx_M} (hm : ax_rm ρ a0_M m) : ax_rm ρ' a0_M m := by
  refine ⟨hm.1, hm.2.1, hm.2.2.1, fun i kd k hi hk => ?_⟩
  have h0 := hm.2.2.2 i kd k hi hk
  have h1 := List.all_eq_true.mp a0_nv i (List.mem_range.mpr (a0_lt i kd hi))
  have hi' : a0_sh i = some kd := hi
  simp only [hi'] at h1
  have h2 := List.all_eq_true.mp h1 k (List.mem_range.mpr hk)
  change ax_r ρ ((a0_f i).2 k) _ at h0
  change ax_r ρ' ((a0_f i).2 k) _
  generalize (a0_f i).2 k = a at h0 h2
  match a, h0, h2 with
  | .inl v, h0, _ => exact h0
  | .inr none, h0, _ => exact h0
  | .inr (some q), _, h2 => cases h2
def sm_T : ax_C := a0_at 1090 (a0_all 6 ++ [(0, 1000000)])
theorem sm_run : ax_run2 (a0_X 6 sm_sm) (fun _ => false) 900 [sm_T] = true := by decide +kernel
theorem a1_G28 {E : sx_E} (hL : sx_Ln E = 6) : ax_G E (a0_B E) a0_Q (a0_at 1090 (a0_all 6)) := by
  have hT : ax_G E (sm_B E) a0_Q sm_T := ax_run2_ok (sm_XO hL) a0_nost _ _ sm_run _ (List.mem_singleton.mpr rfl)
  intro ρ ls st fs m hB hls hst hfs hm hN
  have els := a0_rl4 hls
  have est : st = [] := ax_rs0 hst
  have efs : fs = [] := by
    match fs, hfs with
    | [], _ => rfl
  have hv := sm_V_in (ρ 1) (ρ 2) (ρ 3)
  refine hT (fun u => bif Nat.beq u 6 then sm_V (ρ 1) (ρ 2) (ρ 3) else ρ u) ls st fs m ⟨fun k hk => ?_, rfl⟩ (by rw [els]; exact ⟨rfl, rfl, rfl, rfl, trivial⟩) (by rw [est]; trivial) (by rw [efs]; trivial) (a0_anyρ hm) (fun u q hu => ?_)
  · have h6 : k < 6 := by rw [← hL]; exact hk
    show (bif Nat.beq k 6 then _ else ρ k) = _
    rw [sx_beq_ne (by omega)]
    exact hB k hk
  · match u, hu with
    | 0, hu => cases hu; exact hN 0 _ rfl
    | 1, hu => cases hu; exact hN 1 _ rfl
    | 2, hu => cases hu; exact hN 2 _ rfl
    | 3, hu => cases hu; exact hN 3 _ rfl
    | 4, hu => cases hu; exact hN 4 _ rfl
    | 5, hu => cases hu; exact hN 5 _ rfl
    | 6, hu => cases hu; exact hv
    | u + 7, hu => cases hu
