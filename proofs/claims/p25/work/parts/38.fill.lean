-- Arrays.fill
set_option maxRecDepth 100000 in
theorem zi_fill_l {E : sx_E} {d r N : Nat} (hr : zs_sh r = some (13, N)) {v : Int} {g0 : zi_M} : ∀ (k : Nat) {i : Int} {g : zi_M}, 0 ≤ i → i + (k : Int) = (N : Int) → (∀ a q, g a q = if a = r ∧ 0 ≤ q ∧ q < i then v else g0 a q) →
    zi_W E d 4 5 [some (.ref r), some (zi_i v), some (zi_i i), some (zi_i (N : Int))] [] g (zi_Qv (fun _ g' => g' = zi_fl g0 r (N : Int) v))
  | 0, i, g, h0, hk, hg => by
    have hN := (zs_lt hr).2
    simp only at hN
    refine zi_iload_n (pc' := 6) rfl rfl rfl ?_
    refine zi_iload_n (pc' := 7) rfl rfl rfl ?_
    refine zi_icmp_ge (x := 20) (pc' := 10) rfl rfl ⟨by omega, by omega⟩ ⟨by omega, by omega⟩ (fun c => ?_) (fun c => by omega)
    refine zi_vret rfl rfl ?_
    funext a q
    rw [hg]
    unfold zi_fl
    have : i = (N : Int) := by omega
    rw [this]
  | k + 1, i, g, h0, hk, hg => by
    have hN := (zs_lt hr).2
    simp only at hN
    refine zi_iload_n (pc' := 6) rfl rfl rfl ?_
    refine zi_iload_n (pc' := 7) rfl rfl rfl ?_
    refine zi_icmp_ge (x := 20) (pc' := 10) rfl rfl ⟨by omega, by omega⟩ ⟨by omega, by omega⟩ (fun c => by omega) (fun c => ?_)
    refine zi_aload_n (pc' := 11) rfl rfl rfl ?_
    refine zi_iload_n (pc' := 12) rfl rfl rfl ?_
    refine zi_iload_n (pc' := 13) rfl rfl rfl ?_
    refine zi_iast (pc' := 14) rfl rfl hr ⟨h0, c⟩ ?_
    refine zi_iinc (pc' := 17) [some _, some _, some _, some _] rfl rfl rfl rfl ?_
    refine zi_goto (x := 5) rfl ?_
    refine zi_fill_l hr k (i := i + 1) (by omega) (by omega) (fun a q => ?_)
    unfold zi_u
    rw [hg]
    by_cases h1 : a = r ∧ q = i
    · rw [if_pos h1, if_pos ⟨h1.1, by omega, by omega⟩]
    · rw [if_neg h1]
      by_cases h2 : a = r ∧ 0 ≤ q ∧ q < i
      · rw [if_pos h2, if_pos ⟨h2.1, by omega, by omega⟩]
      · rw [if_neg h2, if_neg (fun e => h2 ⟨e.1, e.2.1, by
          rcases Int.lt_or_eq_of_le (show q ≤ i by omega) with h | h
          · exact h
          · exact absurd ⟨e.1, h⟩ h1⟩)]
set_option maxRecDepth 100000 in
theorem zi_fill {E : sx_E} {r N : Nat} {n : Int} (hr : zs_sh r = some (13, N)) (hn : (N : Int) = n) {v : Int} {g : zi_M} : zi_S E 2 4 [.ref r, zi_i v] g (zi_Qv (fun _ g' => g' = zi_fl g r n v)) := by
  subst hn
  refine zi_Sof jf_4 [some (.ref r), some (zi_i v), none, none] rfl (And.intro rfl (And.intro rfl trivial)) ?_
  refine zi_iconst (pc' := 1) rfl rfl ?_
  refine zi_istore_n (pc' := 2) [some _, some _, some _, none] rfl rfl rfl ?_
  refine zi_aload_n (pc' := 3) rfl rfl rfl ?_
  refine zi_alen (pc' := 4) rfl rfl hr ?_
  refine zi_istore_n (pc' := 5) [some _, some _, some _, some _] rfl rfl rfl ?_
  exact zi_fill_l hr N (by omega) (by omega) (fun a q => by rw [if_neg (by omega)])
