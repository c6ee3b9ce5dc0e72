-- DAYS AS BOTH SEE THEM: one row of numbers: 0 .. 263 the row of days, 1000 .. the book, 2000 .. what waits
noncomputable def zite {α : Type} (P : Prop) (a b : α) : α := @ite α P (Classical.propDecidable P) a b
theorem zite_p {α : Type} {P : Prop} {a b : α} (h : P) : zite P a b = a := by unfold zite; exact if_pos h
theorem zite_n {α : Type} {P : Prop} {a b : α} (h : ¬ P) : zite P a b = b := by unfold zite; exact if_neg h
noncomputable def zca (r : Nat) (k : Int) : Nat := if k < 0 then 999 else if k < 6 then r else if k < 16 then r + 4 else if k < 26 then r + 5 else if k < 36 then r + 6 else if k < 236 then r + 7 else if k < 244 then r + 8 else if k < 252 then r + 9 else if k < 258 then r + 10 else if k < 264 then r + 11 else if k < 1000 then 999 else if k < 1600 then (if k % 4 = 0 then 15 else if k % 4 = 1 then 16 else if k % 4 = 2 then 17 else 18) else if k < 2000 then 999 else if k = 2000 then 177 else if k < 2091 then 179 else if k < 2101 then 999 else if k < 2191 then 178 else 999
noncomputable def zci (k : Int) : Int := if k < 6 then (if k = 0 then 17 else if k = 1 then 18 else if k = 2 then 19 else if k = 3 then 14 else if k = 4 then 15 else 16) else if k < 16 then k - 6 else if k < 26 then k - 16 else if k < 36 then k - 26 else if k < 236 then k - 36 else if k < 244 then k - 236 else if k < 252 then k - 244 else if k < 258 then k - 252 else if k < 264 then k - 258 else if k < 1600 then (k - 1000) / 4 else if k = 2000 then 2 else if k < 2091 then k - 2001 else k - 2101
noncomputable def zcq (k : Int) : Int := if 244 ≤ k ∧ k < 258 then 1 else 0
/-- where the row says something (T: how many sitters) -/
noncomputable def zdm (T k : Int) : Prop := (0 ≤ k ∧ k < 264 ∧ ¬ (244 ≤ k ∧ 244 + T ≤ k ∧ k < 252)) ∨ (1000 ≤ k ∧ k < 1600) ∨ (2000 ≤ k ∧ k < 2091) ∨ (2101 ≤ k ∧ k < 2191)
noncomputable def zVC (T : Int) (r : Nat) (g : zi_M) (k : Int) : Int := zite (zdm T k) (g (zca r k) (zci k) + zcq k) 0
noncomputable def zma (k : Int) : Nat := if k < 0 then 999 else if k < 264 then 215 else if k < 1000 then 999 else if k < 1600 then 221 else if k < 2000 then 999 else if k = 2000 then 214 else if k < 2091 then 237 else if k < 2101 then 999 else if k < 2191 then 238 else 999
noncomputable def zmi (k : Int) : Int := if k < 264 then k else if k < 1600 then k - 1000 else if k = 2000 then 43 else if k < 2091 then k - 2001 else k - 2101
noncomputable def zVM (T : Int) (g : zi_M) (k : Int) : Int := zite (zdm T k) (g (zma k) (zmi k)) 0
theorem zVC_u {T : Int} {r : Nat} {g : zi_M} {a : Nat} {i v K : Int} (h : zca r K = a ∧ zci K = i) (u : ∀ k, zca r k = a → zci k = i → k = K) (d : zdm T K) : zVC T r (zi_u g a i v) = zup (zVC T r g) K (v + zcq K) := funext fun k => by
  by_cases q : k = K
  · rw [q, zup_e]
    unfold zVC
    rw [zite_p d, h.1, h.2, zi_u_eq]
  · rw [zup_n q]
    unfold zVC
    by_cases dk : zdm T k
    · rw [zite_p dk, zite_p dk]
      by_cases p : zca r k = a
      · rw [p, zi_u_ni (fun e => q (u k p e))]
      · rw [zi_u_ne p]
    · rw [zite_n dk, zite_n dk]
theorem zVC_o {T : Int} {r : Nat} {g : zi_M} {a : Nat} {i v : Int} (u : ∀ k, zca r k ≠ a) : zVC T r (zi_u g a i v) = zVC T r g := funext fun k => by
  unfold zVC
  rw [zi_u_ne (u k)]
theorem zVM_u {T : Int} {g : zi_M} {a : Nat} {i v K : Int} (h : zma K = a ∧ zmi K = i) (u : ∀ k, zma k = a → zmi k = i → k = K) (d : zdm T K) : zVM T (zi_u g a i v) = zup (zVM T g) K v := funext fun k => by
  by_cases q : k = K
  · rw [q, zup_e]
    unfold zVM
    rw [zite_p d, h.1, h.2, zi_u_eq]
  · rw [zup_n q]
    unfold zVM
    by_cases dk : zdm T k
    · rw [zite_p dk, zite_p dk]
      by_cases p : zma k = a
      · rw [p, zi_u_ni (fun e => q (u k p e))]
      · rw [zi_u_ne p]
    · rw [zite_n dk, zite_n dk]
/-- where worlds lie -/
theorem zs_wb {r : Nat} (h : zs_sh r = some (10, 20)) : r = 2 ∨ r = 47 ∨ (93 ≤ r ∧ r ≤ 165) := by
  rcases zs_world r (zs_lt h).1 h with w | w | w
  · exact Or.inl w
  · exact Or.inr (Or.inl w)
  · exact Or.inr (Or.inr ⟨w.1, w.2.1⟩)
set_option maxHeartbeats 1000000 in
theorem zca_cases (r : Nat) (k : Int) : ((k < 0) ∧ zca r k = 999) ∨ ((0 ≤ k ∧ k < 6) ∧ zca r k = r) ∨ ((6 ≤ k ∧ k < 16) ∧ zca r k = r + 4) ∨ ((16 ≤ k ∧ k < 26) ∧ zca r k = r + 5) ∨ ((26 ≤ k ∧ k < 36) ∧ zca r k = r + 6) ∨ ((36 ≤ k ∧ k < 236) ∧ zca r k = r + 7) ∨ ((236 ≤ k ∧ k < 244) ∧ zca r k = r + 8) ∨ ((244 ≤ k ∧ k < 252) ∧ zca r k = r + 9) ∨ ((252 ≤ k ∧ k < 258) ∧ zca r k = r + 10) ∨ ((258 ≤ k ∧ k < 264) ∧ zca r k = r + 11) ∨ ((264 ≤ k ∧ k < 1000) ∧ zca r k = 999) ∨ ((1000 ≤ k ∧ k < 1600 ∧ k % 4 = 0) ∧ zca r k = 15) ∨ ((1000 ≤ k ∧ k < 1600 ∧ k % 4 = 1) ∧ zca r k = 16) ∨ ((1000 ≤ k ∧ k < 1600 ∧ k % 4 = 2) ∧ zca r k = 17) ∨ ((1000 ≤ k ∧ k < 1600 ∧ k % 4 = 3) ∧ zca r k = 18) ∨ ((1600 ≤ k ∧ k < 2000) ∧ zca r k = 999) ∨ ((k = 2000) ∧ zca r k = 177) ∨ ((2001 ≤ k ∧ k < 2091) ∧ zca r k = 179) ∨ ((2091 ≤ k ∧ k < 2101) ∧ zca r k = 999) ∨ ((2101 ≤ k ∧ k < 2191) ∧ zca r k = 178) ∨ ((2191 ≤ k) ∧ zca r k = 999) := by
  have reg : (k < 0) ∨ (0 ≤ k ∧ k < 6) ∨ (6 ≤ k ∧ k < 16) ∨ (16 ≤ k ∧ k < 26) ∨ (26 ≤ k ∧ k < 36) ∨ (36 ≤ k ∧ k < 236) ∨ (236 ≤ k ∧ k < 244) ∨ (244 ≤ k ∧ k < 252) ∨ (252 ≤ k ∧ k < 258) ∨ (258 ≤ k ∧ k < 264) ∨ (264 ≤ k ∧ k < 1000) ∨ (1000 ≤ k ∧ k < 1600 ∧ k % 4 = 0) ∨ (1000 ≤ k ∧ k < 1600 ∧ k % 4 = 1) ∨ (1000 ≤ k ∧ k < 1600 ∧ k % 4 = 2) ∨ (1000 ≤ k ∧ k < 1600 ∧ k % 4 = 3) ∨ (1600 ≤ k ∧ k < 2000) ∨ (k = 2000) ∨ (2001 ≤ k ∧ k < 2091) ∨ (2091 ≤ k ∧ k < 2101) ∨ (2101 ≤ k ∧ k < 2191) ∨ (2191 ≤ k) := by omega
  rcases reg with h | h | h | h | h | h | h | h | h | h | h | h | h | h | h | h | h | h | h | h | h
  · exact Or.inl ⟨h, by unfold zca; repeat (first | rw [if_neg (by omega)] | rw [if_pos (by omega)])⟩
  · exact Or.inr (Or.inl ⟨h, by unfold zca; repeat (first | rw [if_neg (by omega)] | rw [if_pos (by omega)])⟩)
  · exact Or.inr (Or.inr (Or.inl ⟨h, by unfold zca; repeat (first | rw [if_neg (by omega)] | rw [if_pos (by omega)])⟩))
  · exact Or.inr (Or.inr (Or.inr (Or.inl ⟨h, by unfold zca; repeat (first | rw [if_neg (by omega)] | rw [if_pos (by omega)])⟩)))
  · exact Or.inr (Or.inr (Or.inr (Or.inr (Or.inl ⟨h, by unfold zca; repeat (first | rw [if_neg (by omega)] | rw [if_pos (by omega)])⟩))))
  · exact Or.inr (Or.inr (Or.inr (Or.inr (Or.inr (Or.inl ⟨h, by unfold zca; repeat (first | rw [if_neg (by omega)] | rw [if_pos (by omega)])⟩)))))
  · exact Or.inr (Or.inr (Or.inr (Or.inr (Or.inr (Or.inr (Or.inl ⟨h, by unfold zca; repeat (first | rw [if_neg (by omega)] | rw [if_pos (by omega)])⟩))))))
  · exact Or.inr (Or.inr (Or.inr (Or.inr (Or.inr (Or.inr (Or.inr (Or.inl ⟨h, by unfold zca; repeat (first | rw [if_neg (by omega)] | rw [if_pos (by omega)])⟩)))))))
  · exact Or.inr (Or.inr (Or.inr (Or.inr (Or.inr (Or.inr (Or.inr (Or.inr (Or.inl ⟨h, by unfold zca; repeat (first | rw [if_neg (by omega)] | rw [if_pos (by omega)])⟩))))))))
  · exact Or.inr (Or.inr (Or.inr (Or.inr (Or.inr (Or.inr (Or.inr (Or.inr (Or.inr (Or.inl ⟨h, by unfold zca; repeat (first | rw [if_neg (by omega)] | rw [if_pos (by omega)])⟩)))))))))
  · exact Or.inr (Or.inr (Or.inr (Or.inr (Or.inr (Or.inr (Or.inr (Or.inr (Or.inr (Or.inr (Or.inl ⟨h, by unfold zca; repeat (first | rw [if_neg (by omega)] | rw [if_pos (by omega)])⟩))))))))))
  · exact Or.inr (Or.inr (Or.inr (Or.inr (Or.inr (Or.inr (Or.inr (Or.inr (Or.inr (Or.inr (Or.inr (Or.inl ⟨h, by unfold zca; repeat (first | rw [if_neg (by omega)] | rw [if_pos (by omega)])⟩)))))))))))
  · exact Or.inr (Or.inr (Or.inr (Or.inr (Or.inr (Or.inr (Or.inr (Or.inr (Or.inr (Or.inr (Or.inr (Or.inr (Or.inl ⟨h, by unfold zca; repeat (first | rw [if_neg (by omega)] | rw [if_pos (by omega)])⟩))))))))))))
  · exact Or.inr (Or.inr (Or.inr (Or.inr (Or.inr (Or.inr (Or.inr (Or.inr (Or.inr (Or.inr (Or.inr (Or.inr (Or.inr (Or.inl ⟨h, by unfold zca; repeat (first | rw [if_neg (by omega)] | rw [if_pos (by omega)])⟩)))))))))))))
  · exact Or.inr (Or.inr (Or.inr (Or.inr (Or.inr (Or.inr (Or.inr (Or.inr (Or.inr (Or.inr (Or.inr (Or.inr (Or.inr (Or.inr (Or.inl ⟨h, by unfold zca; repeat (first | rw [if_neg (by omega)] | rw [if_pos (by omega)])⟩))))))))))))))
  · exact Or.inr (Or.inr (Or.inr (Or.inr (Or.inr (Or.inr (Or.inr (Or.inr (Or.inr (Or.inr (Or.inr (Or.inr (Or.inr (Or.inr (Or.inr (Or.inl ⟨h, by unfold zca; repeat (first | rw [if_neg (by omega)] | rw [if_pos (by omega)])⟩)))))))))))))))
  · exact Or.inr (Or.inr (Or.inr (Or.inr (Or.inr (Or.inr (Or.inr (Or.inr (Or.inr (Or.inr (Or.inr (Or.inr (Or.inr (Or.inr (Or.inr (Or.inr (Or.inl ⟨h, by unfold zca; repeat (first | rw [if_neg (by omega)] | rw [if_pos (by omega)])⟩))))))))))))))))
  · exact Or.inr (Or.inr (Or.inr (Or.inr (Or.inr (Or.inr (Or.inr (Or.inr (Or.inr (Or.inr (Or.inr (Or.inr (Or.inr (Or.inr (Or.inr (Or.inr (Or.inr (Or.inl ⟨h, by unfold zca; repeat (first | rw [if_neg (by omega)] | rw [if_pos (by omega)])⟩)))))))))))))))))
  · exact Or.inr (Or.inr (Or.inr (Or.inr (Or.inr (Or.inr (Or.inr (Or.inr (Or.inr (Or.inr (Or.inr (Or.inr (Or.inr (Or.inr (Or.inr (Or.inr (Or.inr (Or.inr (Or.inl ⟨h, by unfold zca; repeat (first | rw [if_neg (by omega)] | rw [if_pos (by omega)])⟩))))))))))))))))))
  · exact Or.inr (Or.inr (Or.inr (Or.inr (Or.inr (Or.inr (Or.inr (Or.inr (Or.inr (Or.inr (Or.inr (Or.inr (Or.inr (Or.inr (Or.inr (Or.inr (Or.inr (Or.inr (Or.inr (Or.inl ⟨h, by unfold zca; repeat (first | rw [if_neg (by omega)] | rw [if_pos (by omega)])⟩)))))))))))))))))))
  · exact Or.inr (Or.inr (Or.inr (Or.inr (Or.inr (Or.inr (Or.inr (Or.inr (Or.inr (Or.inr (Or.inr (Or.inr (Or.inr (Or.inr (Or.inr (Or.inr (Or.inr (Or.inr (Or.inr (Or.inr (⟨h, by unfold zca; repeat (first | rw [if_neg (by omega)] | rw [if_pos (by omega)])⟩))))))))))))))))))))
set_option maxHeartbeats 1000000 in
theorem zma_cases (k : Int) : ((k < 0) ∧ zma k = 999) ∨ ((0 ≤ k ∧ k < 264) ∧ zma k = 215) ∨ ((264 ≤ k ∧ k < 1000) ∧ zma k = 999) ∨ ((1000 ≤ k ∧ k < 1600) ∧ zma k = 221) ∨ ((1600 ≤ k ∧ k < 2000) ∧ zma k = 999) ∨ ((k = 2000) ∧ zma k = 214) ∨ ((2001 ≤ k ∧ k < 2091) ∧ zma k = 237) ∨ ((2091 ≤ k ∧ k < 2101) ∧ zma k = 999) ∨ ((2101 ≤ k ∧ k < 2191) ∧ zma k = 238) ∨ ((2191 ≤ k) ∧ zma k = 999) := by
  have reg : (k < 0) ∨ (0 ≤ k ∧ k < 264) ∨ (264 ≤ k ∧ k < 1000) ∨ (1000 ≤ k ∧ k < 1600) ∨ (1600 ≤ k ∧ k < 2000) ∨ (k = 2000) ∨ (2001 ≤ k ∧ k < 2091) ∨ (2091 ≤ k ∧ k < 2101) ∨ (2101 ≤ k ∧ k < 2191) ∨ (2191 ≤ k) := by omega
  rcases reg with h | h | h | h | h | h | h | h | h | h
  · exact Or.inl ⟨h, by unfold zma; repeat (first | rw [if_neg (by omega)] | rw [if_pos (by omega)])⟩
  · exact Or.inr (Or.inl ⟨h, by unfold zma; repeat (first | rw [if_neg (by omega)] | rw [if_pos (by omega)])⟩)
  · exact Or.inr (Or.inr (Or.inl ⟨h, by unfold zma; repeat (first | rw [if_neg (by omega)] | rw [if_pos (by omega)])⟩))
  · exact Or.inr (Or.inr (Or.inr (Or.inl ⟨h, by unfold zma; repeat (first | rw [if_neg (by omega)] | rw [if_pos (by omega)])⟩)))
  · exact Or.inr (Or.inr (Or.inr (Or.inr (Or.inl ⟨h, by unfold zma; repeat (first | rw [if_neg (by omega)] | rw [if_pos (by omega)])⟩))))
  · exact Or.inr (Or.inr (Or.inr (Or.inr (Or.inr (Or.inl ⟨h, by unfold zma; repeat (first | rw [if_neg (by omega)] | rw [if_pos (by omega)])⟩)))))
  · exact Or.inr (Or.inr (Or.inr (Or.inr (Or.inr (Or.inr (Or.inl ⟨h, by unfold zma; repeat (first | rw [if_neg (by omega)] | rw [if_pos (by omega)])⟩))))))
  · exact Or.inr (Or.inr (Or.inr (Or.inr (Or.inr (Or.inr (Or.inr (Or.inl ⟨h, by unfold zma; repeat (first | rw [if_neg (by omega)] | rw [if_pos (by omega)])⟩)))))))
  · exact Or.inr (Or.inr (Or.inr (Or.inr (Or.inr (Or.inr (Or.inr (Or.inr (Or.inl ⟨h, by unfold zma; repeat (first | rw [if_neg (by omega)] | rw [if_pos (by omega)])⟩))))))))
  · exact Or.inr (Or.inr (Or.inr (Or.inr (Or.inr (Or.inr (Or.inr (Or.inr (Or.inr (⟨h, by unfold zma; repeat (first | rw [if_neg (by omega)] | rw [if_pos (by omega)])⟩)))))))))
set_option maxHeartbeats 1000000 in
theorem zca_in {r : Nat} (h : r = 2 ∨ r = 47 ∨ (93 ≤ r ∧ r ≤ 165)) (k : Int) : (zca r k = r → 0 ≤ k ∧ k < 6) ∧ (zca r k = r + 4 → 6 ≤ k ∧ k < 16) ∧ (zca r k = r + 5 → 16 ≤ k ∧ k < 26) ∧ (zca r k = r + 6 → 26 ≤ k ∧ k < 36) ∧ (zca r k = r + 7 → 36 ≤ k ∧ k < 236) ∧ (zca r k = r + 8 → 236 ≤ k ∧ k < 244) ∧ (zca r k = r + 9 → 244 ≤ k ∧ k < 252) ∧ (zca r k = r + 10 → 252 ≤ k ∧ k < 258) ∧ (zca r k = r + 11 → 258 ≤ k ∧ k < 264) ∧
    (zca r k = 15 → 1000 ≤ k ∧ k < 1600 ∧ k % 4 = 0) ∧ (zca r k = 16 → 1000 ≤ k ∧ k < 1600 ∧ k % 4 = 1) ∧ (zca r k = 17 → 1000 ≤ k ∧ k < 1600 ∧ k % 4 = 2) ∧ (zca r k = 18 → 1000 ≤ k ∧ k < 1600 ∧ k % 4 = 3) ∧ (zca r k = 177 → k = 2000) ∧ (zca r k = 179 → 2001 ≤ k ∧ k < 2091) ∧ (zca r k = 178 → 2101 ≤ k ∧ k < 2191) := by
  rcases zca_cases r k with q | q | q | q | q | q | q | q | q | q | q | q | q | q | q | q | q | q | q | q | q
  all_goals (refine ⟨?_, ?_, ?_, ?_, ?_, ?_, ?_, ?_, ?_, ?_, ?_, ?_, ?_, ?_, ?_, ?_⟩ <;> (intro e; omega))
/-- cells that it doesn't show -/
theorem zca_no {r : Nat} (h : r = 2 ∨ r = 47 ∨ (93 ≤ r ∧ r ≤ 165)) {a : Nat} (ha : a ≠ 999 ∧ a ≠ 15 ∧ a ≠ 16 ∧ a ≠ 17 ∧ a ≠ 18 ∧ a ≠ 177 ∧ a ≠ 178 ∧ a ≠ 179) (hb : a < r ∨ r + 11 < a) (k : Int) : zca r k ≠ a := by
  rcases zca_cases r k with q | q | q | q | q | q | q | q | q | q | q | q | q | q | q | q | q | q | q | q | q
  all_goals omega
theorem zci_f {k : Int} (h : 0 ≤ k ∧ k < 6) : zci k = if k = 0 then 17 else if k = 1 then 18 else if k = 2 then 19 else if k = 3 then 14 else if k = 4 then 15 else 16 := by
  unfold zci
  rw [if_pos h.2]
theorem zci_r : (∀ k : Int, 6 ≤ k → k < 16 → zci k = k - 6) ∧ (∀ k : Int, 16 ≤ k → k < 26 → zci k = k - 16) ∧ (∀ k : Int, 26 ≤ k → k < 36 → zci k = k - 26) ∧ (∀ k : Int, 36 ≤ k → k < 236 → zci k = k - 36) ∧ (∀ k : Int, 236 ≤ k → k < 244 → zci k = k - 236) ∧ (∀ k : Int, 244 ≤ k → k < 252 → zci k = k - 244) ∧ (∀ k : Int, 252 ≤ k → k < 258 → zci k = k - 252) ∧ (∀ k : Int, 258 ≤ k → k < 264 → zci k = k - 258) ∧ (∀ k : Int, 1000 ≤ k → k < 1600 → zci k = (k - 1000) / 4) ∧ zci 2000 = 2 ∧ (∀ k : Int, 2001 ≤ k → k < 2091 → zci k = k - 2001) ∧ (∀ k : Int, 2101 ≤ k → k < 2191 → zci k = k - 2101) := by
  refine ⟨?_, ?_, ?_, ?_, ?_, ?_, ?_, ?_, ?_, by decide, ?_, ?_⟩ <;> (intro k h0 h1; unfold zci; repeat (first | rw [if_neg (by omega)] | rw [if_pos (by omega)]))
set_option maxHeartbeats 1000000 in
theorem zca_at {r : Nat} : (∀ k : Int, 0 ≤ k → k < 6 → zca r k = r) ∧ (∀ k : Int, 6 ≤ k → k < 16 → zca r k = r + 4) ∧ (∀ k : Int, 16 ≤ k → k < 26 → zca r k = r + 5) ∧ (∀ k : Int, 26 ≤ k → k < 36 → zca r k = r + 6) ∧ (∀ k : Int, 36 ≤ k → k < 236 → zca r k = r + 7) ∧ (∀ k : Int, 236 ≤ k → k < 244 → zca r k = r + 8) ∧ (∀ k : Int, 244 ≤ k → k < 252 → zca r k = r + 9) ∧ (∀ k : Int, 252 ≤ k → k < 258 → zca r k = r + 10) ∧ (∀ k : Int, 258 ≤ k → k < 264 → zca r k = r + 11) ∧
    (∀ k : Int, 1000 ≤ k → k < 1600 → (k % 4 = 0 → zca r k = 15) ∧ (k % 4 = 1 → zca r k = 16) ∧ (k % 4 = 2 → zca r k = 17) ∧ (k % 4 = 3 → zca r k = 18)) ∧ zca r 2000 = 177 ∧ (∀ k : Int, 2001 ≤ k → k < 2091 → zca r k = 179) ∧ (∀ k : Int, 2101 ≤ k → k < 2191 → zca r k = 178) := by
  refine ⟨?_, ?_, ?_, ?_, ?_, ?_, ?_, ?_, ?_, ?_, by rfl, ?_, ?_⟩
  rotate_left 9
  · intro k h0 h1
    refine ⟨?_, ?_, ?_, ?_⟩ <;> (intro e; unfold zca; repeat (first | rw [if_neg (by omega)] | rw [if_pos (by omega)]))
  all_goals (intro k h0 h1; unfold zca; repeat (first | rw [if_neg (by omega)] | rw [if_pos (by omega)]))
theorem zcq_0 {k : Int} (h : k < 244 ∨ 258 ≤ k) : zcq k = 0 := by unfold zcq; exact if_neg (by omega)
theorem zcq_1 {k : Int} (h : 244 ≤ k ∧ k < 258) : zcq k = 1 := by unfold zcq; exact if_pos h
-- what a write does
section
variable {r : Nat} {g : zi_M} {i v T : Int}
theorem zV_day (h : r = 2 ∨ r = 47 ∨ (93 ≤ r ∧ r ≤ 165)) : zVC T r (zi_u g r 17 v) = zup (zVC T r g) 0 v := by
  have w := zVC_u (T := T) (r := r) (g := g) (a := r) (i := 17) (v := v) (K := 0) ⟨zca_at.1 0 (by decide) (by decide), by decide⟩ (fun k a b => by
    have q := (zca_in h k).1 a
    rw [zci_f q] at b
    repeat' split at b
    all_goals omega) (by unfold zdm; omega)
  rw [w, zcq_0 (by decide), Int.add_zero]
theorem zV_draw (h : r = 2 ∨ r = 47 ∨ (93 ≤ r ∧ r ≤ 165)) : zVC T r (zi_u g r 18 v) = zup (zVC T r g) 1 v := by
  have w := zVC_u (T := T) (r := r) (g := g) (a := r) (i := 18) (v := v) (K := 1) ⟨zca_at.1 1 (by decide) (by decide), by decide⟩ (fun k a b => by
    have q := (zca_in h k).1 a
    rw [zci_f q] at b
    repeat' split at b
    all_goals omega) (by unfold zdm; omega)
  rw [w, zcq_0 (by decide), Int.add_zero]
theorem zV_line (h : r = 2 ∨ r = 47 ∨ (93 ≤ r ∧ r ≤ 165)) : zVC T r (zi_u g r 19 v) = zup (zVC T r g) 2 v := by
  have w := zVC_u (T := T) (r := r) (g := g) (a := r) (i := 19) (v := v) (K := 2) ⟨zca_at.1 2 (by decide) (by decide), by decide⟩ (fun k a b => by
    have q := (zca_in h k).1 a
    rw [zci_f q] at b
    repeat' split at b
    all_goals omega) (by unfold zdm; omega)
  rw [w, zcq_0 (by decide), Int.add_zero]
theorem zV_rain (h : r = 2 ∨ r = 47 ∨ (93 ≤ r ∧ r ≤ 165)) : zVC T r (zi_u g r 14 v) = zup (zVC T r g) 3 v := by
  have w := zVC_u (T := T) (r := r) (g := g) (a := r) (i := 14) (v := v) (K := 3) ⟨zca_at.1 3 (by decide) (by decide), by decide⟩ (fun k a b => by
    have q := (zca_in h k).1 a
    rw [zci_f q] at b
    repeat' split at b
    all_goals omega) (by unfold zdm; omega)
  rw [w, zcq_0 (by decide), Int.add_zero]
theorem zV_said (h : r = 2 ∨ r = 47 ∨ (93 ≤ r ∧ r ≤ 165)) : zVC T r (zi_u g r 15 v) = zup (zVC T r g) 4 v := by
  have w := zVC_u (T := T) (r := r) (g := g) (a := r) (i := 15) (v := v) (K := 4) ⟨zca_at.1 4 (by decide) (by decide), by decide⟩ (fun k a b => by
    have q := (zca_in h k).1 a
    rw [zci_f q] at b
    repeat' split at b
    all_goals omega) (by unfold zdm; omega)
  rw [w, zcq_0 (by decide), Int.add_zero]
theorem zV_wrong (h : r = 2 ∨ r = 47 ∨ (93 ≤ r ∧ r ≤ 165)) : zVC T r (zi_u g r 16 v) = zup (zVC T r g) 5 v := by
  have w := zVC_u (T := T) (r := r) (g := g) (a := r) (i := 16) (v := v) (K := 5) ⟨zca_at.1 5 (by decide) (by decide), by decide⟩ (fun k a b => by
    have q := (zca_in h k).1 a
    rw [zci_f q] at b
    repeat' split at b
    all_goals omega) (by unfold zdm; omega)
  rw [w, zcq_0 (by decide), Int.add_zero]
theorem zV_mouth (h : r = 2 ∨ r = 47 ∨ (93 ≤ r ∧ r ≤ 165)) (hi : 0 ≤ i ∧ i < 10) : zVC T r (zi_u g (r + 4) i v) = zup (zVC T r g) (6 + i) v := by
  have w := zVC_u (T := T) (r := r) (g := g) (a := r + 4) (i := i) (v := v) (K := 6 + i) ⟨zca_at.2.1 _ (by omega) (by omega), by rw [zci_r.1 _ (by omega) (by omega)]; omega⟩ (fun k a b => by
    have q := (zca_in h k).2.1 a
    rw [zci_r.1 k q.1 q.2] at b
    omega) (by unfold zdm; omega)
  rw [w, zcq_0 (by omega), Int.add_zero]
theorem zV_dry (h : r = 2 ∨ r = 47 ∨ (93 ≤ r ∧ r ≤ 165)) (hi : 0 ≤ i ∧ i < 10) : zVC T r (zi_u g (r + 5) i v) = zup (zVC T r g) (16 + i) v := by
  have w := zVC_u (T := T) (r := r) (g := g) (a := r + 5) (i := i) (v := v) (K := 16 + i) ⟨zca_at.2.2.1 _ (by omega) (by omega), by rw [zci_r.2.1 _ (by omega) (by omega)]; omega⟩ (fun k a b => by
    have q := (zca_in h k).2.2.1 a
    rw [zci_r.2.1 k q.1 q.2] at b
    omega) (by unfold zdm; omega)
  rw [w, zcq_0 (by omega), Int.add_zero]
theorem zV_hc (h : r = 2 ∨ r = 47 ∨ (93 ≤ r ∧ r ≤ 165)) (hi : 0 ≤ i ∧ i < 10) : zVC T r (zi_u g (r + 6) i v) = zup (zVC T r g) (26 + i) v := by
  have w := zVC_u (T := T) (r := r) (g := g) (a := r + 6) (i := i) (v := v) (K := 26 + i) ⟨zca_at.2.2.2.1 _ (by omega) (by omega), by rw [zci_r.2.2.1 _ (by omega) (by omega)]; omega⟩ (fun k a b => by
    have q := (zca_in h k).2.2.2.1 a
    rw [zci_r.2.2.1 k q.1 q.2] at b
    omega) (by unfold zdm; omega)
  rw [w, zcq_0 (by omega), Int.add_zero]
theorem zV_hd (h : r = 2 ∨ r = 47 ∨ (93 ≤ r ∧ r ≤ 165)) (hi : 0 ≤ i ∧ i < 200) : zVC T r (zi_u g (r + 7) i v) = zup (zVC T r g) (36 + i) v := by
  have w := zVC_u (T := T) (r := r) (g := g) (a := r + 7) (i := i) (v := v) (K := 36 + i) ⟨zca_at.2.2.2.2.1 _ (by omega) (by omega), by rw [zci_r.2.2.2.1 _ (by omega) (by omega)]; omega⟩ (fun k a b => by
    have q := (zca_in h k).2.2.2.2.1 a
    rw [zci_r.2.2.2.1 k q.1 q.2] at b
    omega) (by unfold zdm; omega)
  rw [w, zcq_0 (by omega), Int.add_zero]
theorem zV_kn (h : r = 2 ∨ r = 47 ∨ (93 ≤ r ∧ r ≤ 165)) (hi : 0 ≤ i ∧ i < 8) : zVC T r (zi_u g (r + 8) i v) = zup (zVC T r g) (236 + i) v := by
  have w := zVC_u (T := T) (r := r) (g := g) (a := r + 8) (i := i) (v := v) (K := 236 + i) ⟨zca_at.2.2.2.2.2.1 _ (by omega) (by omega), by rw [zci_r.2.2.2.2.1 _ (by omega) (by omega)]; omega⟩ (fun k a b => by
    have q := (zca_in h k).2.2.2.2.2.1 a
    rw [zci_r.2.2.2.2.1 k q.1 q.2] at b
    omega) (by unfold zdm; omega)
  rw [w, zcq_0 (by omega), Int.add_zero]
theorem zV_at (h : r = 2 ∨ r = 47 ∨ (93 ≤ r ∧ r ≤ 165)) (hi : 0 ≤ i ∧ i < T) (hT : T ≤ 8) : zVC T r (zi_u g (r + 9) i v) = zup (zVC T r g) (244 + i) (v + 1) := by
  have w := zVC_u (T := T) (r := r) (g := g) (a := r + 9) (i := i) (v := v) (K := 244 + i) ⟨zca_at.2.2.2.2.2.2.1 _ (by omega) (by omega), by rw [zci_r.2.2.2.2.2.1 _ (by omega) (by omega)]; omega⟩ (fun k a b => by
    have q := (zca_in h k).2.2.2.2.2.2.1 a
    rw [zci_r.2.2.2.2.2.1 k q.1 q.2] at b
    omega) (by unfold zdm; omega)
  rw [w, zcq_1 (by omega)]
theorem zV_jar (h : r = 2 ∨ r = 47 ∨ (93 ≤ r ∧ r ≤ 165)) (hi : 0 ≤ i ∧ i < 6) : zVC T r (zi_u g (r + 10) i v) = zup (zVC T r g) (252 + i) (v + 1) := by
  have w := zVC_u (T := T) (r := r) (g := g) (a := r + 10) (i := i) (v := v) (K := 252 + i) ⟨zca_at.2.2.2.2.2.2.2.1 _ (by omega) (by omega), by rw [zci_r.2.2.2.2.2.2.1 _ (by omega) (by omega)]; omega⟩ (fun k a b => by
    have q := (zca_in h k).2.2.2.2.2.2.2.1 a
    rw [zci_r.2.2.2.2.2.2.1 k q.1 q.2] at b
    omega) (by unfold zdm; omega)
  rw [w, zcq_1 (by omega)]
theorem zV_ca (h : r = 2 ∨ r = 47 ∨ (93 ≤ r ∧ r ≤ 165)) (hi : 0 ≤ i ∧ i < 6) : zVC T r (zi_u g (r + 11) i v) = zup (zVC T r g) (258 + i) v := by
  have w := zVC_u (T := T) (r := r) (g := g) (a := r + 11) (i := i) (v := v) (K := 258 + i) ⟨zca_at.2.2.2.2.2.2.2.2.1 _ (by omega) (by omega), by rw [zci_r.2.2.2.2.2.2.2.1 _ (by omega) (by omega)]; omega⟩ (fun k a b => by
    have q := (zca_in h k).2.2.2.2.2.2.2.2.1 a
    rw [zci_r.2.2.2.2.2.2.2.1 k q.1 q.2] at b
    omega) (by unfold zdm; omega)
  rw [w, zcq_0 (by omega), Int.add_zero]
theorem zV_b0 (h : r = 2 ∨ r = 47 ∨ (93 ≤ r ∧ r ≤ 165)) (hi : 0 ≤ i ∧ i < 150) : zVC T r (zi_u g 15 i v) = zup (zVC T r g) (1000 + 4 * i) v := by
  have w := zVC_u (T := T) (r := r) (g := g) (a := 15) (i := i) (v := v) (K := 1000 + 4 * i) ⟨(zca_at.2.2.2.2.2.2.2.2.2.1 _ (by omega) (by omega)).1 (by omega), by rw [zci_r.2.2.2.2.2.2.2.2.1 _ (by omega) (by omega)]; omega⟩ (fun k a b => by
    have q := (zca_in h k).2.2.2.2.2.2.2.2.2.1 a
    rw [zci_r.2.2.2.2.2.2.2.2.1 k q.1 q.2.1] at b
    omega) (by unfold zdm; omega)
  rw [w, zcq_0 (by omega), Int.add_zero]
theorem zV_b1 (h : r = 2 ∨ r = 47 ∨ (93 ≤ r ∧ r ≤ 165)) (hi : 0 ≤ i ∧ i < 150) : zVC T r (zi_u g 16 i v) = zup (zVC T r g) (1001 + 4 * i) v := by
  have w := zVC_u (T := T) (r := r) (g := g) (a := 16) (i := i) (v := v) (K := 1001 + 4 * i) ⟨(zca_at.2.2.2.2.2.2.2.2.2.1 _ (by omega) (by omega)).2.1 (by omega), by rw [zci_r.2.2.2.2.2.2.2.2.1 _ (by omega) (by omega)]; omega⟩ (fun k a b => by
    have q := (zca_in h k).2.2.2.2.2.2.2.2.2.2.1 a
    rw [zci_r.2.2.2.2.2.2.2.2.1 k q.1 q.2.1] at b
    omega) (by unfold zdm; omega)
  rw [w, zcq_0 (by omega), Int.add_zero]
theorem zV_b2 (h : r = 2 ∨ r = 47 ∨ (93 ≤ r ∧ r ≤ 165)) (hi : 0 ≤ i ∧ i < 150) : zVC T r (zi_u g 17 i v) = zup (zVC T r g) (1002 + 4 * i) v := by
  have w := zVC_u (T := T) (r := r) (g := g) (a := 17) (i := i) (v := v) (K := 1002 + 4 * i) ⟨(zca_at.2.2.2.2.2.2.2.2.2.1 _ (by omega) (by omega)).2.2.1 (by omega), by rw [zci_r.2.2.2.2.2.2.2.2.1 _ (by omega) (by omega)]; omega⟩ (fun k a b => by
    have q := (zca_in h k).2.2.2.2.2.2.2.2.2.2.2.1 a
    rw [zci_r.2.2.2.2.2.2.2.2.1 k q.1 q.2.1] at b
    omega) (by unfold zdm; omega)
  rw [w, zcq_0 (by omega), Int.add_zero]
theorem zV_b3 (h : r = 2 ∨ r = 47 ∨ (93 ≤ r ∧ r ≤ 165)) (hi : 0 ≤ i ∧ i < 150) : zVC T r (zi_u g 18 i v) = zup (zVC T r g) (1003 + 4 * i) v := by
  have w := zVC_u (T := T) (r := r) (g := g) (a := 18) (i := i) (v := v) (K := 1003 + 4 * i) ⟨(zca_at.2.2.2.2.2.2.2.2.2.1 _ (by omega) (by omega)).2.2.2 (by omega), by rw [zci_r.2.2.2.2.2.2.2.2.1 _ (by omega) (by omega)]; omega⟩ (fun k a b => by
    have q := (zca_in h k).2.2.2.2.2.2.2.2.2.2.2.2.1 a
    rw [zci_r.2.2.2.2.2.2.2.2.1 k q.1 q.2.1] at b
    omega) (by unfold zdm; omega)
  rw [w, zcq_0 (by omega), Int.add_zero]
theorem zV_wn (h : r = 2 ∨ r = 47 ∨ (93 ≤ r ∧ r ≤ 165)) : zVC T r (zi_u g 177 2 v) = zup (zVC T r g) 2000 v := by
  have w := zVC_u (T := T) (r := r) (g := g) (a := 177) (i := 2) (v := v) (K := 2000) ⟨zca_at.2.2.2.2.2.2.2.2.2.2.1, zci_r.2.2.2.2.2.2.2.2.2.1⟩ (fun k a b => (zca_in h k).2.2.2.2.2.2.2.2.2.2.2.2.2.1 a) (by unfold zdm; omega)
  rw [w, zcq_0 (by omega), Int.add_zero]
theorem zV_wi (h : r = 2 ∨ r = 47 ∨ (93 ≤ r ∧ r ≤ 165)) (hi : 0 ≤ i ∧ i < 90) : zVC T r (zi_u g 179 i v) = zup (zVC T r g) (2001 + i) v := by
  have w := zVC_u (T := T) (r := r) (g := g) (a := 179) (i := i) (v := v) (K := 2001 + i) ⟨zca_at.2.2.2.2.2.2.2.2.2.2.2.1 _ (by omega) (by omega), by rw [zci_r.2.2.2.2.2.2.2.2.2.2.1 _ (by omega) (by omega)]; omega⟩ (fun k a b => by
    have q := (zca_in h k).2.2.2.2.2.2.2.2.2.2.2.2.2.2.1 a
    rw [zci_r.2.2.2.2.2.2.2.2.2.2.1 k q.1 q.2] at b
    omega) (by unfold zdm; omega)
  rw [w, zcq_0 (by omega), Int.add_zero]
theorem zV_ww (h : r = 2 ∨ r = 47 ∨ (93 ≤ r ∧ r ≤ 165)) (hi : 0 ≤ i ∧ i < 90) : zVC T r (zi_u g 178 i v) = zup (zVC T r g) (2101 + i) v := by
  have w := zVC_u (T := T) (r := r) (g := g) (a := 178) (i := i) (v := v) (K := 2101 + i) ⟨zca_at.2.2.2.2.2.2.2.2.2.2.2.2 _ (by omega) (by omega), by rw [zci_r.2.2.2.2.2.2.2.2.2.2.2 _ (by omega) (by omega)]; omega⟩ (fun k a b => by
    have q := (zca_in h k).2.2.2.2.2.2.2.2.2.2.2.2.2.2.2 a
    rw [zci_r.2.2.2.2.2.2.2.2.2.2.2 k q.1 q.2] at b
    omega) (by unfold zdm; omega)
  rw [w, zcq_0 (by omega), Int.add_zero]
-- the reference
theorem zN_row (hi : 0 ≤ i ∧ i < 264) (hT : ¬ (244 ≤ i ∧ 244 + T ≤ i ∧ i < 252)) : zVM T (zi_u g 215 i v) = zup (zVM T g) i v := by
  refine zVM_u ⟨?_, ?_⟩ (fun k a b => ?_) (by unfold zdm; omega)
  · unfold zma; rw [if_neg (by omega), if_pos hi.2]
  · unfold zmi; rw [if_pos hi.2]
  · rcases zma_cases k with q | q | q | q | q | q | q | q | q | q
    all_goals first | (exfalso; omega) | (unfold zmi at b; rw [if_pos (by omega)] at b; exact b)
theorem zN_bk (hi : 0 ≤ i ∧ i < 600) : zVM T (zi_u g 221 i v) = zup (zVM T g) (1000 + i) v := by
  refine zVM_u ⟨?_, ?_⟩ (fun k a b => ?_) (by unfold zdm; omega)
  · unfold zma; repeat (first | rw [if_neg (by omega)] | rw [if_pos (by omega)])
  · unfold zmi; rw [if_neg (by omega), if_pos (by omega)]; omega
  · rcases zma_cases k with q | q | q | q | q | q | q | q | q | q
    all_goals first | (exfalso; omega) | (unfold zmi at b; rw [if_neg (by omega), if_pos (by omega)] at b; omega)
theorem zN_wn : zVM T (zi_u g 214 43 v) = zup (zVM T g) 2000 v := by
  refine zVM_u ⟨by decide, by decide⟩ (fun k a b => ?_) (by unfold zdm; omega)
  rcases zma_cases k with q | q | q | q | q | q | q | q | q | q
  all_goals omega
theorem zN_wi (hi : 0 ≤ i ∧ i < 90) : zVM T (zi_u g 237 i v) = zup (zVM T g) (2001 + i) v := by
  refine zVM_u ⟨?_, ?_⟩ (fun k a b => ?_) (by unfold zdm; omega)
  · unfold zma; repeat (first | rw [if_neg (by omega)] | rw [if_pos (by omega)])
  · unfold zmi; repeat (first | rw [if_neg (by omega)] | rw [if_pos (by omega)])
    omega
  · rcases zma_cases k with q | q | q | q | q | q | q | q | q | q
    all_goals first | (exfalso; omega) | (unfold zmi at b; (repeat (first | rw [if_neg (by omega)] at b | rw [if_pos (by omega)] at b)); omega)
theorem zN_ww (hi : 0 ≤ i ∧ i < 90) : zVM T (zi_u g 238 i v) = zup (zVM T g) (2101 + i) v := by
  refine zVM_u ⟨?_, ?_⟩ (fun k a b => ?_) (by unfold zdm; omega)
  · unfold zma; repeat (first | rw [if_neg (by omega)] | rw [if_pos (by omega)])
  · unfold zmi; repeat (first | rw [if_neg (by omega)] | rw [if_pos (by omega)])
    omega
  · rcases zma_cases k with q | q | q | q | q | q | q | q | q | q
    all_goals first | (exfalso; omega) | (unfold zmi at b; (repeat (first | rw [if_neg (by omega)] at b | rw [if_pos (by omega)] at b)); omega)
end
theorem zVM_o {T : Int} {g : zi_M} {a : Nat} {i v : Int} (h : a ≠ 999 ∧ a ≠ 215 ∧ a ≠ 221 ∧ a ≠ 237 ∧ a ≠ 238 ∧ (a ≠ 214 ∨ i ≠ 43)) : zVM T (zi_u g a i v) = zVM T g := funext fun k => by
  unfold zVM
  by_cases q : zma k = a ∧ zmi k = i
  · exfalso
    obtain ⟨q1, q2⟩ := q
    have hk : k = 2000 ∧ a = 214 := by
      rcases zma_cases k with q | q | q | q | q | q | q | q | q | q
      all_goals omega
    rw [hk.1] at q2
    have : zmi 2000 = 43 := by decide
    omega
  · by_cases p : zma k = a
    · rw [p, zi_u_ni (fun e => q ⟨p, e⟩)]
    · rw [zi_u_ne p]
/-- reading: a world's cells -/
theorem zVC_f {T : Int} {r : Nat} {g : zi_M} {k : Int} (d : zdm T k) : zVC T r g k = g (zca r k) (zci k) + zcq k := zite_p d
theorem zVC_rd {T : Int} {r : Nat} {g : zi_M} : zVC T r g 0 = g r 17 ∧ zVC T r g 1 = g r 18 ∧ zVC T r g 2 = g r 19 ∧ zVC T r g 3 = g r 14 ∧ zVC T r g 4 = g r 15 ∧ zVC T r g 5 = g r 16 ∧ (∀ i : Int, 0 ≤ i → i < 10 → zVC T r g (6 + i) = g (r + 4) i) ∧ (∀ i : Int, 0 ≤ i → i < 10 → zVC T r g (16 + i) = g (r + 5) i) ∧ (∀ i : Int, 0 ≤ i → i < 10 → zVC T r g (26 + i) = g (r + 6) i) ∧ (∀ i : Int, 0 ≤ i → i < 200 → zVC T r g (36 + i) = g (r + 7) i) ∧ (∀ i : Int, 0 ≤ i → i < 8 → zVC T r g (236 + i) = g (r + 8) i) ∧ (∀ i : Int, 0 ≤ i → i < 8 → i < T → zVC T r g (244 + i) = g (r + 9) i + 1) ∧ (∀ i : Int, 0 ≤ i → i < 6 → zVC T r g (252 + i) = g (r + 10) i + 1) ∧ (∀ i : Int, 0 ≤ i → i < 6 → zVC T r g (258 + i) = g (r + 11) i) := by
  refine ⟨?_, ?_, ?_, ?_, ?_, ?_, ?_, ?_, ?_, ?_, ?_, ?_, ?_, ?_⟩
  · rw [zVC_f (by unfold zdm; omega)]; exact Int.add_zero _
  · rw [zVC_f (by unfold zdm; omega)]; exact Int.add_zero _
  · rw [zVC_f (by unfold zdm; omega)]; exact Int.add_zero _
  · rw [zVC_f (by unfold zdm; omega)]; exact Int.add_zero _
  · rw [zVC_f (by unfold zdm; omega)]; exact Int.add_zero _
  · rw [zVC_f (by unfold zdm; omega)]; exact Int.add_zero _
  · intro i h0 h1; rw [zVC_f (by unfold zdm; omega), zca_at.2.1 _ (by omega) (by omega), zci_r.1 _ (by omega) (by omega), zcq_0 (by omega), Int.add_zero, show 6 + i - 6 = i by omega]
  · intro i h0 h1; rw [zVC_f (by unfold zdm; omega), zca_at.2.2.1 _ (by omega) (by omega), zci_r.2.1 _ (by omega) (by omega), zcq_0 (by omega), Int.add_zero, show 16 + i - 16 = i by omega]
  · intro i h0 h1; rw [zVC_f (by unfold zdm; omega), zca_at.2.2.2.1 _ (by omega) (by omega), zci_r.2.2.1 _ (by omega) (by omega), zcq_0 (by omega), Int.add_zero, show 26 + i - 26 = i by omega]
  · intro i h0 h1; rw [zVC_f (by unfold zdm; omega), zca_at.2.2.2.2.1 _ (by omega) (by omega), zci_r.2.2.2.1 _ (by omega) (by omega), zcq_0 (by omega), Int.add_zero, show 36 + i - 36 = i by omega]
  · intro i h0 h1; rw [zVC_f (by unfold zdm; omega), zca_at.2.2.2.2.2.1 _ (by omega) (by omega), zci_r.2.2.2.2.1 _ (by omega) (by omega), zcq_0 (by omega), Int.add_zero, show 236 + i - 236 = i by omega]
  · intro i h0 h1 h2; rw [zVC_f (by unfold zdm; omega), zca_at.2.2.2.2.2.2.1 _ (by omega) (by omega), zci_r.2.2.2.2.2.1 _ (by omega) (by omega), zcq_1 (by omega), show 244 + i - 244 = i by omega]
  · intro i h0 h1; rw [zVC_f (by unfold zdm; omega), zca_at.2.2.2.2.2.2.2.1 _ (by omega) (by omega), zci_r.2.2.2.2.2.2.1 _ (by omega) (by omega), zcq_1 (by omega), show 252 + i - 252 = i by omega]
  · intro i h0 h1; rw [zVC_f (by unfold zdm; omega), zca_at.2.2.2.2.2.2.2.2.1 _ (by omega) (by omega), zci_r.2.2.2.2.2.2.2.1 _ (by omega) (by omega), zcq_0 (by omega), Int.add_zero, show 258 + i - 258 = i by omega]
theorem zVC_rw {T : Int} {r : Nat} {g : zi_M} : zVC T r g 2000 = g 177 2 ∧ (∀ i : Int, 0 ≤ i → i < 90 → zVC T r g (2001 + i) = g 179 i) ∧ (∀ i : Int, 0 ≤ i → i < 90 → zVC T r g (2101 + i) = g 178 i) := by
  refine ⟨by rw [zVC_f (by unfold zdm; omega)]; exact Int.add_zero _, ?_, ?_⟩
  · intro i h0 h1; rw [zVC_f (by unfold zdm; omega), zca_at.2.2.2.2.2.2.2.2.2.2.2.1 _ (by omega) (by omega), zci_r.2.2.2.2.2.2.2.2.2.2.1 _ (by omega) (by omega), zcq_0 (by omega), Int.add_zero, show 2001 + i - 2001 = i by omega]
  · intro i h0 h1; rw [zVC_f (by unfold zdm; omega), zca_at.2.2.2.2.2.2.2.2.2.2.2.2 _ (by omega) (by omega), zci_r.2.2.2.2.2.2.2.2.2.2.2 _ (by omega) (by omega), zcq_0 (by omega), Int.add_zero, show 2101 + i - 2101 = i by omega]
theorem zVM_f {T : Int} {g : zi_M} {k : Int} (d : zdm T k) : zVM T g k = g (zma k) (zmi k) := zite_p d
theorem zVM_r {T : Int} {g : zi_M} {i : Int} (h : 0 ≤ i ∧ i < 264) (hT : ¬ (244 ≤ i ∧ 244 + T ≤ i ∧ i < 252)) : zVM T g i = g 215 i := by
  rw [zVM_f (by unfold zdm; omega), show zma i = 215 by unfold zma; rw [if_neg (by omega), if_pos h.2], show zmi i = i by unfold zmi; rw [if_pos h.2]]
theorem zVM_w {T : Int} {g : zi_M} : zVM T g 2000 = g 214 43 ∧ (∀ i : Int, 0 ≤ i → i < 90 → zVM T g (2001 + i) = g 237 i) ∧ (∀ i : Int, 0 ≤ i → i < 90 → zVM T g (2101 + i) = g 238 i) := by
  refine ⟨zVM_f (by unfold zdm; omega), ?_, ?_⟩
  · intro i h0 h1
    rw [zVM_f (by unfold zdm; omega), show zma (2001 + i) = 237 by unfold zma; repeat (first | rw [if_neg (by omega)] | rw [if_pos (by omega)]), show zmi (2001 + i) = i by unfold zmi; repeat (first | rw [if_neg (by omega)] | rw [if_pos (by omega)]); omega]
  · intro i h0 h1
    rw [zVM_f (by unfold zdm; omega), show zma (2101 + i) = 238 by unfold zma; repeat (first | rw [if_neg (by omega)] | rw [if_pos (by omega)]), show zmi (2101 + i) = i by unfold zmi; repeat (first | rw [if_neg (by omega)] | rw [if_pos (by omega)]); omega]
