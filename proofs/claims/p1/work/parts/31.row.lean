-- a row of four: the class's reading and the reference's
def rw_c : Nat → Int32 → Int32 → Int32
  | 0, met, rest => if rest = 0 then (if met = 15 then 1 else 0) else 0
  | k + 1, met, rest => if rest - rest / 10 * 10 < 0 then 0 else if rest - rest / 10 * 10 < 4 then rw_c k (met ||| ((1 : Int32) <<< ((rest - rest / 10 * 10) &&& 31))) (rest / 10) else 0
theorem rw_cs (k : Nat) (met rest : Int32) : rw_c (k + 1) met rest = if rest - rest / 10 * 10 < 0 then 0 else if rest - rest / 10 * 10 < 4 then rw_c k (met ||| ((1 : Int32) <<< ((rest - rest / 10 * 10) &&& 31))) (rest / 10) else 0 := rfl
theorem rw_c01 : ∀ (k : Nat) (met rest : Int32), rw_c k met rest = 0 ∨ rw_c k met rest = 1
  | 0, met, rest => by
    unfold rw_c
    split
    · split
      · exact Or.inr rfl
      · exact Or.inl rfl
    · exact Or.inl rfl
  | k + 1, met, rest => by
    rw [rw_cs]
    split
    · exact Or.inl rfl
    · split
      · exact rw_c01 k _ _
      · exact Or.inl rfl
set_option maxRecDepth 100000 in
theorem rw_cb {E : sx_E} {d : Nat} {m : sx_M} {Q : Option Value → sx_M → Prop} (i met rest a : Int32) (w : Option Value) (hi : ¬ (4 : Int32) ≤ i) (h0 : ((rest - rest / 10 * 10) < 0 ∨ ¬ (rest - rest / 10 * 10) < 4) → Q (some (.int 0)) m) (h1 : ¬ (rest - rest / 10 * 10) < 0 → (rest - rest / 10 * 10) < 4 → sx_W E d 0 0 154 6 [some (.int a), some (.int (met ||| ((1 : Int32) <<< ((rest - rest / 10 * 10) &&& 31)))), some (.int (rest / 10)), some (.int (i + 1)), some (.int (rest - rest / 10 * 10))] [] m Q) : sx_W E d 0 0 154 6 [some (.int a), some (.int met), some (.int rest), some (.int i), w] [] m Q := by
  refine sx_iload_n (w := 3) (n := 1) (x := 0) (y := 0) (z := 0) rfl rfl ?_
  refine sx_iconst (q := 4) (n := 1) (x := 0) (y := 0) (z := 4) rfl ?_
  refine sx_icmp (cd := .ge) (off := 40) (n := 3) (x := 48) (y := 0) (z := 0) rfl ⟨fun hc => absurd hc hi, fun _ => ?_⟩
  refine sx_iload_n (w := 2) (n := 1) (x := 0) (y := 0) (z := 0) rfl rfl ?_
  refine sx_bipush (q := 10) (n := 2) (x := 0) (y := 0) (z := 10) rfl ?_
  refine sx_irem (n := 1) (x := 0) (y := 0) (z := 0) rfl (by decide) ?_
  refine sx_istore (i := 4) (n := 2) (x := 0) (y := 0) (z := 0) rfl ?_
  refine sx_iload (i := 4) (n := 2) (x := 0) (y := 0) (z := 0) rfl rfl ?_
  refine sx_if (cd := .lt) (off := 9) (n := 3) (x := 28) (y := 0) (z := 0) rfl ⟨fun h => ?_, fun h => ?_⟩
  · refine sx_iconst (q := 0) (n := 1) (x := 0) (y := 0) (z := 0) rfl ?_
    exact sx_iret (n := 1) (x := 0) (y := 0) (z := 0) rfl (Or.inr ⟨rfl, Or.inl rfl⟩) (h0 (Or.inl h))
  · refine sx_iload (i := 4) (n := 2) (x := 0) (y := 0) (z := 0) rfl rfl ?_
    refine sx_iconst (q := 4) (n := 1) (x := 0) (y := 0) (z := 4) rfl ?_
    refine sx_icmp (cd := .lt) (off := 5) (n := 3) (x := 30) (y := 0) (z := 0) rfl ⟨fun h2 => ?_, fun h2 => ?_⟩
    · refine sx_iload_n (w := 1) (n := 1) (x := 0) (y := 0) (z := 0) rfl rfl ?_
      refine sx_iconst (q := 1) (n := 1) (x := 0) (y := 0) (z := 1) rfl ?_
      refine sx_iload (i := 4) (n := 2) (x := 0) (y := 0) (z := 0) rfl rfl ?_
      refine sx_ishl (n := 1) (x := 0) (y := 0) (z := 0) rfl ?_
      refine sx_ior (n := 1) (x := 0) (y := 0) (z := 0) rfl ?_
      refine sx_istore_n (w := 1) (n := 1) (x := 0) (y := 0) (z := 0) rfl ?_
      refine sx_iload_n (w := 2) (n := 1) (x := 0) (y := 0) (z := 0) rfl rfl ?_
      refine sx_bipush (q := 10) (n := 2) (x := 0) (y := 0) (z := 10) rfl ?_
      refine sx_idiv (n := 1) (x := 0) (y := 0) (z := 0) rfl (by decide) ?_
      refine sx_istore_n (w := 2) (n := 1) (x := 0) (y := 0) (z := 0) rfl ?_
      refine sx_iinc (i := 3) (q := 1) (n := 3) (x := 0) (y := 0) (z := 1) rfl rfl ?_
      refine sx_goto (off := (-39)) (n := 3) (x := 6) (y := 0) (z := 0) rfl ?_
      exact h1 h h2
    · refine sx_iconst (q := 0) (n := 1) (x := 0) (y := 0) (z := 0) rfl ?_
      exact sx_iret (n := 1) (x := 0) (y := 0) (z := 0) rfl (Or.inr ⟨rfl, Or.inl rfl⟩) (h0 (Or.inr h2))
set_option maxRecDepth 100000 in
theorem rw_cW0 {E : sx_E} {d : Nat} {m : sx_M} {Q : Option Value → sx_M → Prop} (met rest a : Int32) (w : Option Value) (hQ : Q (some (.int (rw_c (0) met rest))) m) : sx_W E d 0 0 154 6 [some (.int a), some (.int met), some (.int rest), some (.int 4), w] [] m Q := by
  refine sx_iload_n (w := 3) (n := 1) (x := 0) (y := 0) (z := 0) rfl rfl ?_
  refine sx_iconst (q := 4) (n := 1) (x := 0) (y := 0) (z := 4) rfl ?_
  refine sx_icmp (cd := .ge) (off := 40) (n := 3) (x := 48) (y := 0) (z := 0) rfl ⟨fun _ => ?_, fun hc => absurd (by decide) hc⟩
  refine sx_iload_n (w := 2) (n := 1) (x := 0) (y := 0) (z := 0) rfl rfl ?_
  refine sx_if (cd := .ne) (off := 13) (n := 3) (x := 62) (y := 0) (z := 0) rfl ⟨fun h => ?_, fun h => ?_⟩
  · refine sx_iconst (q := 0) (n := 1) (x := 0) (y := 0) (z := 0) rfl ?_
    exact sx_iret (n := 1) (x := 0) (y := 0) (z := 0) rfl (Or.inr ⟨rfl, Or.inl rfl⟩) (by rw [rw_c, if_neg h] at hQ; exact hQ)
  · refine sx_iload_n (w := 1) (n := 1) (x := 0) (y := 0) (z := 0) rfl rfl ?_
    refine sx_bipush (q := 15) (n := 2) (x := 0) (y := 0) (z := 15) rfl ?_
    refine sx_icmp (cd := .ne) (off := 7) (n := 3) (x := 62) (y := 0) (z := 0) rfl ⟨fun h2 => ?_, fun h2 => ?_⟩
    · refine sx_iconst (q := 0) (n := 1) (x := 0) (y := 0) (z := 0) rfl ?_
      exact sx_iret (n := 1) (x := 0) (y := 0) (z := 0) rfl (Or.inr ⟨rfl, Or.inl rfl⟩) (by rw [rw_c, if_pos h, if_neg h2] at hQ; exact hQ)
    · refine sx_iconst (q := 1) (n := 1) (x := 0) (y := 0) (z := 1) rfl ?_
      refine sx_goto (off := 4) (n := 3) (x := 63) (y := 0) (z := 0) rfl ?_
      exact sx_iret (n := 1) (x := 0) (y := 0) (z := 0) rfl (Or.inr ⟨rfl, Or.inr rfl⟩) (by rw [rw_c, if_pos h, if_pos h2] at hQ; exact hQ)
theorem rw_cW1 {E : sx_E} {d : Nat} {m : sx_M} {Q : Option Value → sx_M → Prop} (met rest a : Int32) (w : Option Value) (hQ : Q (some (.int (rw_c (0 + 1) met rest))) m) : sx_W E d 0 0 154 6 [some (.int a), some (.int met), some (.int rest), some (.int 3), w] [] m Q := by
  rw [rw_cs] at hQ
  refine rw_cb 3 met rest a w (by decide) (fun h => ?_) (fun h h2 => ?_)
  · rcases h with h | h
    · rw [if_pos h] at hQ
      exact hQ
    · split at hQ
      · exact hQ
      · exact hQ
  · rw [if_neg h, if_pos h2] at hQ
    exact rw_cW0 _ _ _ _ hQ
theorem rw_cW2 {E : sx_E} {d : Nat} {m : sx_M} {Q : Option Value → sx_M → Prop} (met rest a : Int32) (w : Option Value) (hQ : Q (some (.int (rw_c (0 + 1 + 1) met rest))) m) : sx_W E d 0 0 154 6 [some (.int a), some (.int met), some (.int rest), some (.int 2), w] [] m Q := by
  rw [rw_cs] at hQ
  refine rw_cb 2 met rest a w (by decide) (fun h => ?_) (fun h h2 => ?_)
  · rcases h with h | h
    · rw [if_pos h] at hQ
      exact hQ
    · split at hQ
      · exact hQ
      · exact hQ
  · rw [if_neg h, if_pos h2] at hQ
    exact rw_cW1 _ _ _ _ hQ
theorem rw_cW3 {E : sx_E} {d : Nat} {m : sx_M} {Q : Option Value → sx_M → Prop} (met rest a : Int32) (w : Option Value) (hQ : Q (some (.int (rw_c (0 + 1 + 1 + 1) met rest))) m) : sx_W E d 0 0 154 6 [some (.int a), some (.int met), some (.int rest), some (.int 1), w] [] m Q := by
  rw [rw_cs] at hQ
  refine rw_cb 1 met rest a w (by decide) (fun h => ?_) (fun h h2 => ?_)
  · rcases h with h | h
    · rw [if_pos h] at hQ
      exact hQ
    · split at hQ
      · exact hQ
      · exact hQ
  · rw [if_neg h, if_pos h2] at hQ
    exact rw_cW2 _ _ _ _ hQ
theorem rw_cW4 {E : sx_E} {d : Nat} {m : sx_M} {Q : Option Value → sx_M → Prop} (met rest a : Int32) (w : Option Value) (hQ : Q (some (.int (rw_c (0 + 1 + 1 + 1 + 1) met rest))) m) : sx_W E d 0 0 154 6 [some (.int a), some (.int met), some (.int rest), some (.int 0), w] [] m Q := by
  rw [rw_cs] at hQ
  refine rw_cb 0 met rest a w (by decide) (fun h => ?_) (fun h h2 => ?_)
  · rcases h with h | h
    · rw [if_pos h] at hQ
      exact hQ
    · split at hQ
      · exact hQ
      · exact hQ
  · rw [if_neg h, if_pos h2] at hQ
    exact rw_cW3 _ _ _ _ hQ
abbrev rw_C (x : Int32) : Int32 := rw_c (0 + 1 + 1 + 1 + 1) 0 x
set_option maxRecDepth 100000 in
theorem rw_cS {E : sx_E} {m : sx_M} {Q : Option Value → sx_M → Prop} (x : Int32) (hQ : Q (some (.int (rw_C x))) m) : sx_S E 10 0 0 154 [.int x] m Q := by
  refine sx_S.of2 jf_154 (Nat.le_of_ble_eq_true rfl) ?_
  show sx_W E 10 0 0 154 0 [some (.int x), none, none, none, none] [] m _
  refine sx_iconst (q := 0) (n := 1) (x := 0) (y := 0) (z := 0) rfl ?_
  refine sx_istore_n (w := 1) (n := 1) (x := 0) (y := 0) (z := 0) rfl ?_
  refine sx_iload_n (w := 0) (n := 1) (x := 0) (y := 0) (z := 0) rfl rfl ?_
  refine sx_istore_n (w := 2) (n := 1) (x := 0) (y := 0) (z := 0) rfl ?_
  refine sx_iconst (q := 0) (n := 1) (x := 0) (y := 0) (z := 0) rfl ?_
  refine sx_istore_n (w := 3) (n := 1) (x := 0) (y := 0) (z := 0) rfl ?_
  exact rw_cW4 0 x x none hQ
set_option maxRecDepth 100000 in
theorem rw_d0 {E : sx_E} {m : sx_M} (x : Int32) : sx_S E 9 0 0 302 [.ref 214, .int x, .int 0] m (fun v m' => v = some (.int ((x / 10 / 10 / 10) - (x / 10 / 10 / 10) / 10 * 10)) ∧ m' = m) := by
  refine sx_S.of2 jf_302 (Nat.le_of_ble_eq_true rfl) ?_
  show sx_W E 9 0 0 302 0 [some (.ref 214), some (.int x), some (.int 0), none, none] [] m _
  refine sx_iload_n (w := 1) (n := 1) (x := 0) (y := 0) (z := 0) rfl rfl ?_
  refine sx_istore_n (w := 3) (n := 1) (x := 0) (y := 0) (z := 0) rfl ?_
  refine sx_iconst (q := 3) (n := 1) (x := 0) (y := 0) (z := 3) rfl ?_
  refine sx_istore (i := 4) (n := 2) (x := 0) (y := 0) (z := 0) rfl ?_
  refine sx_iload (i := 4) (n := 2) (x := 0) (y := 0) (z := 0) rfl rfl ?_
  refine sx_iload_n (w := 2) (n := 1) (x := 0) (y := 0) (z := 0) rfl rfl ?_
  refine sx_icmp (cd := .le) (off := 14) (n := 3) (x := 22) (y := 0) (z := 0) rfl ⟨fun hc => absurd hc (by decide), fun _ => ?_⟩
  refine sx_iload_n (w := 3) (n := 1) (x := 0) (y := 0) (z := 0) rfl rfl ?_
  refine sx_bipush (q := 10) (n := 2) (x := 0) (y := 0) (z := 10) rfl ?_
  refine sx_idiv (n := 1) (x := 0) (y := 0) (z := 0) rfl (by decide) ?_
  refine sx_istore_n (w := 3) (n := 1) (x := 0) (y := 0) (z := 0) rfl ?_
  refine sx_iinc (i := 4) (q := (-1)) (n := 3) (x := 0) (y := 0) (z := (-1)) rfl rfl ?_
  refine sx_goto (off := (-14)) (n := 3) (x := 5) (y := 0) (z := 0) rfl ?_
  refine sx_iload (i := 4) (n := 2) (x := 0) (y := 0) (z := 0) rfl rfl ?_
  refine sx_iload_n (w := 2) (n := 1) (x := 0) (y := 0) (z := 0) rfl rfl ?_
  refine sx_icmp (cd := .le) (off := 14) (n := 3) (x := 22) (y := 0) (z := 0) rfl ⟨fun hc => absurd hc (by decide), fun _ => ?_⟩
  refine sx_iload_n (w := 3) (n := 1) (x := 0) (y := 0) (z := 0) rfl rfl ?_
  refine sx_bipush (q := 10) (n := 2) (x := 0) (y := 0) (z := 10) rfl ?_
  refine sx_idiv (n := 1) (x := 0) (y := 0) (z := 0) rfl (by decide) ?_
  refine sx_istore_n (w := 3) (n := 1) (x := 0) (y := 0) (z := 0) rfl ?_
  refine sx_iinc (i := 4) (q := (-1)) (n := 3) (x := 0) (y := 0) (z := (-1)) rfl rfl ?_
  refine sx_goto (off := (-14)) (n := 3) (x := 5) (y := 0) (z := 0) rfl ?_
  refine sx_iload (i := 4) (n := 2) (x := 0) (y := 0) (z := 0) rfl rfl ?_
  refine sx_iload_n (w := 2) (n := 1) (x := 0) (y := 0) (z := 0) rfl rfl ?_
  refine sx_icmp (cd := .le) (off := 14) (n := 3) (x := 22) (y := 0) (z := 0) rfl ⟨fun hc => absurd hc (by decide), fun _ => ?_⟩
  refine sx_iload_n (w := 3) (n := 1) (x := 0) (y := 0) (z := 0) rfl rfl ?_
  refine sx_bipush (q := 10) (n := 2) (x := 0) (y := 0) (z := 10) rfl ?_
  refine sx_idiv (n := 1) (x := 0) (y := 0) (z := 0) rfl (by decide) ?_
  refine sx_istore_n (w := 3) (n := 1) (x := 0) (y := 0) (z := 0) rfl ?_
  refine sx_iinc (i := 4) (q := (-1)) (n := 3) (x := 0) (y := 0) (z := (-1)) rfl rfl ?_
  refine sx_goto (off := (-14)) (n := 3) (x := 5) (y := 0) (z := 0) rfl ?_
  refine sx_iload (i := 4) (n := 2) (x := 0) (y := 0) (z := 0) rfl rfl ?_
  refine sx_iload_n (w := 2) (n := 1) (x := 0) (y := 0) (z := 0) rfl rfl ?_
  refine sx_icmp (cd := .le) (off := 14) (n := 3) (x := 22) (y := 0) (z := 0) rfl ⟨fun _ => ?_, fun hc => absurd (by decide) hc⟩
  refine sx_iload_n (w := 3) (n := 1) (x := 0) (y := 0) (z := 0) rfl rfl ?_
  refine sx_bipush (q := 10) (n := 2) (x := 0) (y := 0) (z := 10) rfl ?_
  refine sx_irem (n := 1) (x := 0) (y := 0) (z := 0) rfl (by decide) ?_
  exact sx_iret (n := 1) (x := 0) (y := 0) (z := 0) rfl (Or.inl rfl) ⟨rfl, rfl⟩
set_option maxRecDepth 100000 in
theorem rw_d1 {E : sx_E} {m : sx_M} (x : Int32) : sx_S E 9 0 0 302 [.ref 214, .int x, .int 1] m (fun v m' => v = some (.int ((x / 10 / 10) - (x / 10 / 10) / 10 * 10)) ∧ m' = m) := by
  refine sx_S.of2 jf_302 (Nat.le_of_ble_eq_true rfl) ?_
  show sx_W E 9 0 0 302 0 [some (.ref 214), some (.int x), some (.int 1), none, none] [] m _
  refine sx_iload_n (w := 1) (n := 1) (x := 0) (y := 0) (z := 0) rfl rfl ?_
  refine sx_istore_n (w := 3) (n := 1) (x := 0) (y := 0) (z := 0) rfl ?_
  refine sx_iconst (q := 3) (n := 1) (x := 0) (y := 0) (z := 3) rfl ?_
  refine sx_istore (i := 4) (n := 2) (x := 0) (y := 0) (z := 0) rfl ?_
  refine sx_iload (i := 4) (n := 2) (x := 0) (y := 0) (z := 0) rfl rfl ?_
  refine sx_iload_n (w := 2) (n := 1) (x := 0) (y := 0) (z := 0) rfl rfl ?_
  refine sx_icmp (cd := .le) (off := 14) (n := 3) (x := 22) (y := 0) (z := 0) rfl ⟨fun hc => absurd hc (by decide), fun _ => ?_⟩
  refine sx_iload_n (w := 3) (n := 1) (x := 0) (y := 0) (z := 0) rfl rfl ?_
  refine sx_bipush (q := 10) (n := 2) (x := 0) (y := 0) (z := 10) rfl ?_
  refine sx_idiv (n := 1) (x := 0) (y := 0) (z := 0) rfl (by decide) ?_
  refine sx_istore_n (w := 3) (n := 1) (x := 0) (y := 0) (z := 0) rfl ?_
  refine sx_iinc (i := 4) (q := (-1)) (n := 3) (x := 0) (y := 0) (z := (-1)) rfl rfl ?_
  refine sx_goto (off := (-14)) (n := 3) (x := 5) (y := 0) (z := 0) rfl ?_
  refine sx_iload (i := 4) (n := 2) (x := 0) (y := 0) (z := 0) rfl rfl ?_
  refine sx_iload_n (w := 2) (n := 1) (x := 0) (y := 0) (z := 0) rfl rfl ?_
  refine sx_icmp (cd := .le) (off := 14) (n := 3) (x := 22) (y := 0) (z := 0) rfl ⟨fun hc => absurd hc (by decide), fun _ => ?_⟩
  refine sx_iload_n (w := 3) (n := 1) (x := 0) (y := 0) (z := 0) rfl rfl ?_
  refine sx_bipush (q := 10) (n := 2) (x := 0) (y := 0) (z := 10) rfl ?_
  refine sx_idiv (n := 1) (x := 0) (y := 0) (z := 0) rfl (by decide) ?_
  refine sx_istore_n (w := 3) (n := 1) (x := 0) (y := 0) (z := 0) rfl ?_
  refine sx_iinc (i := 4) (q := (-1)) (n := 3) (x := 0) (y := 0) (z := (-1)) rfl rfl ?_
  refine sx_goto (off := (-14)) (n := 3) (x := 5) (y := 0) (z := 0) rfl ?_
  refine sx_iload (i := 4) (n := 2) (x := 0) (y := 0) (z := 0) rfl rfl ?_
  refine sx_iload_n (w := 2) (n := 1) (x := 0) (y := 0) (z := 0) rfl rfl ?_
  refine sx_icmp (cd := .le) (off := 14) (n := 3) (x := 22) (y := 0) (z := 0) rfl ⟨fun _ => ?_, fun hc => absurd (by decide) hc⟩
  refine sx_iload_n (w := 3) (n := 1) (x := 0) (y := 0) (z := 0) rfl rfl ?_
  refine sx_bipush (q := 10) (n := 2) (x := 0) (y := 0) (z := 10) rfl ?_
  refine sx_irem (n := 1) (x := 0) (y := 0) (z := 0) rfl (by decide) ?_
  exact sx_iret (n := 1) (x := 0) (y := 0) (z := 0) rfl (Or.inl rfl) ⟨rfl, rfl⟩
set_option maxRecDepth 100000 in
theorem rw_d2 {E : sx_E} {m : sx_M} (x : Int32) : sx_S E 9 0 0 302 [.ref 214, .int x, .int 2] m (fun v m' => v = some (.int ((x / 10) - (x / 10) / 10 * 10)) ∧ m' = m) := by
  refine sx_S.of2 jf_302 (Nat.le_of_ble_eq_true rfl) ?_
  show sx_W E 9 0 0 302 0 [some (.ref 214), some (.int x), some (.int 2), none, none] [] m _
  refine sx_iload_n (w := 1) (n := 1) (x := 0) (y := 0) (z := 0) rfl rfl ?_
  refine sx_istore_n (w := 3) (n := 1) (x := 0) (y := 0) (z := 0) rfl ?_
  refine sx_iconst (q := 3) (n := 1) (x := 0) (y := 0) (z := 3) rfl ?_
  refine sx_istore (i := 4) (n := 2) (x := 0) (y := 0) (z := 0) rfl ?_
  refine sx_iload (i := 4) (n := 2) (x := 0) (y := 0) (z := 0) rfl rfl ?_
  refine sx_iload_n (w := 2) (n := 1) (x := 0) (y := 0) (z := 0) rfl rfl ?_
  refine sx_icmp (cd := .le) (off := 14) (n := 3) (x := 22) (y := 0) (z := 0) rfl ⟨fun hc => absurd hc (by decide), fun _ => ?_⟩
  refine sx_iload_n (w := 3) (n := 1) (x := 0) (y := 0) (z := 0) rfl rfl ?_
  refine sx_bipush (q := 10) (n := 2) (x := 0) (y := 0) (z := 10) rfl ?_
  refine sx_idiv (n := 1) (x := 0) (y := 0) (z := 0) rfl (by decide) ?_
  refine sx_istore_n (w := 3) (n := 1) (x := 0) (y := 0) (z := 0) rfl ?_
  refine sx_iinc (i := 4) (q := (-1)) (n := 3) (x := 0) (y := 0) (z := (-1)) rfl rfl ?_
  refine sx_goto (off := (-14)) (n := 3) (x := 5) (y := 0) (z := 0) rfl ?_
  refine sx_iload (i := 4) (n := 2) (x := 0) (y := 0) (z := 0) rfl rfl ?_
  refine sx_iload_n (w := 2) (n := 1) (x := 0) (y := 0) (z := 0) rfl rfl ?_
  refine sx_icmp (cd := .le) (off := 14) (n := 3) (x := 22) (y := 0) (z := 0) rfl ⟨fun _ => ?_, fun hc => absurd (by decide) hc⟩
  refine sx_iload_n (w := 3) (n := 1) (x := 0) (y := 0) (z := 0) rfl rfl ?_
  refine sx_bipush (q := 10) (n := 2) (x := 0) (y := 0) (z := 10) rfl ?_
  refine sx_irem (n := 1) (x := 0) (y := 0) (z := 0) rfl (by decide) ?_
  exact sx_iret (n := 1) (x := 0) (y := 0) (z := 0) rfl (Or.inl rfl) ⟨rfl, rfl⟩
set_option maxRecDepth 100000 in
theorem rw_d3 {E : sx_E} {m : sx_M} (x : Int32) : sx_S E 9 0 0 302 [.ref 214, .int x, .int 3] m (fun v m' => v = some (.int (x - x / 10 * 10)) ∧ m' = m) := by
  refine sx_S.of2 jf_302 (Nat.le_of_ble_eq_true rfl) ?_
  show sx_W E 9 0 0 302 0 [some (.ref 214), some (.int x), some (.int 3), none, none] [] m _
  refine sx_iload_n (w := 1) (n := 1) (x := 0) (y := 0) (z := 0) rfl rfl ?_
  refine sx_istore_n (w := 3) (n := 1) (x := 0) (y := 0) (z := 0) rfl ?_
  refine sx_iconst (q := 3) (n := 1) (x := 0) (y := 0) (z := 3) rfl ?_
  refine sx_istore (i := 4) (n := 2) (x := 0) (y := 0) (z := 0) rfl ?_
  refine sx_iload (i := 4) (n := 2) (x := 0) (y := 0) (z := 0) rfl rfl ?_
  refine sx_iload_n (w := 2) (n := 1) (x := 0) (y := 0) (z := 0) rfl rfl ?_
  refine sx_icmp (cd := .le) (off := 14) (n := 3) (x := 22) (y := 0) (z := 0) rfl ⟨fun _ => ?_, fun hc => absurd (by decide) hc⟩
  refine sx_iload_n (w := 3) (n := 1) (x := 0) (y := 0) (z := 0) rfl rfl ?_
  refine sx_bipush (q := 10) (n := 2) (x := 0) (y := 0) (z := 10) rfl ?_
  refine sx_irem (n := 1) (x := 0) (y := 0) (z := 0) rfl (by decide) ?_
  exact sx_iret (n := 1) (x := 0) (y := 0) (z := 0) rfl (Or.inl rfl) ⟨rfl, rfl⟩
set_option maxRecDepth 100000 in
theorem rw_in {E : sx_E} {m : sx_M} (x : Int32) (h1 : ¬ x < 0) (h2 : ¬ (3210 : Int32) < x) : sx_S E 9 0 0 192 [.ref 214, .int x, .int 0, .int 3210] m (fun v m' => v = some (.int 1) ∧ m' = m) := by
  refine sx_S.of2 jf_192 (Nat.le_of_ble_eq_true rfl) ?_
  show sx_W E 9 0 0 192 0 [some (.ref 214), some (.int x), some (.int 0), some (.int 3210)] [] m _
  refine sx_iload_n (w := 1) (n := 1) (x := 0) (y := 0) (z := 0) rfl rfl ?_
  refine sx_iload_n (w := 2) (n := 1) (x := 0) (y := 0) (z := 0) rfl rfl ?_
  refine sx_icmp (cd := .lt) (off := 12) (n := 3) (x := 14) (y := 0) (z := 0) rfl ⟨fun hc => absurd hc h1, fun _ => ?_⟩
  refine sx_iload_n (w := 1) (n := 1) (x := 0) (y := 0) (z := 0) rfl rfl ?_
  refine sx_iload_n (w := 3) (n := 1) (x := 0) (y := 0) (z := 0) rfl rfl ?_
  refine sx_icmp (cd := .gt) (off := 7) (n := 3) (x := 14) (y := 0) (z := 0) rfl ⟨fun hc => absurd hc h2, fun _ => ?_⟩
  refine sx_iconst (q := 1) (n := 1) (x := 0) (y := 0) (z := 1) rfl ?_
  refine sx_goto (off := 4) (n := 3) (x := 15) (y := 0) (z := 0) rfl ?_
  exact sx_iret (n := 1) (x := 0) (y := 0) (z := 0) rfl (Or.inr ⟨rfl, Or.inr rfl⟩) ⟨rfl, rfl⟩
def rw_m (x : Int32) : Int32 := if (((((0 : Int32) ||| ((1 : Int32) <<< (((x / 10 / 10 / 10) - (x / 10 / 10 / 10) / 10 * 10) &&& 31))) ||| ((1 : Int32) <<< (((x / 10 / 10) - (x / 10 / 10) / 10 * 10) &&& 31))) ||| ((1 : Int32) <<< (((x / 10) - (x / 10) / 10 * 10) &&& 31))) ||| ((1 : Int32) <<< ((x - x / 10 * 10) &&& 31))) = 15 then 1 else 0
set_option maxRecDepth 100000 in
theorem rw_mS {E : sx_E} {m : sx_M} {Q : Option Value → sx_M → Prop} {n0 : Nat} (x : Int32) (hs : m.2.1 214 = some (12, n0)) (h1 : ¬ x < 0) (h2 : ¬ (3210 : Int32) < x) (hQ : Q (some (.int (rw_m x))) m) : sx_S E 10 0 0 301 [.ref 214, .int x] m Q := by
  refine sx_S.of2 jf_301 (Nat.le_of_ble_eq_true rfl) ?_
  show sx_W E 10 0 0 301 0 [some (.ref 214), some (.int x), none, none] [] m _
  refine sx_iconst (q := 0) (n := 1) (x := 0) (y := 0) (z := 0) rfl ?_
  refine sx_istore_n (w := 2) (n := 1) (x := 0) (y := 0) (z := 0) rfl ?_
  refine sx_iconst (q := 0) (n := 1) (x := 0) (y := 0) (z := 0) rfl ?_
  refine sx_istore_n (w := 3) (n := 1) (x := 0) (y := 0) (z := 0) rfl ?_
  refine sx_iload_n (w := 3) (n := 1) (x := 0) (y := 0) (z := 0) rfl rfl ?_
  refine sx_iconst (q := 4) (n := 1) (x := 0) (y := 0) (z := 4) rfl ?_
  refine sx_icmp (cd := .ge) (off := 20) (n := 3) (x := 26) (y := 0) (z := 0) rfl ⟨fun hc => absurd hc (by decide), fun _ => ?_⟩
  refine sx_iload_n (w := 2) (n := 1) (x := 0) (y := 0) (z := 0) rfl rfl ?_
  refine sx_iconst (q := 1) (n := 1) (x := 0) (y := 0) (z := 1) rfl ?_
  refine sx_aload_n (w := 0) (n := 1) (x := 0) (y := 0) (z := 0) rfl rfl ?_
  refine sx_iload_n (w := 1) (n := 1) (x := 0) (y := 0) (z := 0) rfl rfl ?_
  refine sx_iload_n (w := 3) (n := 1) (x := 0) (y := 0) (z := 0) rfl rfl ?_
  refine sx_callV (i := 459) (x := 302) (y := 2) (z := 0) (n := 3) (a := 214) (as := [.int x, .int 0]) (rest := [.int 1, .int (0 : Int32)]) rfl rfl (by decide) rfl (by decide) hs (Nat.le_of_ble_eq_true rfl) (show 9 < 10 by decide) (Nat.le_refl _) (Nat.le_refl _) (rw_d0 x) fun v m' hv => ?_
  obtain ⟨rfl, rfl⟩ := hv
  show sx_W E 10 0 0 301 17 [some (.ref 214), some (.int x), some (.int (0 : Int32)), some (.int 0)] [.int ((x / 10 / 10 / 10) - (x / 10 / 10 / 10) / 10 * 10), .int 1, .int (0 : Int32)] m' _
  refine sx_ishl (n := 1) (x := 0) (y := 0) (z := 0) rfl ?_
  refine sx_ior (n := 1) (x := 0) (y := 0) (z := 0) rfl ?_
  refine sx_istore_n (w := 2) (n := 1) (x := 0) (y := 0) (z := 0) rfl ?_
  refine sx_iinc (i := 3) (q := 1) (n := 3) (x := 0) (y := 0) (z := 1) rfl rfl ?_
  refine sx_goto (off := (-19)) (n := 3) (x := 4) (y := 0) (z := 0) rfl ?_
  show sx_W E 10 0 0 301 4 [some (.ref 214), some (.int x), some (.int ((0 : Int32) ||| ((1 : Int32) <<< (((x / 10 / 10 / 10) - (x / 10 / 10 / 10) / 10 * 10) &&& 31)))), some (.int 1)] [] m' _
  refine sx_iload_n (w := 3) (n := 1) (x := 0) (y := 0) (z := 0) rfl rfl ?_
  refine sx_iconst (q := 4) (n := 1) (x := 0) (y := 0) (z := 4) rfl ?_
  refine sx_icmp (cd := .ge) (off := 20) (n := 3) (x := 26) (y := 0) (z := 0) rfl ⟨fun hc => absurd hc (by decide), fun _ => ?_⟩
  refine sx_iload_n (w := 2) (n := 1) (x := 0) (y := 0) (z := 0) rfl rfl ?_
  refine sx_iconst (q := 1) (n := 1) (x := 0) (y := 0) (z := 1) rfl ?_
  refine sx_aload_n (w := 0) (n := 1) (x := 0) (y := 0) (z := 0) rfl rfl ?_
  refine sx_iload_n (w := 1) (n := 1) (x := 0) (y := 0) (z := 0) rfl rfl ?_
  refine sx_iload_n (w := 3) (n := 1) (x := 0) (y := 0) (z := 0) rfl rfl ?_
  refine sx_callV (i := 459) (x := 302) (y := 2) (z := 0) (n := 3) (a := 214) (as := [.int x, .int 1]) (rest := [.int 1, .int ((0 : Int32) ||| ((1 : Int32) <<< (((x / 10 / 10 / 10) - (x / 10 / 10 / 10) / 10 * 10) &&& 31)))]) rfl rfl (by decide) rfl (by decide) hs (Nat.le_of_ble_eq_true rfl) (show 9 < 10 by decide) (Nat.le_refl _) (Nat.le_refl _) (rw_d1 x) fun v m' hv => ?_
  obtain ⟨rfl, rfl⟩ := hv
  show sx_W E 10 0 0 301 17 [some (.ref 214), some (.int x), some (.int ((0 : Int32) ||| ((1 : Int32) <<< (((x / 10 / 10 / 10) - (x / 10 / 10 / 10) / 10 * 10) &&& 31)))), some (.int 1)] [.int ((x / 10 / 10) - (x / 10 / 10) / 10 * 10), .int 1, .int ((0 : Int32) ||| ((1 : Int32) <<< (((x / 10 / 10 / 10) - (x / 10 / 10 / 10) / 10 * 10) &&& 31)))] m' _
  refine sx_ishl (n := 1) (x := 0) (y := 0) (z := 0) rfl ?_
  refine sx_ior (n := 1) (x := 0) (y := 0) (z := 0) rfl ?_
  refine sx_istore_n (w := 2) (n := 1) (x := 0) (y := 0) (z := 0) rfl ?_
  refine sx_iinc (i := 3) (q := 1) (n := 3) (x := 0) (y := 0) (z := 1) rfl rfl ?_
  refine sx_goto (off := (-19)) (n := 3) (x := 4) (y := 0) (z := 0) rfl ?_
  show sx_W E 10 0 0 301 4 [some (.ref 214), some (.int x), some (.int (((0 : Int32) ||| ((1 : Int32) <<< (((x / 10 / 10 / 10) - (x / 10 / 10 / 10) / 10 * 10) &&& 31))) ||| ((1 : Int32) <<< (((x / 10 / 10) - (x / 10 / 10) / 10 * 10) &&& 31)))), some (.int 2)] [] m' _
  refine sx_iload_n (w := 3) (n := 1) (x := 0) (y := 0) (z := 0) rfl rfl ?_
  refine sx_iconst (q := 4) (n := 1) (x := 0) (y := 0) (z := 4) rfl ?_
  refine sx_icmp (cd := .ge) (off := 20) (n := 3) (x := 26) (y := 0) (z := 0) rfl ⟨fun hc => absurd hc (by decide), fun _ => ?_⟩
  refine sx_iload_n (w := 2) (n := 1) (x := 0) (y := 0) (z := 0) rfl rfl ?_
  refine sx_iconst (q := 1) (n := 1) (x := 0) (y := 0) (z := 1) rfl ?_
  refine sx_aload_n (w := 0) (n := 1) (x := 0) (y := 0) (z := 0) rfl rfl ?_
  refine sx_iload_n (w := 1) (n := 1) (x := 0) (y := 0) (z := 0) rfl rfl ?_
  refine sx_iload_n (w := 3) (n := 1) (x := 0) (y := 0) (z := 0) rfl rfl ?_
  refine sx_callV (i := 459) (x := 302) (y := 2) (z := 0) (n := 3) (a := 214) (as := [.int x, .int 2]) (rest := [.int 1, .int (((0 : Int32) ||| ((1 : Int32) <<< (((x / 10 / 10 / 10) - (x / 10 / 10 / 10) / 10 * 10) &&& 31))) ||| ((1 : Int32) <<< (((x / 10 / 10) - (x / 10 / 10) / 10 * 10) &&& 31)))]) rfl rfl (by decide) rfl (by decide) hs (Nat.le_of_ble_eq_true rfl) (show 9 < 10 by decide) (Nat.le_refl _) (Nat.le_refl _) (rw_d2 x) fun v m' hv => ?_
  obtain ⟨rfl, rfl⟩ := hv
  show sx_W E 10 0 0 301 17 [some (.ref 214), some (.int x), some (.int (((0 : Int32) ||| ((1 : Int32) <<< (((x / 10 / 10 / 10) - (x / 10 / 10 / 10) / 10 * 10) &&& 31))) ||| ((1 : Int32) <<< (((x / 10 / 10) - (x / 10 / 10) / 10 * 10) &&& 31)))), some (.int 2)] [.int ((x / 10) - (x / 10) / 10 * 10), .int 1, .int (((0 : Int32) ||| ((1 : Int32) <<< (((x / 10 / 10 / 10) - (x / 10 / 10 / 10) / 10 * 10) &&& 31))) ||| ((1 : Int32) <<< (((x / 10 / 10) - (x / 10 / 10) / 10 * 10) &&& 31)))] m' _
  refine sx_ishl (n := 1) (x := 0) (y := 0) (z := 0) rfl ?_
  refine sx_ior (n := 1) (x := 0) (y := 0) (z := 0) rfl ?_
  refine sx_istore_n (w := 2) (n := 1) (x := 0) (y := 0) (z := 0) rfl ?_
  refine sx_iinc (i := 3) (q := 1) (n := 3) (x := 0) (y := 0) (z := 1) rfl rfl ?_
  refine sx_goto (off := (-19)) (n := 3) (x := 4) (y := 0) (z := 0) rfl ?_
  show sx_W E 10 0 0 301 4 [some (.ref 214), some (.int x), some (.int ((((0 : Int32) ||| ((1 : Int32) <<< (((x / 10 / 10 / 10) - (x / 10 / 10 / 10) / 10 * 10) &&& 31))) ||| ((1 : Int32) <<< (((x / 10 / 10) - (x / 10 / 10) / 10 * 10) &&& 31))) ||| ((1 : Int32) <<< (((x / 10) - (x / 10) / 10 * 10) &&& 31)))), some (.int 3)] [] m' _
  refine sx_iload_n (w := 3) (n := 1) (x := 0) (y := 0) (z := 0) rfl rfl ?_
  refine sx_iconst (q := 4) (n := 1) (x := 0) (y := 0) (z := 4) rfl ?_
  refine sx_icmp (cd := .ge) (off := 20) (n := 3) (x := 26) (y := 0) (z := 0) rfl ⟨fun hc => absurd hc (by decide), fun _ => ?_⟩
  refine sx_iload_n (w := 2) (n := 1) (x := 0) (y := 0) (z := 0) rfl rfl ?_
  refine sx_iconst (q := 1) (n := 1) (x := 0) (y := 0) (z := 1) rfl ?_
  refine sx_aload_n (w := 0) (n := 1) (x := 0) (y := 0) (z := 0) rfl rfl ?_
  refine sx_iload_n (w := 1) (n := 1) (x := 0) (y := 0) (z := 0) rfl rfl ?_
  refine sx_iload_n (w := 3) (n := 1) (x := 0) (y := 0) (z := 0) rfl rfl ?_
  refine sx_callV (i := 459) (x := 302) (y := 2) (z := 0) (n := 3) (a := 214) (as := [.int x, .int 3]) (rest := [.int 1, .int ((((0 : Int32) ||| ((1 : Int32) <<< (((x / 10 / 10 / 10) - (x / 10 / 10 / 10) / 10 * 10) &&& 31))) ||| ((1 : Int32) <<< (((x / 10 / 10) - (x / 10 / 10) / 10 * 10) &&& 31))) ||| ((1 : Int32) <<< (((x / 10) - (x / 10) / 10 * 10) &&& 31)))]) rfl rfl (by decide) rfl (by decide) hs (Nat.le_of_ble_eq_true rfl) (show 9 < 10 by decide) (Nat.le_refl _) (Nat.le_refl _) (rw_d3 x) fun v m' hv => ?_
  obtain ⟨rfl, rfl⟩ := hv
  show sx_W E 10 0 0 301 17 [some (.ref 214), some (.int x), some (.int ((((0 : Int32) ||| ((1 : Int32) <<< (((x / 10 / 10 / 10) - (x / 10 / 10 / 10) / 10 * 10) &&& 31))) ||| ((1 : Int32) <<< (((x / 10 / 10) - (x / 10 / 10) / 10 * 10) &&& 31))) ||| ((1 : Int32) <<< (((x / 10) - (x / 10) / 10 * 10) &&& 31)))), some (.int 3)] [.int (x - x / 10 * 10), .int 1, .int ((((0 : Int32) ||| ((1 : Int32) <<< (((x / 10 / 10 / 10) - (x / 10 / 10 / 10) / 10 * 10) &&& 31))) ||| ((1 : Int32) <<< (((x / 10 / 10) - (x / 10 / 10) / 10 * 10) &&& 31))) ||| ((1 : Int32) <<< (((x / 10) - (x / 10) / 10 * 10) &&& 31)))] m' _
  refine sx_ishl (n := 1) (x := 0) (y := 0) (z := 0) rfl ?_
  refine sx_ior (n := 1) (x := 0) (y := 0) (z := 0) rfl ?_
  refine sx_istore_n (w := 2) (n := 1) (x := 0) (y := 0) (z := 0) rfl ?_
  refine sx_iinc (i := 3) (q := 1) (n := 3) (x := 0) (y := 0) (z := 1) rfl rfl ?_
  refine sx_goto (off := (-19)) (n := 3) (x := 4) (y := 0) (z := 0) rfl ?_
  show sx_W E 10 0 0 301 4 [some (.ref 214), some (.int x), some (.int (((((0 : Int32) ||| ((1 : Int32) <<< (((x / 10 / 10 / 10) - (x / 10 / 10 / 10) / 10 * 10) &&& 31))) ||| ((1 : Int32) <<< (((x / 10 / 10) - (x / 10 / 10) / 10 * 10) &&& 31))) ||| ((1 : Int32) <<< (((x / 10) - (x / 10) / 10 * 10) &&& 31))) ||| ((1 : Int32) <<< ((x - x / 10 * 10) &&& 31)))), some (.int 4)] [] m' _
  refine sx_iload_n (w := 3) (n := 1) (x := 0) (y := 0) (z := 0) rfl rfl ?_
  refine sx_iconst (q := 4) (n := 1) (x := 0) (y := 0) (z := 4) rfl ?_
  refine sx_icmp (cd := .ge) (off := 20) (n := 3) (x := 26) (y := 0) (z := 0) rfl ⟨fun _ => ?_, fun hc => absurd (by decide) hc⟩
  refine sx_aload_n (w := 0) (n := 1) (x := 0) (y := 0) (z := 0) rfl rfl ?_
  refine sx_iload_n (w := 1) (n := 1) (x := 0) (y := 0) (z := 0) rfl rfl ?_
  refine sx_iconst (q := 0) (n := 1) (x := 0) (y := 0) (z := 0) rfl ?_
  refine sx_sipush (q := 3210) (n := 3) (x := 0) (y := 0) (z := 3210) rfl ?_
  refine sx_callV (i := 144) (x := 192) (y := 3) (z := 0) (n := 3) (a := 214) (as := [.int x, .int 0, .int 3210]) (rest := []) rfl rfl (by decide) rfl (by decide) hs (Nat.le_of_ble_eq_true rfl) (show 9 < 10 by decide) (Nat.le_refl _) (Nat.le_refl _) (rw_in x h1 h2) fun v m' hv => ?_
  obtain ⟨rfl, rfl⟩ := hv
  show sx_W E 10 0 0 301 35 [some (.ref 214), some (.int x), some (.int (((((0 : Int32) ||| ((1 : Int32) <<< (((x / 10 / 10 / 10) - (x / 10 / 10 / 10) / 10 * 10) &&& 31))) ||| ((1 : Int32) <<< (((x / 10 / 10) - (x / 10 / 10) / 10 * 10) &&& 31))) ||| ((1 : Int32) <<< (((x / 10) - (x / 10) / 10 * 10) &&& 31))) ||| ((1 : Int32) <<< ((x - x / 10 * 10) &&& 31)))), some (.int 4)] [.int 1] m' _
  refine sx_if (cd := .eq) (off := 13) (n := 3) (x := 48) (y := 0) (z := 0) rfl ⟨fun hc => absurd hc (by decide), fun _ => ?_⟩
  refine sx_iload_n (w := 2) (n := 1) (x := 0) (y := 0) (z := 0) rfl rfl ?_
  refine sx_bipush (q := 15) (n := 2) (x := 0) (y := 0) (z := 15) rfl ?_
  refine sx_icmp (cd := .ne) (off := 7) (n := 3) (x := 48) (y := 0) (z := 0) rfl ⟨fun h => ?_, fun h => ?_⟩
  · refine sx_iconst (q := 0) (n := 1) (x := 0) (y := 0) (z := 0) rfl ?_
    exact sx_iret (n := 1) (x := 0) (y := 0) (z := 0) rfl (Or.inr ⟨rfl, Or.inl rfl⟩) (by rw [rw_m, if_neg h] at hQ; exact hQ)
  · refine sx_iconst (q := 1) (n := 1) (x := 0) (y := 0) (z := 1) rfl ?_
    refine sx_goto (off := 4) (n := 3) (x := 49) (y := 0) (z := 0) rfl ?_
    exact sx_iret (n := 1) (x := 0) (y := 0) (z := 0) rfl (Or.inr ⟨rfl, Or.inr rfl⟩) (by rw [rw_m, if_pos h] at hQ; exact hQ)
theorem rw_na (a : Int32) : (a / 10).toInt.natAbs = a.toInt.natAbs / 10 := by
  rw [Int32.toInt_div_of_ne_right a 10 (by decide), Int.natAbs_tdiv]
  rfl
theorem rw_small : ∀ (k : Nat) (met rest : Int32), rw_c k met rest ≠ 0 → rest.toInt.natAbs < 10 ^ k
  | 0, met, rest, h => by
    unfold rw_c at h
    split at h
    · rename_i e
      subst e
      decide
    · exact absurd rfl h
  | k + 1, met, rest, h => by
    rw [rw_cs] at h
    split at h
    · exact absurd rfl h
    · split at h
      · have := rw_small k _ _ h
        rw [rw_na] at this
        rw [Nat.pow_succ]
        exact (Nat.div_lt_iff_lt_mul (by decide)).mp this
      · exact absurd rfl h
theorem rw_k1 : ((List.range 3211).all fun n => decide (rw_m (Int32.ofNat n) = rw_C (Int32.ofNat n))) = true := by decide +kernel
theorem rw_k2 : ((List.range 10000).all fun n => Nat.ble n 3210 || decide (rw_C (Int32.ofNat n) = 0)) = true := by decide +kernel
theorem rw_k3 : ((List.range 10000).all fun n => decide (rw_C (Int32.ofInt (-(n : Int))) = 0)) = true := by decide +kernel
