-- THE RUNNER: runs of the small machine over values that are known, or known as far as an interval (ax_V); by program, in the kernel
abbrev ax_V : Type := Value ⊕ Option (Nat × Int)
abbrev ax_N : Type := List (Int × Int)
abbrev ax_L : Type := List (Option ax_V)
abbrev ax_F : Type := Nat × Nat × Nat × Nat × Nat × ax_L × List ax_V
abbrev sx_F : Type := Nat × Nat × Nat × Nat × Nat × List (Option Value) × List Value
abbrev ax_M : Type := Nat × (Nat → Option (Nat × Nat)) × (Nat → Nat × (Nat → ax_V)) × (Nat → Nat → Option Nat)
abbrev ax_C : Type := ax_F × List ax_F × ax_M × ax_N
noncomputable def ax_r (ρ : Nat → Int) (a : ax_V) (w : Value) : Prop := match a with
  | .inl v => w = v
  | .inr none => ∃ x, w = .int x
  | .inr (some q) => ∃ x : Int32, w = .int x ∧ x.toInt = ρ q.1 + q.2
noncomputable def ax_rs (ρ : Nat → Int) : List ax_V → List Value → Prop
  | [], [] => True
  | a :: l, w :: r => ax_r ρ a w ∧ ax_rs ρ l r
  | _, _ => False
noncomputable def ax_rl (ρ : Nat → Int) : ax_L → List (Option Value) → Prop
  | [], [] => True
  | none :: l, none :: r => ax_rl ρ l r
  | some a :: l, some w :: r => ax_r ρ a w ∧ ax_rl ρ l r
  | _, _ => False
noncomputable def ax_rm (ρ : Nat → Int) (A : ax_M) (m : sx_M) : Prop := m.1 = A.1 ∧ (∀ i kd, A.2.1 i = some kd → m.2.1 i = some kd) ∧ (∀ i kd k q, A.2.1 i = some kd → k < kd.2 → A.2.2.2 i k = some q → m.2.2.2 i k = some q) ∧ ∀ i kd k, A.2.1 i = some kd → k < kd.2 → ax_r ρ ((A.2.2.1 i).2 k) (.int (m.2.2.1 i k))
noncomputable def ax_sat (ρ : Nat → Int) (N : ax_N) : Prop := ∀ (v : Nat) (q : Int × Int), N[v]? = some q → q.1 ≤ ρ v ∧ ρ v ≤ q.2
noncomputable def ax_rf (ρ : Nat → Int) (F : ax_F) (G : sx_F) : Prop := G.1 = F.1 ∧ G.2.1 = F.2.1 ∧ G.2.2.1 = F.2.2.1 ∧ G.2.2.2.1 = F.2.2.2.1 ∧ G.2.2.2.2.1 = F.2.2.2.2.1 ∧ ax_rl ρ F.2.2.2.2.2.1 G.2.2.2.2.2.1 ∧ ax_rs ρ F.2.2.2.2.2.2 G.2.2.2.2.2.2
noncomputable def ax_rfs (ρ : Nat → Int) : List ax_F → List sx_F → Prop
  | [], [] => True
  | F :: l, G :: r => ax_rf ρ F G ∧ ax_rfs ρ l r
  | _, _ => False
noncomputable def ax_P (E : sx_E) (Q : Option Value → sx_M → Prop) : List sx_F → Option Value → sx_M → Prop
  | [] => Q
  | G :: fs => fun v m => sx_W E G.1 G.2.1 G.2.2.1 G.2.2.2.1 (G.2.2.2.2.1 + 3) G.2.2.2.2.2.1 (v.toList ++ G.2.2.2.2.2.2) m (ax_P E Q fs)
/-- what it is that a configuration is good: from all that it stands for the machine comes to the end that is asked for -/
noncomputable def ax_G (E : sx_E) (B : (Nat → Int) → Prop) (Q : Option Value → sx_M → Prop) (c : ax_C) : Prop :=
  ∀ (ρ : Nat → Int) (ls : List (Option Value)) (st : List Value) (fs : List sx_F) (m : sx_M), B ρ → ax_rl ρ c.1.2.2.2.2.2.1 ls → ax_rs ρ c.1.2.2.2.2.2.2 st → ax_rfs ρ c.2.1 fs → ax_rm ρ c.2.2.1 m → ax_sat ρ c.2.2.2 →
    sx_W E c.1.1 c.1.2.1 c.1.2.2.1 c.1.2.2.2.1 c.1.2.2.2.2.1 ls st m (ax_P E Q fs)
-- numbers
theorem ax_rng (x : Int32) : -2147483648 ≤ x.toInt ∧ x.toInt ≤ 2147483647 := by
  have h1 := Int32.le_toInt x
  have h2 := Int32.toInt_lt x
  constructor <;> omega
noncomputable def ax_isI (a : ax_V) : Bool := match a with
  | .inl (.int _) => true
  | .inr _ => true
  | _ => false
theorem ax_isI_e {ρ : Nat → Int} {a : ax_V} {w : Value} (h : ax_r ρ a w) (hi : ax_isI a = true) : ∃ x, w = .int x := by
  match a, h, hi with
  | .inl (.int x), h, _ => exact ⟨x, h⟩
  | .inr none, h, _ => exact h
  | .inr (some q), h, _ => obtain ⟨x, h1, -⟩ := h; exact ⟨x, h1⟩
noncomputable def ax_iv (N : ax_N) (a : ax_V) : Int × Int := match a with
  | .inl (.int c) => (c.toInt, c.toInt)
  | .inr (some q) => (match N[q.1]? with
    | some p => (p.1 + q.2, p.2 + q.2)
    | none => (-2147483648, 2147483647))
  | _ => (-2147483648, 2147483647)
theorem ax_iv_ok {ρ : Nat → Int} {N : ax_N} {a : ax_V} {x : Int32} (hs : ax_sat ρ N) (h : ax_r ρ a (.int x)) : (ax_iv N a).1 ≤ x.toInt ∧ x.toInt ≤ (ax_iv N a).2 := by
  have hr := ax_rng x
  match a, h with
  | .inl (.int c), h => cases h; exact ⟨Int.le_refl _, Int.le_refl _⟩
  | .inr none, _ => exact hr
  | .inr (some q), h =>
    obtain ⟨x', h1, h2⟩ := h
    cases h1
    show (match N[q.1]? with | some p => (p.1 + q.2, p.2 + q.2) | none => (-2147483648, 2147483647)).1 ≤ _ ∧ _ ≤ (match N[q.1]? with | some p => (p.1 + q.2, p.2 + q.2) | none => (-2147483648, 2147483647)).2
    cases hn : N[q.1]? with
    | none => exact hr
    | some p =>
      have := hs _ _ hn
      constructor
      · show p.1 + q.2 ≤ _; omega
      · show _ ≤ p.2 + q.2; omega
noncomputable def ax_nm (N : ax_N) (a : ax_V) : ax_V := match a with
  | .inr (some q) => (match N[q.1]? with
    | some p => bif decide (p.1 = p.2) then .inl (.int (Int32.ofInt (p.1 + q.2))) else a
    | none => a)
  | _ => a
theorem ax_nm_ok {ρ : Nat → Int} {N : ax_N} {a : ax_V} {w : Value} (hs : ax_sat ρ N) (h : ax_r ρ a w) : ax_r ρ (ax_nm N a) w := by
  match a, h with
  | .inl v, h => exact h
  | .inr none, h => exact h
  | .inr (some q), h =>
    show ax_r ρ (match N[q.1]? with | some p => bif decide (p.1 = p.2) then .inl (.int (Int32.ofInt (p.1 + q.2))) else .inr (some q) | none => .inr (some q)) w
    cases hn : N[q.1]? with
    | none => exact h
    | some p =>
      by_cases hp : p.1 = p.2
      · simp only [hp, decide_true, cond_true]
        obtain ⟨x, h1, h2⟩ := h
        have h3 := hs _ _ hn
        show w = .int (Int32.ofInt (p.2 + q.2))
        rw [h1, show p.2 + q.2 = x.toInt by omega, Int32.ofInt_toInt]
      · simp only [hp, decide_false, cond_false]
        exact h
noncomputable def ax_of (N : ax_N) (v : Nat) (c : Int) : ax_V := match N[v]? with
  | some p => bif (decide (-2147483648 ≤ p.1 + c) && decide (p.2 + c ≤ 2147483647)) then .inr (some (v, c)) else .inr none
  | none => .inr none
theorem ax_bmod {x : Int} (h1 : -2147483648 ≤ x) (h2 : x ≤ 2147483647) : x.bmod (2 ^ 32) = x := by
  rw [Int.bmod_def]
  omega
theorem ax_of_ok {ρ : Nat → Int} {N : ax_N} {v : Nat} {c : Int} {x : Int32} (hs : ax_sat ρ N) (h : x.toInt = (ρ v + c).bmod (2 ^ 32)) : ax_r ρ (ax_of N v c) (.int x) := by
  unfold ax_of
  cases hn : N[v]? with
  | none => exact ⟨x, rfl⟩
  | some p =>
    have h3 := hs _ _ hn
    cases hb : (decide (-2147483648 ≤ p.1 + c) && decide (p.2 + c ≤ 2147483647)) with
    | false => simp only [hb, cond_false]; exact ⟨x, rfl⟩
    | true =>
      simp only [hb, cond_true]
      simp only [Bool.and_eq_true, decide_eq_true_eq] at hb
      exact ⟨x, rfl, by rw [h, ax_bmod (by omega) (by omega)]⟩
noncomputable def ax_add (N : ax_N) (a b : ax_V) : ax_V := match ax_nm N a, ax_nm N b with
  | .inl (.int x), .inl (.int y) => .inl (.int (x + y))
  | .inr (some q), .inl (.int y) => ax_of N q.1 (q.2 + y.toInt)
  | .inl (.int x), .inr (some q) => ax_of N q.1 (q.2 + x.toInt)
  | _, _ => .inr none
theorem ax_add_ok {ρ : Nat → Int} {N : ax_N} {a b : ax_V} {x y : Int32} (hs : ax_sat ρ N) (ha : ax_r ρ a (.int x)) (hb : ax_r ρ b (.int y)) : ax_r ρ (ax_add N a b) (.int (x + y)) := by
  have ha := ax_nm_ok hs ha
  have hb := ax_nm_ok hs hb
  unfold ax_add
  split
  · rename_i u w e1 e2; rw [e1] at ha; rw [e2] at hb; cases ha; cases hb; rfl
  · rename_i q w e1 e2; rw [e1] at ha; rw [e2] at hb; cases hb
    obtain ⟨x', h1, h2⟩ := ha; cases h1
    refine ax_of_ok hs ?_
    rw [Int32.toInt_add, h2, show ρ q.1 + (q.2 + y.toInt) = ρ q.1 + q.2 + y.toInt by omega]
  · rename_i u q e1 e2; rw [e1] at ha; rw [e2] at hb; cases ha
    obtain ⟨x', h1, h2⟩ := hb; cases h1
    refine ax_of_ok hs ?_
    rw [Int32.toInt_add, h2, show ρ q.1 + (q.2 + x.toInt) = x.toInt + (ρ q.1 + q.2) by omega]
  · exact ⟨_, rfl⟩
noncomputable def ax_sub (N : ax_N) (a b : ax_V) : ax_V := match ax_nm N a, ax_nm N b with
  | .inl (.int x), .inl (.int y) => .inl (.int (x - y))
  | .inr (some q), .inl (.int y) => ax_of N q.1 (q.2 - y.toInt)
  | _, _ => .inr none
theorem ax_sub_ok {ρ : Nat → Int} {N : ax_N} {a b : ax_V} {x y : Int32} (hs : ax_sat ρ N) (ha : ax_r ρ a (.int x)) (hb : ax_r ρ b (.int y)) : ax_r ρ (ax_sub N a b) (.int (x - y)) := by
  have ha := ax_nm_ok hs ha
  have hb := ax_nm_ok hs hb
  unfold ax_sub
  split
  · rename_i u w e1 e2; rw [e1] at ha; rw [e2] at hb; cases ha; cases hb; rfl
  · rename_i q w e1 e2; rw [e1] at ha; rw [e2] at hb; cases hb
    obtain ⟨x', h1, h2⟩ := ha; cases h1
    refine ax_of_ok hs ?_
    rw [Int32.toInt_sub, h2, show ρ q.1 + (q.2 - y.toInt) = ρ q.1 + q.2 - y.toInt by omega]
  · exact ⟨_, rfl⟩
/-- any other operation: known of known ones -/
noncomputable def ax_op (f : Int32 → Int32 → Int32) (N : ax_N) (a b : ax_V) : ax_V := match ax_nm N a, ax_nm N b with
  | .inl (.int x), .inl (.int y) => .inl (.int (f x y))
  | _, _ => .inr none
theorem ax_op_ok {f : Int32 → Int32 → Int32} {ρ : Nat → Int} {N : ax_N} {a b : ax_V} {x y : Int32} (hs : ax_sat ρ N) (ha : ax_r ρ a (.int x)) (hb : ax_r ρ b (.int y)) : ax_r ρ (ax_op f N a b) (.int (f x y)) := by
  have ha := ax_nm_ok hs ha
  have hb := ax_nm_ok hs hb
  unfold ax_op
  split
  · rename_i u w e1 e2; rw [e1] at ha; rw [e2] at hb; cases ha; cases hb; rfl
  · exact ⟨_, rfl⟩
noncomputable def ax_and (N : ax_N) (a b : ax_V) : ax_V := match ax_nm N b with
  | .inl (.int y) => bif decide (y = -1) then a else ax_op (fun x y => x &&& y) N a b
  | _ => .inr none
theorem ax_and_ok {ρ : Nat → Int} {N : ax_N} {a b : ax_V} {x y : Int32} (hs : ax_sat ρ N) (ha : ax_r ρ a (.int x)) (hb : ax_r ρ b (.int y)) : ax_r ρ (ax_and N a b) (.int (x &&& y)) := by
  have hb2 := ax_nm_ok hs hb
  unfold ax_and
  split
  · rename_i w e1
    rw [e1] at hb2
    cases hb2
    by_cases hy : y = -1
    · simp only [hy, decide_true, cond_true]
      rw [Int32.and_neg_one]
      exact ha
    · simp only [hy, decide_false, cond_false]
      exact ax_op_ok (f := fun x y => x &&& y) hs ha hb
  · exact ⟨_, rfl⟩
-- what a branch tells
noncomputable def ax_nw (N : ax_N) (a : ax_V) (lo hi : Int) : ax_N := match a with
  | .inr (some q) => (match N[q.1]? with
    | some p => N.set q.1 (max p.1 (lo - q.2), min p.2 (hi - q.2))
    | none => N)
  | _ => N
theorem ax_nw_ok {ρ : Nat → Int} {N : ax_N} {a : ax_V} {x : Int32} {lo hi : Int} (hs : ax_sat ρ N) (h : ax_r ρ a (.int x)) (h1 : lo ≤ x.toInt) (h2 : x.toInt ≤ hi) : ax_sat ρ (ax_nw N a lo hi) := by
  match a, h with
  | .inl v, _ => exact hs
  | .inr none, _ => exact hs
  | .inr (some q), h =>
    obtain ⟨x', g1, g2⟩ := h
    cases g1
    show ax_sat ρ (match N[q.1]? with | some p => N.set q.1 (max p.1 (lo - q.2), min p.2 (hi - q.2)) | none => N)
    cases hn : N[q.1]? with
    | none => exact hs
    | some p =>
      have h3 := hs _ _ hn
      intro v w hv
      by_cases hvq : v = q.1
      · subst hvq
        have hl : q.1 < N.length := (List.getElem?_eq_some_iff.mp hn).1
        rw [List.getElem?_set_self hl] at hv
        cases hv
        constructor
        · show max p.1 (lo - q.2) ≤ _; omega
        · show _ ≤ min p.2 (hi - q.2); omega
      · rw [List.getElem?_set_ne (Ne.symm hvq)] at hv
        exact hs v w hv
noncomputable def ax_ab (N : ax_N) (a b : ax_V) : (Int × Int) × (Int × Int) := match a, b with
  | .inr (some p), .inr (some q) => bif Nat.beq p.1 q.1 then ((p.2, p.2), (q.2, q.2)) else (ax_iv N a, ax_iv N b)
  | _, _ => (ax_iv N a, ax_iv N b)
theorem ax_ab_ok {ρ : Nat → Int} {N : ax_N} {a b : ax_V} {x y : Int32} (hs : ax_sat ρ N) (ha : ax_r ρ a (.int x)) (hb : ax_r ρ b (.int y)) : ∃ t : Int, (ax_ab N a b).1.1 ≤ x.toInt - t ∧ x.toInt - t ≤ (ax_ab N a b).1.2 ∧ (ax_ab N a b).2.1 ≤ y.toInt - t ∧ y.toInt - t ≤ (ax_ab N a b).2.2 := by
  have h1 := ax_iv_ok hs ha
  have h2 := ax_iv_ok hs hb
  unfold ax_ab
  split
  · rename_i p q
    cases hpq : Nat.beq p.1 q.1 with
    | true =>
      have e := Nat.eq_of_beq_eq_true hpq
      obtain ⟨x', g1, g2⟩ := ha; cases g1
      obtain ⟨y', g3, g4⟩ := hb; cases g3
      rw [← e] at g4
      refine ⟨ρ p.1, ?_⟩
      simp only [cond_true]
      omega
    | false => exact ⟨0, by simp only [cond_false]; omega⟩
  · refine ⟨0, ?_⟩
    dsimp only
    omega
noncomputable def ax_lt (N : ax_N) (a b : ax_V) : List ax_N := bif decide ((ax_ab N a b).1.1 < (ax_ab N a b).2.2) then [ax_nw (ax_nw N a (-2147483648) ((ax_iv N b).2 - 1)) b ((ax_iv N a).1 + 1) 2147483647] else []
noncomputable def ax_le (N : ax_N) (a b : ax_V) : List ax_N := bif decide ((ax_ab N a b).1.1 ≤ (ax_ab N a b).2.2) then [ax_nw (ax_nw N a (-2147483648) (ax_iv N b).2) b (ax_iv N a).1 2147483647] else []
noncomputable def ax_eq (N : ax_N) (a b : ax_V) : List ax_N := bif (decide ((ax_ab N a b).1.1 ≤ (ax_ab N a b).2.2) && decide ((ax_ab N a b).2.1 ≤ (ax_ab N a b).1.2)) then [ax_nw (ax_nw N a (ax_iv N b).1 (ax_iv N b).2) b (ax_iv N a).1 (ax_iv N a).2] else []
/-- all but one number -/
noncomputable def ax_sp (N : ax_N) (a : ax_V) (k : Int) : List ax_N := match a with
  | .inr (some _) => (bif decide ((ax_iv N a).1 ≤ k - 1) then [ax_nw N a (-2147483648) (k - 1)] else []) ++ (bif decide (k + 1 ≤ (ax_iv N a).2) then [ax_nw N a (k + 1) 2147483647] else [])
  | _ => [N]
noncomputable def ax_ne (N : ax_N) (a b : ax_V) : List ax_N :=
  bif (decide ((ax_ab N a b).1.1 = (ax_ab N a b).1.2) && (decide ((ax_ab N a b).2.1 = (ax_ab N a b).2.2) && decide ((ax_ab N a b).1.1 = (ax_ab N a b).2.1))) then [] else
  bif decide ((ax_iv N b).1 = (ax_iv N b).2) then ax_sp N a (ax_iv N b).1 else
  bif decide ((ax_iv N a).1 = (ax_iv N a).2) then ax_sp N b (ax_iv N a).1 else [N]
theorem ax_lt_ok {ρ : Nat → Int} {N : ax_N} {a b : ax_V} {x y : Int32} (hs : ax_sat ρ N) (ha : ax_r ρ a (.int x)) (hb : ax_r ρ b (.int y)) (h : x.toInt < y.toInt) : ∃ N' ∈ ax_lt N a b, ax_sat ρ N' := by
  obtain ⟨t, h1, h2, h3, h4⟩ := ax_ab_ok hs ha hb
  have i1 := ax_iv_ok hs ha
  have i2 := ax_iv_ok hs hb
  have r1 := ax_rng x
  have r2 := ax_rng y
  have hd : decide ((ax_ab N a b).1.1 < (ax_ab N a b).2.2) = true := decide_eq_true (by omega)
  refine ⟨_, by unfold ax_lt; rw [hd]; exact List.mem_singleton.mpr rfl, ?_⟩
  exact ax_nw_ok (ax_nw_ok hs ha r1.1 (by omega)) hb (by omega) r2.2
theorem ax_le_ok {ρ : Nat → Int} {N : ax_N} {a b : ax_V} {x y : Int32} (hs : ax_sat ρ N) (ha : ax_r ρ a (.int x)) (hb : ax_r ρ b (.int y)) (h : x.toInt ≤ y.toInt) : ∃ N' ∈ ax_le N a b, ax_sat ρ N' := by
  obtain ⟨t, h1, h2, h3, h4⟩ := ax_ab_ok hs ha hb
  have i1 := ax_iv_ok hs ha
  have i2 := ax_iv_ok hs hb
  have r1 := ax_rng x
  have r2 := ax_rng y
  have hd : decide ((ax_ab N a b).1.1 ≤ (ax_ab N a b).2.2) = true := decide_eq_true (by omega)
  refine ⟨_, by unfold ax_le; rw [hd]; exact List.mem_singleton.mpr rfl, ?_⟩
  exact ax_nw_ok (ax_nw_ok hs ha r1.1 (by omega)) hb (by omega) r2.2
theorem ax_eq_ok {ρ : Nat → Int} {N : ax_N} {a b : ax_V} {x y : Int32} (hs : ax_sat ρ N) (ha : ax_r ρ a (.int x)) (hb : ax_r ρ b (.int y)) (h : x.toInt = y.toInt) : ∃ N' ∈ ax_eq N a b, ax_sat ρ N' := by
  obtain ⟨t, h1, h2, h3, h4⟩ := ax_ab_ok hs ha hb
  have i1 := ax_iv_ok hs ha
  have i2 := ax_iv_ok hs hb
  have hd : (decide ((ax_ab N a b).1.1 ≤ (ax_ab N a b).2.2) && decide ((ax_ab N a b).2.1 ≤ (ax_ab N a b).1.2)) = true := by
    rw [decide_eq_true (show (ax_ab N a b).1.1 ≤ (ax_ab N a b).2.2 by omega), decide_eq_true (show (ax_ab N a b).2.1 ≤ (ax_ab N a b).1.2 by omega)]; rfl
  refine ⟨_, by unfold ax_eq; rw [hd]; exact List.mem_singleton.mpr rfl, ?_⟩
  exact ax_nw_ok (ax_nw_ok hs ha (by omega) (by omega)) hb (by omega) (by omega)
theorem ax_sp_ok {ρ : Nat → Int} {N : ax_N} {a : ax_V} {x : Int32} {k : Int} (hs : ax_sat ρ N) (ha : ax_r ρ a (.int x)) (h : x.toInt ≠ k) : ∃ N' ∈ ax_sp N a k, ax_sat ρ N' := by
  have i1 := ax_iv_ok hs ha
  have r1 := ax_rng x
  unfold ax_sp
  split
  · rename_i p
    rcases Int.lt_or_gt_of_ne h with hl | hl
    · refine ⟨_, List.mem_append_left _ ?_, ax_nw_ok hs ha r1.1 (show x.toInt ≤ k - 1 by omega)⟩
      rw [decide_eq_true (show (ax_iv N (.inr (some p))).1 ≤ k - 1 by omega)]
      exact List.mem_singleton.mpr rfl
    · refine ⟨_, List.mem_append_right _ ?_, ax_nw_ok hs ha (show k + 1 ≤ x.toInt by omega) r1.2⟩
      rw [decide_eq_true (show k + 1 ≤ (ax_iv N (.inr (some p))).2 by omega)]
      exact List.mem_singleton.mpr rfl
  · exact ⟨N, List.mem_singleton.mpr rfl, hs⟩
theorem ax_ne_ok {ρ : Nat → Int} {N : ax_N} {a b : ax_V} {x y : Int32} (hs : ax_sat ρ N) (ha : ax_r ρ a (.int x)) (hb : ax_r ρ b (.int y)) (h : ¬ x.toInt = y.toInt) : ∃ N' ∈ ax_ne N a b, ax_sat ρ N' := by
  obtain ⟨t, h1, h2, h3, h4⟩ := ax_ab_ok hs ha hb
  have i1 := ax_iv_ok hs ha
  have i2 := ax_iv_ok hs hb
  unfold ax_ne
  have hd : (decide ((ax_ab N a b).1.1 = (ax_ab N a b).1.2) && (decide ((ax_ab N a b).2.1 = (ax_ab N a b).2.2) && decide ((ax_ab N a b).1.1 = (ax_ab N a b).2.1))) = false := by
    cases hq : (decide ((ax_ab N a b).1.1 = (ax_ab N a b).1.2) && (decide ((ax_ab N a b).2.1 = (ax_ab N a b).2.2) && decide ((ax_ab N a b).1.1 = (ax_ab N a b).2.1))) with
    | false => rfl
    | true =>
      simp only [Bool.and_eq_true, decide_eq_true_eq] at hq
      exfalso
      omega
  rw [hd, cond_false]
  by_cases hb1 : (ax_iv N b).1 = (ax_iv N b).2
  · rw [decide_eq_true hb1, cond_true]
    exact ax_sp_ok hs ha (by omega)
  · rw [decide_eq_false hb1, cond_false]
    by_cases ha1 : (ax_iv N a).1 = (ax_iv N a).2
    · rw [decide_eq_true ha1, cond_true]
      exact ax_sp_ok hs hb (by omega)
    · rw [decide_eq_false ha1, cond_false]
      exact ⟨N, List.mem_singleton.mpr rfl, hs⟩
