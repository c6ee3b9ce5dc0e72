-- THE RUNNER is right
theorem ax_i1_e {st : List ax_V} {k : ax_V → List ax_V → ax_O} {l : List ax_C} (h : ax_i1 st k = some l) : ∃ a r, st = a :: r ∧ ax_isI a = true ∧ k a r = some l := by
  unfold ax_i1 at h
  split at h
  · rename_i a r
    cases hi : ax_isI a with
    | true => rw [hi] at h; exact ⟨a, r, rfl, hi, h⟩
    | false => rw [hi] at h; cases h
  · cases h
theorem ax_i2_e {st : List ax_V} {k : ax_V → ax_V → List ax_V → ax_O} {l : List ax_C} (h : ax_i2 st k = some l) : ∃ a b r, st = b :: a :: r ∧ ax_isI a = true ∧ ax_isI b = true ∧ k a b r = some l := by
  unfold ax_i2 at h
  split at h
  · rename_i b a r
    cases hi : (ax_isI a && ax_isI b) with
    | true => rw [hi] at h; simp only [Bool.and_eq_true] at hi; exact ⟨a, b, r, rfl, hi.1, hi.2, h⟩
    | false => rw [hi] at h; cases h
  · cases h
theorem ax_r1_e {st : List ax_V} {k : Nat → List ax_V → ax_O} {l : List ax_C} (h : ax_r1 st k = some l) : ∃ a r, st = .inl (.ref a) :: r ∧ k a r = some l := by
  unfold ax_r1 at h
  split at h
  · exact ⟨_, _, rfl, h⟩
  · cases h
theorem ax_sk_e {q : Option (Nat × Nat)} {c : Nat} {k : Nat → ax_O} {l : List ax_C} (h : ax_sk q c k = some l) : ∃ n, q = some (c, n) ∧ k n = some l := by
  unfold ax_sk at h
  split at h
  · rename_i kd
    cases hb : Nat.beq kd.1 c with
    | true => rw [hb] at h; exact ⟨kd.2, by rw [← Nat.eq_of_beq_eq_true hb], h⟩
    | false => rw [hb] at h; cases h
  · cases h
theorem ax_ix_e {N : ax_N} {i : ax_V} {n : Nat} {k : Nat → Nat → ax_O} {l : List ax_C} (h : ax_ix N i n k = some l) : 0 ≤ (ax_iv N i).1 ∧ (ax_iv N i).2 < (n : Int) ∧ k (ax_iv N i).1.toNat (ax_iv N i).2.toNat = some l := by
  unfold ax_ix at h
  cases hq : (decide (0 ≤ (ax_iv N i).1) && decide ((ax_iv N i).2 < (n : Int))) with
  | false => rw [hq] at h; cases h
  | true => rw [hq] at h; simp only [Bool.and_eq_true, decide_eq_true_eq] at hq; exact ⟨hq.1, hq.2, h⟩
theorem ax_ix_ok {ρ : Nat → Int} {N : ax_N} {i : ax_V} {x : Int32} {n : Nat} (hs : ax_sat ρ N) (h : ax_r ρ i (.int x)) (h1 : 0 ≤ (ax_iv N i).1) (h2 : (ax_iv N i).2 < (n : Int)) : ¬ (x < 0 ∨ n ≤ x.toNatClampNeg) ∧ (ax_iv N i).1.toNat ≤ x.toNatClampNeg ∧ x.toNatClampNeg ≤ (ax_iv N i).2.toNat ∧ (x.toNatClampNeg : Int) = x.toInt := by
  have h3 := ax_iv_ok hs h
  have e : x.toNatClampNeg = x.toInt.toNat := rfl
  refine ⟨?_, by omega, by omega, by omega⟩
  rintro (hx | hx)
  · have := Int32.lt_iff_toInt_lt.mp hx
    rw [show (0 : Int32).toInt = 0 from rfl] at this
    omega
  · omega
theorem ax_rs0 {ρ : Nat → Int} {w : List Value} (h : ax_rs ρ [] w) : w = [] := by
  match w, h with
  | [], _ => rfl
theorem ax_rs1 {ρ : Nat → Int} {a : ax_V} {l : List ax_V} {w : List Value} (h : ax_rs ρ (a :: l) w) : ∃ v r, w = v :: r ∧ ax_r ρ a v ∧ ax_rs ρ l r := by
  match w, h with
  | v :: r, h => exact ⟨v, r, rfl, h.1, h.2⟩
theorem ax_rs2 {ρ : Nat → Int} {a b : ax_V} {l : List ax_V} {w : List Value} (h : ax_rs ρ (a :: b :: l) w) : ∃ v u r, w = v :: u :: r ∧ ax_r ρ a v ∧ ax_r ρ b u ∧ ax_rs ρ l r := by
  obtain ⟨v, r, rfl, h1, h2⟩ := ax_rs1 h
  obtain ⟨u, r, rfl, h3, h4⟩ := ax_rs1 h2
  exact ⟨v, u, r, rfl, h1, h3, h4⟩
theorem ax_ok1_cat {ρ : Nat → Int} {a : ax_V} {w : Value} (h : ax_r ρ a w) (hk : ax_ok1 (some a) = true) : w.category = 1 := by
  match a, h, hk with
  | .inl v, h, hk =>
    have e : w = v := h
    subst e
    cases w <;> first | rfl | cases hk
  | .inr none, h, _ => obtain ⟨x, rfl⟩ := h; rfl
  | .inr (some q), h, _ => obtain ⟨x, rfl, -⟩ := h; rfl
theorem ax_nth_ok {ρ : Nat → Int} : ∀ {l : ax_L} {ls : List (Option Value)} {i : Nat} {a : ax_V}, ax_rl ρ l ls → ax_nth l i = some a → ∃ w, sx_nth ls i = some w ∧ ax_r ρ a w
  | [], _, i, a, _, h => by simp [ax_nth] at h
  | none :: l, none :: ls, 0, a, _, h => by simp [ax_nth] at h
  | some b :: l, some w :: ls, 0, a, hr, h => by
    simp only [ax_nth, Option.some.injEq] at h
    subst h
    exact ⟨w, rfl, hr.1⟩
  | none :: l, none :: ls, i + 1, a, hr, h => ax_nth_ok (l := l) (ls := ls) hr h
  | some b :: l, some w :: ls, i + 1, a, hr, h => ax_nth_ok (l := l) (ls := ls) hr.2 h
  | none :: _, some _ :: _, _, _, hr, _ => hr.elim
  | some _ :: _, none :: _, _, _, hr, _ => hr.elim
  | none :: _, [], _, _, hr, _ => hr.elim
  | some _ :: _, [], _, _, hr, _ => hr.elim
theorem ax_two {ρ : Nat → Int} {a : ax_V} {w : Value} (h : ax_r ρ a w) (hk : ax_ok1 (some a) = true) : sx_two (some w) = false := by
  have := ax_ok1_cat h hk
  cases w <;> first | rfl | cases this
theorem ax_put_ok {ρ : Nat → Int} : ∀ {l : ax_L} {ls : List (Option Value)} {i : Nat} {a : ax_V} {w : Value} {l2 : ax_L}, ax_rl ρ l ls → ax_r ρ a w → ax_put l i a = some l2 → ax_rl ρ l2 (sx_put ls i (some w))
  | [], _, i, a, w, l2, _, _, h => by simp [ax_put] at h
  | none :: l, none :: ls, 0, a, w, l2, hr, ha, h => by
    simp only [ax_put, Option.some.injEq] at h
    subst h
    exact ⟨ha, hr⟩
  | some b :: l, some u :: ls, 0, a, w, l2, hr, ha, h => by
    simp only [ax_put, Option.some.injEq] at h
    subst h
    exact ⟨ha, hr.2⟩
  | none :: l, none :: ls, i + 1, a, w, l2, hr, ha, h => by
    simp only [ax_put, ax_ok1, cond_true, Option.map_eq_some_iff] at h
    obtain ⟨l3, h3, rfl⟩ := h
    have ih := ax_put_ok (l := l) (ls := ls) hr ha h3
    simp only [sx_put]
    by_cases hi : i = 0
    · subst hi
      exact ih
    · rw [sx_beq_ne hi]
      exact ih
  | some b :: l, some u :: ls, i + 1, a, w, l2, hr, ha, h => by
    simp only [ax_put] at h
    cases hk : ax_ok1 (some b) with
    | false => rw [hk] at h; cases h
    | true =>
      rw [hk, cond_true, Option.map_eq_some_iff] at h
      obtain ⟨l3, h3, rfl⟩ := h
      have ih := ax_put_ok (l := l) (ls := ls) hr.2 ha h3
      simp only [sx_put, ax_two hr.1 hk, cond_false]
      cases Nat.beq i 0 <;> exact ⟨hr.1, ih⟩
  | none :: _, some _ :: _, _, _, _, _, hr, _, _ => hr.elim
  | some _ :: _, none :: _, _, _, _, _, hr, _, _ => hr.elim
  | none :: _, [], _, _, _, _, hr, _, _ => hr.elim
  | some _ :: _, [], _, _, _, _, hr, _, _ => hr.elim
theorem ax_cz_ok {ρ : Nat → Int} {N : ax_N} {a : ax_V} {x : Int32} (hs : ax_sat ρ N) (h : ax_r ρ a (.int x)) : ∃ N' ∈ ax_cz N a, ax_sat ρ N' := by
  have h1 := ax_iv_ok hs h
  refine ⟨_, List.mem_map.mpr ⟨(x.toInt - (ax_iv N a).1).toNat, List.mem_range.mpr (by omega), rfl⟩, ax_nw_ok hs h (by omega) (by omega)⟩
theorem ax_at_ok {ρ : Nat → Int} {N : ax_N} {a : ax_V} {x : Int32} {k : Int} (hs : ax_sat ρ N) (h : ax_r ρ a (.int x)) (hk : x.toInt = k) : ∃ N' ∈ ax_at N a k, ax_sat ρ N' := by
  have h1 := ax_iv_ok hs h
  refine ⟨ax_nw N a k k, ?_, ax_nw_ok hs h (by omega) (by omega)⟩
  unfold ax_at
  rw [decide_eq_true (show (ax_iv N a).1 ≤ k by omega), decide_eq_true (show k ≤ (ax_iv N a).2 by omega)]
  exact List.mem_singleton.mpr rfl
theorem ax_tb_ok {ρ : Nat → Int} {N : ax_N} {v : ax_V} {x : Int32} {mk : Nat → ax_N → ax_C} {pc : Nat} {P : Nat → Prop} (hs : ax_sat ρ N) (h : ax_r ρ v (.int x)) : ∀ (l : List Int) (a : Int), (∀ t N', mk t N' ∈ ax_tb mk N v pc a l → ax_sat ρ N' → P t) → sx_swT x pc P a l
  | [], _, _ => trivial
  | b :: l, a, hk => by
    refine ⟨fun hv => ?_, ax_tb_ok hs h l (a + 1) fun t N' h1 h2 => hk t N' (List.mem_append_right _ h1) h2⟩
    obtain ⟨N', h3, h4⟩ := ax_at_ok hs h hv
    exact hk _ N' (List.mem_append_left _ (List.mem_map.mpr ⟨N', h3, rfl⟩)) h4
theorem ax_lk_ok {ρ : Nat → Int} {N : ax_N} {v : ax_V} {x : Int32} {mk : Nat → ax_N → ax_C} {pc : Nat} {dflt : Int} {P : Nat → Prop} (hs : ax_sat ρ N) (h : ax_r ρ v (.int x)) : ∀ (l : List (Int × Int)) (Ns : List ax_N), (∃ N' ∈ Ns, ax_sat ρ N') → (∀ t N', mk t N' ∈ ax_lk mk N v pc dflt l Ns → ax_sat ρ N' → P t) → sx_swL x pc P dflt l
  | [], Ns, hn, hk => by
    obtain ⟨N', h1, h2⟩ := hn
    exact hk _ N' (List.mem_map.mpr ⟨N', h1, rfl⟩) h2
  | q :: l, Ns, hn, hk => by
    refine ⟨fun hv => ?_, fun hv => ?_⟩
    · obtain ⟨N', h3, h4⟩ := ax_at_ok hs h hv
      exact hk _ N' (List.mem_append_left _ (List.mem_map.mpr ⟨N', h3, rfl⟩)) h4
    · obtain ⟨N1, h1, h2⟩ := hn
      obtain ⟨N2, h3, h4⟩ := ax_sp_ok h2 h hv
      exact ax_lk_ok hs h l _ ⟨N2, List.mem_flatMap.mpr ⟨N1, h1, h3⟩, h4⟩ fun t N' h5 h6 => hk t N' (List.mem_append_right _ h5) h6
theorem ax_br2_ok {ρ : Nat → Int} {N : ax_N} {a b : ax_V} {x y : Int32} {cd : Jvm.ClassFile.Cond} {T F : Prop} (hs : ax_sat ρ N) (ha : ax_r ρ a (.int x)) (hb : ax_r ρ b (.int y)) (hT : ∀ N' ∈ ax_cT cd N a b, ax_sat ρ N' → T) (hF : ∀ N' ∈ ax_cF cd N a b, ax_sat ρ N' → F) : sx_br2 cd x y T F := by
  have use : ∀ {L : List ax_N} {P : Prop}, (∃ N' ∈ L, ax_sat ρ N') → (∀ N' ∈ L, ax_sat ρ N' → P) → P := fun h k => by obtain ⟨N', h1, h2⟩ := h; exact k N' h1 h2
  cases cd
  · exact ⟨fun h => use (ax_eq_ok hs ha hb (by rw [h])) hT, fun h => use (ax_ne_ok hs ha hb (fun e => h (Int32.toInt_inj.mp e))) hF⟩
  · exact ⟨fun h => use (ax_ne_ok hs ha hb (fun e => h (Int32.toInt_inj.mp e))) hT, fun h => use (ax_eq_ok hs ha hb (by rw [h])) hF⟩
  · exact ⟨fun h => use (ax_lt_ok hs ha hb (Int32.lt_iff_toInt_lt.mp h)) hT, fun h => use (ax_le_ok hs hb ha (Int32.le_iff_toInt_le.mp (Int32.not_lt.mp h))) hF⟩
  · exact ⟨fun h => use (ax_le_ok hs hb ha (Int32.le_iff_toInt_le.mp h)) hT, fun h => use (ax_lt_ok hs ha hb (Int32.lt_iff_toInt_lt.mp (Int32.not_le.mp h))) hF⟩
  · exact ⟨fun h => use (ax_lt_ok hs hb ha (Int32.lt_iff_toInt_lt.mp h)) hT, fun h => use (ax_le_ok hs ha hb (Int32.le_iff_toInt_le.mp (Int32.not_lt.mp h))) hF⟩
  · exact ⟨fun h => use (ax_le_ok hs ha hb (Int32.le_iff_toInt_le.mp h)) hT, fun h => use (ax_lt_ok hs hb ha (Int32.lt_iff_toInt_lt.mp (Int32.not_le.mp h))) hF⟩
theorem ax_br1_ok {ρ : Nat → Int} {N : ax_N} {a : ax_V} {x : Int32} {cd : Jvm.ClassFile.Cond} {T F : Prop} (hs : ax_sat ρ N) (ha : ax_r ρ a (.int x)) (hT : ∀ N' ∈ ax_cT cd N a (.inl (.int 0)), ax_sat ρ N' → T) (hF : ∀ N' ∈ ax_cF cd N a (.inl (.int 0)), ax_sat ρ N' → F) : sx_br1 cd x T F := by
  have h := ax_br2_ok (y := 0) hs ha (show ax_r ρ (.inl (.int 0)) (.int 0) from rfl) hT hF
  cases cd <;> exact h
theorem ax_01 {x : Int32} {q : Int × Int} (h : q.1 ≤ x.toInt ∧ x.toInt ≤ q.2) (h1 : 0 ≤ q.1) (h2 : q.2 ≤ 1) : x = 0 ∨ x = 1 := by
  rcases (show x.toInt = 0 ∨ x.toInt = 1 by omega) with e | e
  · exact Or.inl (Int32.toInt_inj.mp e)
  · exact Or.inr (Int32.toInt_inj.mp e)
theorem ax_upc_eq {f : Nat → Nat × (Nat → ax_V)} {a k : Nat} {v : ax_V} : (ax_upc f a k v a).2 = sx_u1 (f a).2 k v := by
  unfold ax_upc
  rw [Nat.beq_refl]
  rfl
theorem ax_upc_ne {f : Nat → Nat × (Nat → ax_V)} {a k i : Nat} {v : ax_V} (h : i ≠ a) : ax_upc f a k v i = f i := by
  unfold ax_upc
  rw [sx_beq_ne h]
  rfl
theorem ax_uac_eq {f : Nat → Nat × (Nat → ax_V)} {a : Nat} {g : Nat → ax_V} : (ax_uac f a g a).2 = g := by
  unfold ax_uac
  rw [Nat.beq_refl]
  rfl
theorem ax_uac_ne {f : Nat → Nat × (Nat → ax_V)} {a i : Nat} {g : Nat → ax_V} (h : i ≠ a) : ax_uac f a g i = f i := by
  unfold ax_uac
  rw [sx_beq_ne h]
  rfl
theorem ax_rr_up {A : Nat → Option (Nat × Nat)} {f g : Nat → Nat → Option Nat} (h : ∀ i kd k q, A i = some kd → k < kd.2 → f i k = some q → g i k = some q) {a n : Nat} {v : Option Nat} : ∀ i kd k q, A i = some kd → k < kd.2 → sx_up f a n v i k = some q → sx_up g a n v i k = some q := by
  intro i kd k q hi hk
  by_cases hia : i = a
  · subst hia
    rw [sx_up_eq, sx_up_eq]
    by_cases hkn : k = n
    · subst hkn
      rw [sx_u1_eq, sx_u1_eq]
      exact fun e => e
    · rw [sx_u1_ne hkn, sx_u1_ne hkn]
      exact h i kd k q hi hk
  · rw [sx_up_ne hia, sx_up_ne hia]
    exact h i kd k q hi hk
theorem ax_rm_wr {ρ : Nat → Int} {M : ax_M} {m : sx_M} (hm : ax_rm ρ M m) {a n : Nat} {v : ax_V} {x : Int32} (hv : ax_r ρ v (.int x)) : ax_rm ρ (M.1, M.2.1, ax_wr M.2.2.1 a n v, M.2.2.2) (m.1, m.2.1, sx_up m.2.2.1 a n x, m.2.2.2) := by
  refine ⟨hm.1, hm.2.1, hm.2.2.1, fun i kd k hi hk => ?_⟩
  have h0 := hm.2.2.2 i kd k hi hk
  show ax_r ρ ((ax_wr M.2.2.1 a n v i).2 k) (.int (sx_up m.2.2.1 a n x i k))
  unfold ax_wr
  cases hq : ax_same ((M.2.2.1 a).2 n) v with
  | true =>
    rw [cond_true]
    by_cases hia : i = a
    · subst hia
      rw [sx_up_eq]
      by_cases hkn : k = n
      · subst hkn
        rw [sx_u1_eq]
        simp only [ax_same, Bool.or_eq_true, decide_eq_true_eq] at hq
        rcases hq with e | e
        · rw [e]; exact ⟨x, rfl⟩
        · rw [e]; exact hv
      · rw [sx_u1_ne hkn]
        exact h0
    · rw [sx_up_ne hia]
      exact h0
  | false =>
    rw [cond_false]
    by_cases hia : i = a
    · subst hia
      rw [ax_upc_eq, sx_up_eq]
      by_cases hkn : k = n
      · subst hkn
        rw [sx_u1_eq, sx_u1_eq]
        exact hv
      · rw [sx_u1_ne hkn, sx_u1_ne hkn]
        exact h0
    · rw [ax_upc_ne hia, sx_up_ne hia]
      exact h0
theorem ax_rm_rg {ρ : Nat → Int} {M : ax_M} {m : sx_M} (hm : ax_rm ρ M m) {a n lo hi : Nat} {x : Int32} (h1 : lo ≤ n) (h2 : n ≤ hi) : ax_rm ρ (M.1, M.2.1, ax_uac M.2.2.1 a (ax_rg ((M.2.2.1 a).2) lo hi), M.2.2.2) (m.1, m.2.1, sx_up m.2.2.1 a n x, m.2.2.2) := by
  refine ⟨hm.1, hm.2.1, hm.2.2.1, fun i kd k hi1 hk1 => ?_⟩
  have h0 := hm.2.2.2 i kd k hi1 hk1
  show ax_r ρ ((ax_uac M.2.2.1 a _ i).2 k) (.int (sx_up m.2.2.1 a n x i k))
  by_cases hia : i = a
  · subst hia
    rw [ax_uac_eq, sx_up_eq]
    unfold ax_rg
    cases hq : (Nat.ble lo k && Nat.ble k hi) with
    | true => exact ⟨_, rfl⟩
    | false =>
      have hk : k ≠ n := by
        intro e
        subst e
        rw [Nat.ble_eq_true_of_le h1, Nat.ble_eq_true_of_le h2] at hq
        cases hq
      rw [sx_u1_ne hk]
      exact h0
  · rw [ax_uac_ne hia, sx_up_ne hia]
    exact h0
theorem ax_rm_push {ρ : Nat → Int} {M : ax_M} {m : sx_M} (hm : ax_rm ρ M m) {kd : Nat × Nat} : ax_rm ρ (M.1 + 1, sx_u1 M.2.1 M.1 (some kd), ax_uac M.2.2.1 M.1 (fun _ => .inl (.int 0)), sx_ua M.2.2.2 M.1 (fun _ => none)) (m.1 + 1, sx_u1 m.2.1 m.1 (some kd), sx_ua m.2.2.1 m.1 (fun _ => 0), sx_ua m.2.2.2 m.1 (fun _ => none)) := by
  obtain ⟨h1, h2, h3, h4⟩ := hm
  have key : ∀ i kd', sx_u1 M.2.1 M.1 (some kd) i = some kd' → (i = M.1 ∧ kd' = kd) ∨ (i ≠ M.1 ∧ M.2.1 i = some kd') := by
    intro i kd' hi
    by_cases e : i = M.1
    · subst e
      rw [sx_u1_eq] at hi
      exact Or.inl ⟨rfl, (Option.some.inj hi).symm⟩
    · rw [sx_u1_ne e] at hi
      exact Or.inr ⟨e, hi⟩
  refine ⟨by show m.1 + 1 = M.1 + 1; rw [h1], fun i kd' hi => ?_, fun i kd' k q hi hk hr => ?_, fun i kd' k hi hk => ?_⟩
  · show sx_u1 m.2.1 m.1 (some kd) i = some kd'
    rw [h1]
    rcases key i kd' hi with ⟨e, e2⟩ | ⟨e, e2⟩
    · subst e; subst e2; rw [sx_u1_eq]
    · rw [sx_u1_ne e]; exact h2 i kd' e2
  · have hr : sx_ua M.2.2.2 M.1 (fun _ => none) i k = some q := hr
    show sx_ua m.2.2.2 m.1 (fun _ => none) i k = some q
    rw [h1]
    rcases key i kd' hi with ⟨e, e2⟩ | ⟨e, e2⟩
    · subst e; rw [sx_ua_eq] at hr; cases hr
    · rw [sx_ua_ne e] at hr ⊢; exact h3 i kd' k q e2 hk hr
  · show ax_r ρ ((ax_uac M.2.2.1 M.1 _ i).2 k) (.int (sx_ua m.2.2.1 m.1 _ i k))
    rw [h1]
    rcases key i kd' hi with ⟨e, e2⟩ | ⟨e, e2⟩
    · subst e; rw [ax_uac_eq, sx_ua_eq]; rfl
    · rw [ax_uac_ne e, sx_ua_ne e]; exact h4 i kd' k e2 hk
theorem ax_rm_cpy {ρ : Nat → Int} {M : ax_M} {m : sx_M} (hm : ax_rm ρ M m) {a a0 n0 sp dp n : Nat} (hs0 : M.2.1 a0 = some (13, n0)) (hle : sp + n ≤ n0) : ax_rm ρ (M.1, M.2.1, ax_uac M.2.2.1 a (ax_cpy ((M.2.2.1 a0).2) ((M.2.2.1 a).2) sp dp n), M.2.2.2) (m.1, m.2.1, sx_ua m.2.2.1 a (va_cpy (m.2.2.1 a0) (m.2.2.1 a) sp dp n), m.2.2.2) := by
  refine ⟨hm.1, hm.2.1, hm.2.2.1, fun i kd k hi hk1 => ?_⟩
  have h0 := hm.2.2.2 i kd k hi hk1
  show ax_r ρ ((ax_uac M.2.2.1 a _ i).2 k) (.int (sx_ua m.2.2.1 a _ i k))
  by_cases hia : i = a
  · subst hia
    rw [ax_uac_eq, sx_ua_eq]
    unfold ax_cpy va_cpy
    by_cases hk : dp ≤ k ∧ k < dp + n
    · rw [if_pos hk, Nat.ble_eq_true_of_le hk.1, Nat.ble_eq_true_of_le (show k + 1 ≤ dp + n from hk.2)]
      exact hm.2.2.2 a0 _ _ hs0 (by show sp + (k - dp) < n0; omega)
    · rw [if_neg hk]
      cases hq : (Nat.ble dp k && Nat.ble (k + 1) (dp + n)) with
      | true =>
        simp only [Bool.and_eq_true] at hq
        exact absurd ⟨Nat.le_of_ble_eq_true hq.1, Nat.le_of_ble_eq_true hq.2⟩ hk
      | false => exact h0
  · rw [ax_uac_ne hia, sx_ua_ne hia]
    exact h0
theorem ax_all_ok {g : Nat → ax_V} {lo : Nat} : ∀ {n : Nat}, ax_all g lo n = true → ∀ k, k ≤ n → g (lo + k) = g lo
  | 0, _, k, hk => by rw [show k = 0 by omega]; rfl
  | n + 1, h, k, hk => by
    simp only [ax_all, Bool.and_eq_true, decide_eq_true_eq] at h
    by_cases e : k = n + 1
    · rw [e]; exact h.1
    · exact ax_all_ok h.2 k (by omega)
theorem ax_rd_ok {ρ : Nat → Int} {g : Nat → ax_V} {f : Nat → Int32} {n n0 lo hi : Nat} (hm : ∀ k, k < n0 → ax_r ρ (g k) (.int (f k))) (hn0 : n < n0) (h1 : lo ≤ n) (h2 : n ≤ hi) : ax_r ρ (bif ax_all g lo (hi - lo) then g lo else .inr none) (.int (f n)) := by
  cases hq : ax_all g lo (hi - lo) with
  | true =>
    have h3 := ax_all_ok hq (n - lo) (by omega)
    rw [show lo + (n - lo) = n by omega] at h3
    rw [cond_true, ← h3]
    exact hm n hn0
  | false => exact ⟨_, rfl⟩
theorem ax_rs_cut2 {ρ : Nat → Int} : ∀ (y : Nat) {l : List ax_V} {w : List Value}, ax_rs ρ l w → y ≤ l.length → ∃ t r, w = t ++ r ∧ ax_rs ρ (l.take y) t ∧ ax_rs ρ (l.drop y) r ∧ t.length = y
  | 0, l, w, h, _ => ⟨[], w, rfl, by rw [List.take_zero]; exact trivial, h, rfl⟩
  | y + 1, [], w, h, hl => by simp at hl
  | y + 1, a :: l, w, h, hl => by
    obtain ⟨v, r, rfl, h1, h2⟩ := ax_rs1 h
    obtain ⟨t, r, rfl, h3, h4, h5⟩ := ax_rs_cut2 y h2 (by simpa using hl)
    exact ⟨v :: t, r, rfl, ⟨h1, h3⟩, h4, by simp [h5]⟩
theorem ax_rs_cut {ρ : Nat → Int} (y : Nat) {l : List ax_V} {w : List Value} (h : ax_rs ρ l w) (hl : l.drop y ≠ []) : ∃ t r, w = t ++ r ∧ ax_rs ρ (l.take y) t ∧ ax_rs ρ (l.drop y) r ∧ t.length = y :=
  ax_rs_cut2 y h (by
    rcases Nat.lt_or_ge y l.length with g | g
    · omega
    · exact absurd (List.drop_eq_nil_of_le g) hl)
theorem ax_rs_app {ρ : Nat → Int} : ∀ {l r : List ax_V} {u w : List Value}, ax_rs ρ l u → ax_rs ρ r w → ax_rs ρ (l ++ r) (u ++ w)
  | [], r, u, w, h, h2 => by rw [ax_rs0 h]; exact h2
  | a :: l, r, u, w, h, h2 => by
    obtain ⟨v, u2, rfl, h3, h4⟩ := ax_rs1 h
    exact ⟨h3, ax_rs_app h4 h2⟩
theorem ax_rs_rev {ρ : Nat → Int} : ∀ {l : List ax_V} {u : List Value}, ax_rs ρ l u → ax_rs ρ l.reverse u.reverse
  | [], u, h => by rw [ax_rs0 h]; exact trivial
  | a :: l, u, h => by
    obtain ⟨v, u2, rfl, h3, h4⟩ := ax_rs1 h
    rw [List.reverse_cons, List.reverse_cons]
    exact ax_rs_app (ax_rs_rev h4) ⟨h3, trivial⟩
theorem ax_cat_ok {ρ : Nat → Int} : ∀ {l : List ax_V} {u : List Value}, ax_rs ρ l u → sx_cat u = ax_cat l
  | [], u, h => by rw [ax_rs0 h]; rfl
  | a :: l, u, h => by
    obtain ⟨v, u2, rfl, h3, h4⟩ := ax_rs1 h
    have ih := ax_cat_ok h4
    match a, h3 with
    | .inl w, h3 =>
      have e : v = w := h3
      subst e
      cases v <;> simp only [sx_cat, ax_cat, ih]
    | .inr none, h3 => obtain ⟨x, rfl⟩ := h3; simp only [sx_cat, ax_cat, ih]
    | .inr (some q), h3 => obtain ⟨x, rfl, -⟩ := h3; simp only [sx_cat, ax_cat, ih]
theorem ax_nl1_ok {ρ : Nat → Int} {a : ax_V} {v : Value} {u2 : List Value} (h3 : ax_r ρ a v) (hn : ax_nl1 a = true) : sx_ent (v :: u2) = some v :: sx_ent u2 := by
  match a, h3, hn with
  | .inl (.int x), h3, _ => have e : v = .int x := h3; subst e; rfl
  | .inl (.ref x), h3, _ => have e : v = .ref x := h3; subst e; rfl
  | .inr none, h3, _ => obtain ⟨x, rfl⟩ := h3; rfl
  | .inr (some q), h3, _ => obtain ⟨x, rfl, -⟩ := h3; rfl
theorem ax_ent_ok {ρ : Nat → Int} : ∀ {l : List ax_V} {u : List Value}, ax_rs ρ l u → ax_nl l = true → ax_rl ρ (ax_ent l) (sx_ent u) ∧ (sx_ent u).length = l.length
  | [], u, h, _ => by rw [ax_rs0 h]; exact ⟨trivial, rfl⟩
  | a :: l, u, h, hn => by
    obtain ⟨v, u2, rfl, h3, h4⟩ := ax_rs1 h
    have hn1 : ax_nl1 a = true ∧ ax_nl l = true := by
      unfold ax_nl at hn ⊢
      rw [List.all_cons, Bool.and_eq_true] at hn
      exact hn
    obtain ⟨g1, g2⟩ := ax_ent_ok h4 hn1.2
    have e : sx_ent (v :: u2) = some v :: sx_ent u2 := ax_nl1_ok h3 hn1.1
    rw [e]
    exact ⟨⟨h3, g1⟩, by simp [g2]⟩
theorem ax_rl_app {ρ : Nat → Int} : ∀ {l : ax_L} {u : List (Option Value)} (n : Nat), ax_rl ρ l u → ax_rl ρ (l ++ List.replicate n none) (u ++ List.replicate n none)
  | [], [], 0, _ => trivial
  | [], [], n + 1, _ => by
    show ax_rl ρ (List.replicate (n + 1) none) (List.replicate (n + 1) none)
    rw [List.replicate_succ, List.replicate_succ]
    exact ax_rl_app (l := []) (u := []) n trivial
  | none :: l, none :: u, n, h => ax_rl_app (l := l) (u := u) n h
  | some a :: l, some w :: u, n, h => ⟨h.1, ax_rl_app (l := l) (u := u) n h.2⟩
  | none :: _, some _ :: _, _, h => h.elim
  | some _ :: _, none :: _, _, h => h.elim
  | none :: _, [], _, h => h.elim
  | some _ :: _, [], _, h => h.elim
  | [], none :: _, _, h => h.elim
  | [], some _ :: _, _, h => h.elim
theorem sx_nth_app : ∀ (l : List (Option Value)) (n i : Nat), sx_nth (l ++ List.replicate n none) i = sx_nth l i
  | [], 0, i => rfl
  | [], n + 1, 0 => rfl
  | [], n + 1, i + 1 => by
    show sx_nth (List.replicate (n + 1) none) (i + 1) = none
    rw [List.replicate_succ]
    have := sx_nth_app [] n i
    simpa [sx_nth] using this
  | a :: l, n, 0 => rfl
  | a :: l, n, i + 1 => sx_nth_app l n i
/-- locals that are not known yet -/
theorem sx_S.of2 {E : sx_E} {d kc ks j : Nat} {as : List Value} {m : sx_M} {Q : Option Value → sx_M → Prop} (hm : sx_mf j) (hl : (sx_ent as).length ≤ sx_L j) (h : sx_W E d kc ks j 0 (sx_ent as ++ List.replicate (sx_L j - (sx_ent as).length) none) [] m Q) : sx_S E d kc ks j as m Q := by
  refine sx_S.of hm hl ?_
  intro p e s mi args below meth c H locs cells slots KC KS A hx hb hml hr hlk hin hown hts hok hK hR hlo hfr hcl hsl
  refine h p e s mi args below meth c H locs cells slots KC KS A hx hb hml hr hlk hin hown hts hok hK hR ⟨hlo.1, hlo.2.1, by rw [List.length_append, List.length_replicate]; omega, fun i v hv => ?_⟩ hfr hcl hsl
  rw [sx_nth_app] at hv
  exact hlo.2.2.2 i v hv
noncomputable def ax_ro (ρ : Nat → Int) (a : Option ax_V) (v : Option Value) : Prop := match a, v with
  | some b, some w => ax_r ρ b w
  | none, none => True
  | _, _ => False
theorem ax_in_cat {X : ax_X} {d kc ks j pc : Nat} {ls : ax_L} {rest : List ax_V} {fs : List ax_F} {M : ax_M} {N : ax_N} {x : Nat} {as : List ax_V} {l : List ax_C} (h : ax_in X d kc ks j pc ls rest fs M N x as = some l) : ax_cat rest ≤ 8 := by
  unfold ax_in at h
  cases hq : Nat.ble (ax_cat rest) 8 with
  | false => rw [hq] at h; cases h
  | true => exact Nat.le_of_ble_eq_true hq
theorem ax_in_ok {E : sx_E} {B : (Nat → Int) → Prop} {Q : Option Value → sx_M → Prop} {X : ax_X} (hXm : ∀ j, X.2.1 j = true → sx_mf j)
    (hXs : ∀ x as M N os, X.2.2.2.1 x as M N = some os → ∀ ρ asv m, B ρ → ax_rs ρ as asv → ax_rm ρ M m → ax_sat ρ N → sx_S E 10 0 0 x asv m (fun v m' => ∃ q ∈ os, ax_ro ρ q.1 v ∧ ax_rm ρ q.2.1 m' ∧ ax_sat ρ q.2.2))
    {d kc ks j pc : Nat} {ls : ax_L} {rest : List ax_V} {fs : List ax_F} {M : ax_M} {N : ax_N} {x : Nat} {as : List ax_V} {l : List ax_C} (h : ax_in X d kc ks j pc ls rest fs M N x as = some l) (hl : ∀ c ∈ l, ax_G E B Q c)
    (ρ : Nat → Int) (ls' : List (Option Value)) (w : List Value) (fs' : List sx_F) (m : sx_M) (asv : List Value) (hB : B ρ) (hls : ax_rl ρ ls ls') (hr : ax_rs ρ rest w) (hfs : ax_rfs ρ fs fs') (hm : ax_rm ρ M m) (hN : ax_sat ρ N) (has : ax_rs ρ as asv) :
    ∃ (d' kc' ks' : Nat) (Q' : Option Value → sx_M → Prop), d' < d ∧ kc' ≤ kc ∧ ks' ≤ ks ∧ sx_S E d' kc' ks' x asv m Q' ∧ ∀ v m', Q' v m' → sx_W E d (kc - kc') (ks - ks') j (pc + 3) ls' (v.toList ++ w) m' (ax_P E Q fs') := by
  unfold ax_in at h
  cases hq : Nat.ble (ax_cat rest) 8 with
  | false => rw [hq] at h; cases h
  | true =>
    rw [hq, cond_true] at h
    split at h
    · rename_i os hos
      cases hd : Nat.ble 11 d with
      | false => rw [hd] at h; cases h
      | true =>
        rw [hd, cond_true] at h
        cases h
        refine ⟨10, 0, 0, _, Nat.le_of_ble_eq_true hd, Nat.zero_le _, Nat.zero_le _, hXs x as M N os hos ρ asv m hB has hm hN, ?_⟩
        intro v m' hv
        obtain ⟨q, h1, h2, h3, h4⟩ := hv
        refine hl _ (List.mem_map.mpr ⟨q, h1, rfl⟩) ρ ls' _ fs' m' hB hls ?_ hfs h3 h4
        show ax_rs ρ (q.1.toList ++ rest) (v.toList ++ w)
        refine ax_rs_app ?_ hr
        match hq1 : q.1, v, h2 with
        | some b, some u, h2 => exact ⟨h2, trivial⟩
        | none, none, h2 => exact trivial
        | some b, none, h2 => exact h2.elim
        | none, some u, h2 => exact h2.elim
    · cases hc : (X.2.1 x && (ax_nl as && (Nat.ble as.length (sx_L x) && (Nat.ble (X.2.2.1 x).1 kc && (Nat.ble (X.2.2.1 x).2 ks && Nat.ble 1 d))))) with
      | false => rw [hc] at h; cases h
      | true =>
        rw [hc, cond_true] at h
        cases h
        simp only [Bool.and_eq_true] at hc
        obtain ⟨c1, c2, c3, c4, c5, c6⟩ := hc
        have hd : 1 ≤ d := Nat.le_of_ble_eq_true c6
        obtain ⟨g1, g2⟩ := ax_ent_ok has c2
        have hlen : (sx_ent asv).length ≤ sx_L x := by rw [g2]; exact Nat.le_of_ble_eq_true c3
        refine ⟨d - 1, (X.2.2.1 x).1, (X.2.2.1 x).2, ax_P E Q ((d, kc - (X.2.2.1 x).1, ks - (X.2.2.1 x).2, j, pc, ls', w) :: fs'), by omega, Nat.le_of_ble_eq_true c4, Nat.le_of_ble_eq_true c5, sx_S.of2 (hXm x c1) hlen ?_, fun v m' hv => hv⟩
        refine hl _ (List.mem_singleton.mpr rfl) ρ _ [] _ m hB ?_ trivial ⟨⟨rfl, rfl, rfl, rfl, rfl, hls, hr⟩, hfs⟩ hm hN
        rw [g2]
        exact ax_rl_app _ g1
set_option maxHeartbeats 4000000 in
theorem ax_step_ok {E : sx_E} {B : (Nat → Int) → Prop} {Q : Option Value → sx_M → Prop} {X : ax_X} (hXL : X.1 ≠ 0 → sx_Ln E = X.1) (hXB : ∀ ρ, B ρ → ∀ k, k < X.1 → ρ k = (sx_xs E k).toInt) (hXm : ∀ j, X.2.1 j = true → sx_mf j)
    (hXs : ∀ x as M N os, X.2.2.2.1 x as M N = some os → ∀ ρ asv m, B ρ → ax_rs ρ as asv → ax_rm ρ M m → ax_sat ρ N → sx_S E 10 0 0 x asv m (fun v m' => ∃ q ∈ os, ax_ro ρ q.1 v ∧ ax_rm ρ q.2.1 m' ∧ ax_sat ρ q.2.2))
    (hXp : ∀ a M N ρ v m, X.2.2.2.2 a M N = true → B ρ → ax_ro ρ a v → ax_rm ρ M m → ax_sat ρ N → Q v m)
    (c : ax_C) (l : List ax_C) (h : ax_step X c = some l) (hl : ∀ c' ∈ l, ax_G E B Q c') : ax_G E B Q c := by
  obtain ⟨⟨d, kc, ks, j, pc, ls, st⟩, fs, M, N⟩ := c
  intro ρ ls' st' fs' m hB hls hst hfs hm hN
  show sx_W E d kc ks j pc ls' st' m (ax_P E Q fs')
  change ax_rl ρ ls ls' at hls
  change ax_rs ρ st st' at hst
  change ax_rfs ρ fs fs' at hfs
  change ax_rm ρ M m at hm
  change ax_sat ρ N at hN
  unfold ax_step at h
  simp only at h
  split at h
  · rename_i i n x y z ht
    cases i
    case iconst _ =>
      dsimp only [ax_ins] at h
      cases h
      refine sx_iconst ht ?_
      exact hl _ (List.mem_singleton.mpr rfl) ρ _ _ fs' _ hB hls ⟨rfl, hst⟩ hfs hm hN
    case bipush _ =>
      dsimp only [ax_ins] at h
      cases h
      refine sx_bipush ht ?_
      exact hl _ (List.mem_singleton.mpr rfl) ρ _ _ fs' _ hB hls ⟨rfl, hst⟩ hfs hm hN
    case sipush _ =>
      dsimp only [ax_ins] at h
      cases h
      refine sx_sipush ht ?_
      exact hl _ (List.mem_singleton.mpr rfl) ρ _ _ fs' _ hB hls ⟨rfl, hst⟩ hfs hm hN
    case iadd =>
      dsimp only [ax_ins] at h
      replace h := ax_i2_e h
      obtain ⟨a, b, r, e9, i1, i2, h⟩ := h
      subst e9
      obtain ⟨wb, wa, w, rfl, hb, ha, hr⟩ := ax_rs2 hst
      obtain ⟨av, rfl⟩ := ax_isI_e ha i1
      obtain ⟨bv, rfl⟩ := ax_isI_e hb i2
      cases h
      refine sx_iadd ht ?_
      exact hl _ (List.mem_singleton.mpr rfl) ρ _ _ fs' _ hB hls ⟨ax_add_ok hN ha hb, hr⟩ hfs hm hN
    case isub =>
      dsimp only [ax_ins] at h
      replace h := ax_i2_e h
      obtain ⟨a, b, r, e9, i1, i2, h⟩ := h
      subst e9
      obtain ⟨wb, wa, w, rfl, hb, ha, hr⟩ := ax_rs2 hst
      obtain ⟨av, rfl⟩ := ax_isI_e ha i1
      obtain ⟨bv, rfl⟩ := ax_isI_e hb i2
      cases h
      refine sx_isub ht ?_
      exact hl _ (List.mem_singleton.mpr rfl) ρ _ _ fs' _ hB hls ⟨ax_sub_ok hN ha hb, hr⟩ hfs hm hN
    case iand =>
      dsimp only [ax_ins] at h
      replace h := ax_i2_e h
      obtain ⟨a, b, r, e9, i1, i2, h⟩ := h
      subst e9
      obtain ⟨wb, wa, w, rfl, hb, ha, hr⟩ := ax_rs2 hst
      obtain ⟨av, rfl⟩ := ax_isI_e ha i1
      obtain ⟨bv, rfl⟩ := ax_isI_e hb i2
      cases h
      refine sx_iand ht ?_
      exact hl _ (List.mem_singleton.mpr rfl) ρ _ _ fs' _ hB hls ⟨ax_and_ok hN ha hb, hr⟩ hfs hm hN
    case ishl =>
      dsimp only [ax_ins] at h
      replace h := ax_i2_e h
      obtain ⟨a, b, r, e9, i1, i2, h⟩ := h
      subst e9
      obtain ⟨wb, wa, w, rfl, hb, ha, hr⟩ := ax_rs2 hst
      obtain ⟨av, rfl⟩ := ax_isI_e ha i1
      obtain ⟨bv, rfl⟩ := ax_isI_e hb i2
      cases hq2 : ax_small N b with
      | true =>
        rw [hq2, cond_true] at h
        cases h
        obtain ⟨N', h3, h4⟩ := ax_cz_ok hN hb
        exact hl _ (List.mem_map.mpr ⟨N', h3, rfl⟩) ρ _ _ fs' _ hB hls hst hfs hm h4
      | false =>
        rw [hq2, cond_false] at h
        cases h
        refine sx_ishl ht ?_
        exact hl _ (List.mem_singleton.mpr rfl) ρ _ _ fs' _ hB hls ⟨ax_op_ok (f := fun x y => x <<< (y &&& 31)) hN ha hb, hr⟩ hfs hm hN
    case ishr =>
      dsimp only [ax_ins] at h
      replace h := ax_i2_e h
      obtain ⟨a, b, r, e9, i1, i2, h⟩ := h
      subst e9
      obtain ⟨wb, wa, w, rfl, hb, ha, hr⟩ := ax_rs2 hst
      obtain ⟨av, rfl⟩ := ax_isI_e ha i1
      obtain ⟨bv, rfl⟩ := ax_isI_e hb i2
      cases hq2 : ax_small N b with
      | true =>
        rw [hq2, cond_true] at h
        cases h
        obtain ⟨N', h3, h4⟩ := ax_cz_ok hN hb
        exact hl _ (List.mem_map.mpr ⟨N', h3, rfl⟩) ρ _ _ fs' _ hB hls hst hfs hm h4
      | false =>
        rw [hq2, cond_false] at h
        cases h
        refine sx_ishr ht ?_
        exact hl _ (List.mem_singleton.mpr rfl) ρ _ _ fs' _ hB hls ⟨ax_op_ok (f := fun x y => x >>> (y &&& 31)) hN ha hb, hr⟩ hfs hm hN
    case iushr =>
      dsimp only [ax_ins] at h
      replace h := ax_i2_e h
      obtain ⟨a, b, r, e9, i1, i2, h⟩ := h
      subst e9
      obtain ⟨wb, wa, w, rfl, hb, ha, hr⟩ := ax_rs2 hst
      obtain ⟨av, rfl⟩ := ax_isI_e ha i1
      obtain ⟨bv, rfl⟩ := ax_isI_e hb i2
      cases hq2 : ax_small N b with
      | true =>
        rw [hq2, cond_true] at h
        cases h
        obtain ⟨N', h3, h4⟩ := ax_cz_ok hN hb
        exact hl _ (List.mem_map.mpr ⟨N', h3, rfl⟩) ρ _ _ fs' _ hB hls hst hfs hm h4
      | false =>
        rw [hq2, cond_false] at h
        cases h
        refine sx_iushr ht ?_
        exact hl _ (List.mem_singleton.mpr rfl) ρ _ _ fs' _ hB hls ⟨ax_op_ok (f := fun x y => (x.toUInt32 >>> (y &&& 31).toUInt32).toInt32) hN ha hb, hr⟩ hfs hm hN
    case ior =>
      dsimp only [ax_ins] at h
      replace h := ax_i2_e h
      obtain ⟨a, b, r, e9, i1, i2, h⟩ := h
      subst e9
      obtain ⟨wb, wa, w, rfl, hb, ha, hr⟩ := ax_rs2 hst
      obtain ⟨av, rfl⟩ := ax_isI_e ha i1
      obtain ⟨bv, rfl⟩ := ax_isI_e hb i2
      cases h
      refine sx_ior ht ?_
      exact hl _ (List.mem_singleton.mpr rfl) ρ _ _ fs' _ hB hls ⟨ax_op_ok (f := fun x y => x ||| y) hN ha hb, hr⟩ hfs hm hN
    case ixor =>
      dsimp only [ax_ins] at h
      replace h := ax_i2_e h
      obtain ⟨a, b, r, e9, i1, i2, h⟩ := h
      subst e9
      obtain ⟨wb, wa, w, rfl, hb, ha, hr⟩ := ax_rs2 hst
      obtain ⟨av, rfl⟩ := ax_isI_e ha i1
      obtain ⟨bv, rfl⟩ := ax_isI_e hb i2
      cases h
      refine sx_ixor ht ?_
      exact hl _ (List.mem_singleton.mpr rfl) ρ _ _ fs' _ hB hls ⟨ax_op_ok (f := fun x y => x ^^^ y) hN ha hb, hr⟩ hfs hm hN
    case imul =>
      dsimp only [ax_ins] at h
      replace h := ax_i2_e h
      obtain ⟨a, b, r, e9, i1, i2, h⟩ := h
      subst e9
      obtain ⟨wb, wa, w, rfl, hb, ha, hr⟩ := ax_rs2 hst
      obtain ⟨av, rfl⟩ := ax_isI_e ha i1
      obtain ⟨bv, rfl⟩ := ax_isI_e hb i2
      cases hq : ax_small N a with
      | true =>
        rw [hq, cond_true] at h
        cases h
        obtain ⟨N', h3, h4⟩ := ax_cz_ok hN ha
        exact hl _ (List.mem_map.mpr ⟨N', h3, rfl⟩) ρ _ _ fs' _ hB hls hst hfs hm h4
      | false =>
        rw [hq, cond_false] at h
        cases hq2 : ax_small N b with
        | true =>
          rw [hq2, cond_true] at h
          cases h
          obtain ⟨N', h3, h4⟩ := ax_cz_ok hN hb
          exact hl _ (List.mem_map.mpr ⟨N', h3, rfl⟩) ρ _ _ fs' _ hB hls hst hfs hm h4
        | false =>
          rw [hq2, cond_false] at h
          cases h
          refine sx_imul ht ?_
          exact hl _ (List.mem_singleton.mpr rfl) ρ _ _ fs' _ hB hls ⟨ax_op_ok (f := fun x y => x * y) hN ha hb, hr⟩ hfs hm hN
    case idiv =>
      dsimp only [ax_ins] at h
      replace h := ax_i2_e h
      obtain ⟨a, b, r, e9, i1, i2, h⟩ := h
      subst e9
      obtain ⟨wb, wa, w, rfl, hb, ha, hr⟩ := ax_rs2 hst
      obtain ⟨av, rfl⟩ := ax_isI_e ha i1
      obtain ⟨bv, rfl⟩ := ax_isI_e hb i2
      cases hq : (decide (0 < (ax_iv N b).1) || decide ((ax_iv N b).2 < 0)) with
      | false => rw [hq, cond_false] at h; cases h
      | true =>
        rw [hq, cond_true] at h
        cases hq2 : ax_small N a with
        | true =>
          rw [hq2, cond_true] at h
          cases h
          obtain ⟨N', h3, h4⟩ := ax_cz_ok hN ha
          exact hl _ (List.mem_map.mpr ⟨N', h3, rfl⟩) ρ _ _ fs' _ hB hls hst hfs hm h4
        | false =>
          rw [hq2, cond_false] at h
          cases h
          have hne : ¬ bv = 0 := by
            intro e
            have h3 := ax_iv_ok hN hb
            rw [e, show (0 : Int32).toInt = 0 from rfl] at h3
            simp only [Bool.or_eq_true, decide_eq_true_eq] at hq
            omega
          refine sx_idiv ht hne ?_
          exact hl _ (List.mem_singleton.mpr rfl) ρ _ _ fs' _ hB hls ⟨ax_op_ok (f := fun x y => x / y) hN ha hb, hr⟩ hfs hm hN
    case irem =>
      dsimp only [ax_ins] at h
      replace h := ax_i2_e h
      obtain ⟨a, b, r, e9, i1, i2, h⟩ := h
      subst e9
      obtain ⟨wb, wa, w, rfl, hb, ha, hr⟩ := ax_rs2 hst
      obtain ⟨av, rfl⟩ := ax_isI_e ha i1
      obtain ⟨bv, rfl⟩ := ax_isI_e hb i2
      cases hq : (decide (0 < (ax_iv N b).1) || decide ((ax_iv N b).2 < 0)) with
      | false => rw [hq, cond_false] at h; cases h
      | true =>
        rw [hq, cond_true] at h
        cases hq2 : ax_small N a with
        | true =>
          rw [hq2, cond_true] at h
          cases h
          obtain ⟨N', h3, h4⟩ := ax_cz_ok hN ha
          exact hl _ (List.mem_map.mpr ⟨N', h3, rfl⟩) ρ _ _ fs' _ hB hls hst hfs hm h4
        | false =>
          rw [hq2, cond_false] at h
          cases h
          have hne : ¬ bv = 0 := by
            intro e
            have h3 := ax_iv_ok hN hb
            rw [e, show (0 : Int32).toInt = 0 from rfl] at h3
            simp only [Bool.or_eq_true, decide_eq_true_eq] at hq
            omega
          refine sx_irem ht hne ?_
          exact hl _ (List.mem_singleton.mpr rfl) ρ _ _ fs' _ hB hls ⟨ax_op_ok (f := fun x y => x - x / y * y) hN ha hb, hr⟩ hfs hm hN
    case dup =>
      dsimp only [ax_ins] at h
      match st, h, hst with
      | a :: r, h, hst =>
        cases hq : ax_ok1 (some a) with
        | false => simp only [hq, cond_false] at h; cases h
        | true =>
          simp only [hq, cond_true] at h
          cases h
          obtain ⟨wa, w, rfl, ha, hr⟩ := ax_rs1 hst
          refine sx_dup ht (ax_ok1_cat ha hq) ?_
          exact hl _ (List.mem_singleton.mpr rfl) ρ _ _ fs' _ hB hls ⟨ha, ha, hr⟩ hfs hm hN
    case dup2 =>
      dsimp only [ax_ins] at h
      match st, h, hst with
      | a :: b :: r, h, hst =>
        cases hq : (ax_ok1 (some a) && ax_ok1 (some b)) with
        | false => simp only [hq, cond_false] at h; cases h
        | true =>
          simp only [hq, cond_true] at h
          cases h
          simp only [Bool.and_eq_true] at hq
          obtain ⟨wa, wb, w, rfl, ha, hb, hr⟩ := ax_rs2 hst
          refine sx_dup2 ht (ax_ok1_cat ha hq.1) (ax_ok1_cat hb hq.2) ?_
          exact hl _ (List.mem_singleton.mpr rfl) ρ _ _ fs' _ hB hls ⟨ha, hb, ha, hb, hr⟩ hfs hm hN
    case pop =>
      dsimp only [ax_ins] at h
      match st, h, hst with
      | a :: r, h, hst =>
        cases hq : ax_ok1 (some a) with
        | false => simp only [hq, cond_false] at h; cases h
        | true =>
          simp only [hq, cond_true] at h
          cases h
          obtain ⟨wa, w, rfl, ha, hr⟩ := ax_rs1 hst
          refine sx_pop ht (ax_ok1_cat ha hq) ?_
          exact hl _ (List.mem_singleton.mpr rfl) ρ _ _ fs' _ hB hls hr hfs hm hN
    case iload_n w =>
      dsimp only [ax_ins] at h
      cases hq : ax_nth ls w.val with
      | none => simp only [hq] at h; cases h
      | some a =>
        simp only [hq] at h
        cases hi : ax_isI a with
        | false => simp only [hi, cond_false] at h; cases h
        | true =>
          simp only [hi, cond_true] at h
          cases h
          obtain ⟨u, h3, h4⟩ := ax_nth_ok hls hq
          obtain ⟨xv, rfl⟩ := ax_isI_e h4 hi
          refine sx_iload_n ht h3 ?_
          exact hl _ (List.mem_singleton.mpr rfl) ρ _ _ fs' _ hB hls ⟨h4, hst⟩ hfs hm hN
    case aload_n w =>
      dsimp only [ax_ins] at h
      split at h
      · rename_i a hq
        cases h
        obtain ⟨u, h3, h4⟩ := ax_nth_ok hls hq
        have h5 : u = .ref a := h4
        subst h5
        refine sx_aload_n ht h3 ?_
        exact hl _ (List.mem_singleton.mpr rfl) ρ _ _ fs' _ hB hls ⟨rfl, hst⟩ hfs hm hN
      · cases h
    case istore_n w =>
      dsimp only [ax_ins] at h
      replace h := ax_i1_e h
      obtain ⟨a, r, e9, i1, h⟩ := h
      subst e9
      obtain ⟨wa, w2, rfl, ha, hr⟩ := ax_rs1 hst
      obtain ⟨xv, rfl⟩ := ax_isI_e ha i1
      cases hq : ax_put ls w.val a with
      | none => simp only [hq] at h; cases h
      | some ls2 =>
        simp only [hq] at h
        cases h
        refine sx_istore_n ht ?_
        exact hl _ (List.mem_singleton.mpr rfl) ρ _ _ fs' _ hB (ax_put_ok hls ha hq) hr hfs hm hN
    case astore_n w =>
      dsimp only [ax_ins] at h
      replace h := ax_r1_e h
      obtain ⟨a, r, e9, h⟩ := h
      subst e9
      obtain ⟨wa, w2, rfl, ha, hr⟩ := ax_rs1 hst
      have ha2 : wa = .ref a := ha
      subst ha2
      cases hq : ax_put ls w.val (.inl (.ref a)) with
      | none => simp only [hq] at h; cases h
      | some ls2 =>
        simp only [hq] at h
        cases h
        refine sx_astore_n ht ?_
        exact hl _ (List.mem_singleton.mpr rfl) ρ _ _ fs' _ hB (ax_put_ok hls ha hq) hr hfs hm hN
    case iload w =>
      dsimp only [ax_ins] at h
      cases hq : ax_nth ls w with
      | none => simp only [hq] at h; cases h
      | some a =>
        simp only [hq] at h
        cases hi : ax_isI a with
        | false => simp only [hi, cond_false] at h; cases h
        | true =>
          simp only [hi, cond_true] at h
          cases h
          obtain ⟨u, h3, h4⟩ := ax_nth_ok hls hq
          obtain ⟨xv, rfl⟩ := ax_isI_e h4 hi
          refine sx_iload ht h3 ?_
          exact hl _ (List.mem_singleton.mpr rfl) ρ _ _ fs' _ hB hls ⟨h4, hst⟩ hfs hm hN
    case aload w =>
      dsimp only [ax_ins] at h
      split at h
      · rename_i a hq
        cases h
        obtain ⟨u, h3, h4⟩ := ax_nth_ok hls hq
        have h5 : u = .ref a := h4
        subst h5
        refine sx_aload ht h3 ?_
        exact hl _ (List.mem_singleton.mpr rfl) ρ _ _ fs' _ hB hls ⟨rfl, hst⟩ hfs hm hN
      · cases h
    case istore w =>
      dsimp only [ax_ins] at h
      replace h := ax_i1_e h
      obtain ⟨a, r, e9, i1, h⟩ := h
      subst e9
      obtain ⟨wa, w2, rfl, ha, hr⟩ := ax_rs1 hst
      obtain ⟨xv, rfl⟩ := ax_isI_e ha i1
      cases hq : ax_put ls w a with
      | none => simp only [hq] at h; cases h
      | some ls2 =>
        simp only [hq] at h
        cases h
        refine sx_istore ht ?_
        exact hl _ (List.mem_singleton.mpr rfl) ρ _ _ fs' _ hB (ax_put_ok hls ha hq) hr hfs hm hN
    case astore w =>
      dsimp only [ax_ins] at h
      replace h := ax_r1_e h
      obtain ⟨a, r, e9, h⟩ := h
      subst e9
      obtain ⟨wa, w2, rfl, ha, hr⟩ := ax_rs1 hst
      have ha2 : wa = .ref a := ha
      subst ha2
      cases hq : ax_put ls w (.inl (.ref a)) with
      | none => simp only [hq] at h; cases h
      | some ls2 =>
        simp only [hq] at h
        cases h
        refine sx_astore ht ?_
        exact hl _ (List.mem_singleton.mpr rfl) ρ _ _ fs' _ hB (ax_put_ok hls ha hq) hr hfs hm hN
    case iinc w _ =>
      dsimp only [ax_ins] at h
      cases hq : ax_nth ls w with
      | none => simp only [hq] at h; cases h
      | some a =>
        simp only [hq] at h
        cases hi : ax_isI a with
        | false => simp only [hi, cond_false] at h; cases h
        | true =>
          simp only [hi, cond_true] at h
          obtain ⟨u, h3, h4⟩ := ax_nth_ok hls hq
          obtain ⟨xv, rfl⟩ := ax_isI_e h4 hi
          cases hp : ax_put ls w (ax_add N a (.inl (.int z))) with
          | none => simp only [hp] at h; cases h
          | some ls2 =>
            simp only [hp] at h
            cases h
            refine sx_iinc ht h3 ?_
            exact hl _ (List.mem_singleton.mpr rfl) ρ _ _ fs' _ hB (ax_put_ok hls (ax_add_ok hN h4 (show ax_r ρ (.inl (.int z)) (.int z) from rfl)) hp) hst hfs hm hN
    case ifCond cd _ =>
      dsimp only [ax_ins] at h
      replace h := ax_i1_e h
      obtain ⟨a, r, e9, i1, h⟩ := h
      subst e9
      obtain ⟨wa, w2, rfl, ha, hr⟩ := ax_rs1 hst
      obtain ⟨xv, rfl⟩ := ax_isI_e ha i1
      cases h
      refine sx_if ht (ax_br1_ok hN ha ?_ ?_)
      · intro N' h3 h4
        exact hl _ (List.mem_append_left _ (List.mem_map.mpr ⟨N', h3, rfl⟩)) ρ _ _ fs' _ hB hls hr hfs hm h4
      · intro N' h3 h4
        exact hl _ (List.mem_append_right _ (List.mem_map.mpr ⟨N', h3, rfl⟩)) ρ _ _ fs' _ hB hls hr hfs hm h4
    case if_icmp cd _ =>
      dsimp only [ax_ins] at h
      replace h := ax_i2_e h
      obtain ⟨a, b, r, e9, i1, i2, h⟩ := h
      subst e9
      obtain ⟨wb, wa, w, rfl, hb, ha, hr⟩ := ax_rs2 hst
      obtain ⟨av, rfl⟩ := ax_isI_e ha i1
      obtain ⟨bv, rfl⟩ := ax_isI_e hb i2
      cases hq : (ax_isv a && (ax_isv b && ax_small N a)) with
      | true =>
        rw [hq, cond_true] at h
        cases h
        obtain ⟨N', h3, h4⟩ := ax_cz_ok hN ha
        exact hl _ (List.mem_map.mpr ⟨N', h3, rfl⟩) ρ _ _ fs' _ hB hls hst hfs hm h4
      | false =>
        rw [hq, cond_false] at h
        cases h
        refine sx_icmp ht (ax_br2_ok hN ha hb ?_ ?_)
        · intro N' h3 h4
          exact hl _ (List.mem_append_left _ (List.mem_map.mpr ⟨N', h3, rfl⟩)) ρ _ _ fs' _ hB hls hr hfs hm h4
        · intro N' h3 h4
          exact hl _ (List.mem_append_right _ (List.mem_map.mpr ⟨N', h3, rfl⟩)) ρ _ _ fs' _ hB hls hr hfs hm h4
    case goto _ =>
      dsimp only [ax_ins] at h
      cases h
      refine sx_goto ht ?_
      exact hl _ (List.mem_singleton.mpr rfl) ρ _ _ fs' _ hB hls hst hfs hm hN
    case tableswitch dflt lo hi offs =>
      dsimp only [ax_ins] at h
      replace h := ax_i1_e h
      obtain ⟨a, r, e9, i1, h⟩ := h
      subst e9
      obtain ⟨wa, w2, rfl, ha, hr⟩ := ax_rs1 hst
      obtain ⟨xv, rfl⟩ := ax_isI_e ha i1
      cases hq : (decide (0 ≤ (pc : Int) + dflt) && ((offs.toList.all fun o => decide (0 ≤ (pc : Int) + o)) && decide (offs.size = (hi - lo + 1).toNat))) with
      | false => rw [hq, cond_false] at h; cases h
      | true =>
        rw [hq, cond_true] at h
        cases h
        simp only [Bool.and_eq_true, decide_eq_true_eq] at hq
        have iv := ax_iv_ok hN ha
        have rg := ax_rng xv
        refine sx_tsw ht ⟨hq.1, hq.2.1, hq.2.2⟩ (fun hv => ?_) (ax_tb_ok hN ha offs.toList lo fun t N' h3 h4 => hl _ (List.mem_append_right _ (List.mem_append_right _ h3)) ρ _ _ fs' _ hB hls hr hfs hm h4)
        rcases hv with hv | hv
        · exact hl _ (List.mem_append_left _ (List.mem_map.mpr ⟨_, by rw [decide_eq_true (show (ax_iv N a).1 < lo by omega)]; exact List.mem_singleton.mpr rfl, rfl⟩)) ρ _ _ fs' _ hB hls hr hfs hm (ax_nw_ok hN ha rg.1 (by omega))
        · exact hl _ (List.mem_append_right _ (List.mem_append_left _ (List.mem_map.mpr ⟨_, by rw [decide_eq_true (show hi < (ax_iv N a).2 by omega)]; exact List.mem_singleton.mpr rfl, rfl⟩))) ρ _ _ fs' _ hB hls hr hfs hm (ax_nw_ok hN ha (by omega) rg.2)
    case lookupswitch dflt ps =>
      dsimp only [ax_ins] at h
      replace h := ax_i1_e h
      obtain ⟨a, r, e9, i1, h⟩ := h
      subst e9
      obtain ⟨wa, w2, rfl, ha, hr⟩ := ax_rs1 hst
      obtain ⟨xv, rfl⟩ := ax_isI_e ha i1
      cases hq : (decide (0 ≤ (pc : Int) + dflt) && (ps.toList.all fun o => decide (0 ≤ (pc : Int) + o.2))) with
      | false => rw [hq, cond_false] at h; cases h
      | true =>
        rw [hq, cond_true] at h
        cases h
        simp only [Bool.and_eq_true, decide_eq_true_eq] at hq
        exact sx_lsw ht ⟨hq.1, hq.2⟩ (ax_lk_ok hN ha ps.toList [N] ⟨N, List.mem_singleton.mpr rfl, hN⟩ fun t N' h3 h4 => hl _ h3 ρ _ _ fs' _ hB hls hr hfs hm h4)
    case ldc _ =>
      dsimp only [ax_ins] at h
      cases hx0 : Nat.beq x 0 with
      | true =>
        rw [hx0, cond_true] at h
        cases h
        have e0 : x = 0 := Nat.eq_of_beq_eq_true hx0
        subst e0
        refine sx_ldc ht ?_
        exact hl _ (List.mem_singleton.mpr rfl) ρ _ _ fs' _ hB hls ⟨rfl, hst⟩ hfs hm hN
      | false =>
        rw [hx0, cond_false] at h
        cases h
        refine sx_ldcS ht hx0 ?_
        exact hl _ (List.mem_singleton.mpr rfl) ρ _ _ fs' _ hB hls ⟨rfl, hst⟩ hfs hm hN
    case ldc_w _ =>
      dsimp only [ax_ins] at h
      cases h
      refine sx_ldcw ht ?_
      exact hl _ (List.mem_singleton.mpr rfl) ρ _ _ fs' _ hB hls ⟨rfl, hst⟩ hfs hm hN
    case getfield _ =>
      dsimp only [ax_ins] at h
      replace h := ax_r1_e h
      obtain ⟨a, r, e9, h⟩ := h
      subst e9
      obtain ⟨wa, w2, rfl, ha, hr⟩ := ax_rs1 hst
      have ha2 : wa = .ref a := ha
      subst ha2
      obtain ⟨n0, hs, h⟩ := ax_sk_e h
      refine sx_get ht (hm.2.1 _ _ hs) ?_
      cases hy0 : Nat.ble (y + 1) n0 with
      | false => rw [hy0, cond_false] at h; cases h
      | true =>
      rw [hy0, cond_true] at h
      have hy1 : y < n0 := Nat.le_of_ble_eq_true hy0
      cases hi : sx_isI x y with
      | true =>
        rw [hi, cond_true] at h
        cases h
        rw [cond_true]
        exact hl _ (List.mem_singleton.mpr rfl) ρ _ _ fs' _ hB hls ⟨hm.2.2.2 a _ y hs hy1, hr⟩ hfs hm hN
      | false =>
        rw [hi, cond_false] at h
        rw [cond_false]
        cases hq : M.2.2.2 a y with
        | none => simp only [hq] at h; cases h
        | some q =>
          simp only [hq] at h
          cases h
          rw [hm.2.2.1 a _ y q hs hy1 hq]
          exact hl _ (List.mem_singleton.mpr rfl) ρ _ _ fs' _ hB hls ⟨rfl, hr⟩ hfs hm hN
    case putfield _ =>
      dsimp only [ax_ins] at h
      cases hb : (Nat.ble (x + 1) 13 && Nat.ble (y + 1) (sx_N x)) with
      | false => rw [hb, cond_false] at h; cases h
      | true =>
        rw [hb, cond_true] at h
        simp only [Bool.and_eq_true] at hb
        have hc : x < 13 := Nat.le_of_ble_eq_true hb.1
        have hy : y < sx_N x := Nat.le_of_ble_eq_true hb.2
        split at h
        · rename_i v a r
          obtain ⟨wv, wa, w2, rfl, hv, ha, hr⟩ := ax_rs2 hst
          have ha2 : wa = .ref a := ha
          subst ha2
          obtain ⟨n0, hs, h⟩ := ax_sk_e h
          have hs2 : m.2.1 a = some (x, n0) := hm.2.1 _ _ hs
          cases hy0 : Nat.ble (y + 1) n0 with
          | false => rw [hy0, cond_false] at h; cases h
          | true =>
          rw [hy0, cond_true] at h
          have hy1 : y < n0 := Nat.le_of_ble_eq_true hy0
          cases hi : sx_isI x y with
          | true =>
            rw [hi, cond_true] at h
            cases hq : (ax_isI v && (!(sx_isZ x y) || (decide (0 ≤ (ax_iv N v).1) && decide ((ax_iv N v).2 ≤ 1)))) with
            | false => rw [hq, cond_false] at h; cases h
            | true =>
              rw [hq, cond_true] at h
              cases h
              simp only [Bool.and_eq_true, Bool.or_eq_true, Bool.not_eq_true', decide_eq_true_eq] at hq
              obtain ⟨xv, rfl⟩ := ax_isI_e hv hq.1
              refine sx_putI ht hs2 hc hy hi ?_ ?_
              · rcases hq.2 with hz | hz
                · exact Or.inl hz
                · exact Or.inr (ax_01 (ax_iv_ok hN hv) hz.1 hz.2)
              · exact hl _ (List.mem_singleton.mpr rfl) ρ _ _ fs' _ hB hls hr hfs (ax_rm_wr hm hv) hN
          | false =>
            rw [hi, cond_false] at h
            split at h
            · rename_i q hh
              cases h
              have hv2 : wv = .ref q := hv
              subst hv2
              refine sx_putR (q := some q) ht hs2 hc hy hi ?_
              exact hl _ (List.mem_singleton.mpr rfl) ρ _ _ fs' _ hB hls hr hfs ⟨hm.1, hm.2.1, ax_rr_up hm.2.2.1, hm.2.2.2⟩ hN
            · cases h
        · cases h
    case iaload =>
      dsimp only [ax_ins] at h
      split at h
      · rename_i i a r
        obtain ⟨wi, wa, w2, rfl, hi0, ha, hr⟩ := ax_rs2 hst
        have ha2 : wa = .ref a := ha
        subst ha2
        cases hi : ax_isI i with
        | false => rw [hi, cond_false] at h; cases h
        | true =>
          rw [hi, cond_true] at h
          obtain ⟨iv, rfl⟩ := ax_isI_e hi0 hi
          cases hx : Nat.beq a 1000000000 with
          | true =>
            rw [hx, cond_true] at h
            have e0 : a = 1000000000 := Nat.eq_of_beq_eq_true hx
            subst e0
            obtain ⟨g1, g2, h⟩ := ax_ix_e h
            obtain ⟨k1, k2, k3, k4⟩ := ax_ix_ok hN hi0 g1 g2
            cases hq : Nat.beq (ax_iv N i).1.toNat (ax_iv N i).2.toNat with
            | false => rw [hq, cond_false] at h; cases h
            | true =>
              rw [hq, cond_true] at h
              cases h
              have e1 := Nat.eq_of_beq_eq_true hq
              refine sx_iaX ht (by rw [hXL (fun e => k1 (Or.inr (by rw [e]; exact Nat.zero_le _)))]; exact k1) ?_
              exact hl _ (List.mem_singleton.mpr rfl) ρ _ _ fs' _ hB hls ⟨⟨_, rfl, by show (sx_xs E iv.toNatClampNeg).toInt = ρ (ax_iv N i).1.toNat + 0; rw [hXB ρ hB _ (by omega), show iv.toNatClampNeg = (ax_iv N i).1.toNat by omega]; omega⟩, hr⟩ hfs hm hN
          | false =>
            rw [hx, cond_false] at h
            obtain ⟨n0, hs, h⟩ := ax_sk_e h
            obtain ⟨g1, g2, h⟩ := ax_ix_e h
            obtain ⟨k1, k2, k3, k4⟩ := ax_ix_ok hN hi0 g1 g2
            cases hz : (!(ax_all ((M.2.2.1 a).2) (ax_iv N i).1.toNat ((ax_iv N i).2.toNat - (ax_iv N i).1.toNat)) && ax_small N i) with
            | true =>
              rw [hz, cond_true] at h
              cases h
              obtain ⟨N', h3, h4⟩ := ax_cz_ok hN hi0
              exact hl _ (List.mem_map.mpr ⟨N', h3, rfl⟩) ρ _ _ fs' _ hB hls ⟨hi0, rfl, hr⟩ hfs hm h4
            | false =>
              rw [hz, cond_false] at h
              cases h
              refine sx_iald ht (hm.2.1 _ _ hs) k1 ?_
              exact hl _ (List.mem_singleton.mpr rfl) ρ _ _ fs' _ hB hls ⟨ax_rd_ok (f := m.2.2.1 a) (fun kk hkk => hm.2.2.2 a _ kk hs hkk) (by show iv.toNatClampNeg < n0; omega) k2 k3, hr⟩ hfs hm hN
      · cases h
    case iastore =>
      dsimp only [ax_ins] at h
      split at h
      · rename_i v i a r
        obtain ⟨wv, wi, w3, rfl, hv, hi0, hr3⟩ := ax_rs2 hst
        obtain ⟨wa, w2, rfl, ha, hr⟩ := ax_rs1 hr3
        have ha2 : wa = .ref a := ha
        subst ha2
        cases hi : (ax_isI i && ax_isI v) with
        | false => rw [hi, cond_false] at h; cases h
        | true =>
          rw [hi, cond_true] at h
          simp only [Bool.and_eq_true] at hi
          obtain ⟨iv, rfl⟩ := ax_isI_e hi0 hi.1
          obtain ⟨xv, rfl⟩ := ax_isI_e hv hi.2
          obtain ⟨n0, hs, h⟩ := ax_sk_e h
          obtain ⟨g1, g2, h⟩ := ax_ix_e h
          obtain ⟨k1, k2, k3, k4⟩ := ax_ix_ok hN hi0 g1 g2
          refine sx_iast ht (hm.2.1 _ _ hs) k1 ?_
          cases hq : Nat.beq (ax_iv N i).1.toNat (ax_iv N i).2.toNat with
          | true =>
            rw [hq, cond_true] at h
            cases h
            have e1 := Nat.eq_of_beq_eq_true hq
            have e2 : iv.toNatClampNeg = (ax_iv N i).1.toNat := by omega
            rw [e2]
            exact hl _ (List.mem_singleton.mpr rfl) ρ _ _ fs' _ hB hls hr hfs (ax_rm_wr hm hv) hN
          | false =>
            rw [hq, cond_false] at h
            cases h
            exact hl _ (List.mem_singleton.mpr rfl) ρ _ _ fs' _ hB hls hr hfs (ax_rm_rg hm k2 k3) hN
      · cases h
    case aaload =>
      dsimp only [ax_ins] at h
      split at h
      · rename_i i a r
        obtain ⟨wi, wa, w2, rfl, hi0, ha, hr⟩ := ax_rs2 hst
        have ha2 : wa = .ref a := ha
        subst ha2
        cases hi : ax_isI i with
        | false => rw [hi, cond_false] at h; cases h
        | true =>
          rw [hi, cond_true] at h
          obtain ⟨iv, rfl⟩ := ax_isI_e hi0 hi
          obtain ⟨n0, hs, h⟩ := ax_sk_e h
          obtain ⟨g1, g2, h⟩ := ax_ix_e h
          obtain ⟨k1, k2, k3, k4⟩ := ax_ix_ok hN hi0 g1 g2
          cases hq : Nat.beq (ax_iv N i).1.toNat (ax_iv N i).2.toNat with
          | true =>
            rw [hq, cond_true] at h
            have e1 := Nat.eq_of_beq_eq_true hq
            have e2 : iv.toNatClampNeg = (ax_iv N i).1.toNat := by omega
            cases hr2 : M.2.2.2 a (ax_iv N i).1.toNat with
            | none => simp only [hr2] at h; cases h
            | some q =>
              simp only [hr2] at h
              cases h
              refine sx_aald ht (hm.2.1 _ _ hs) k1 ?_
              rw [e2, hm.2.2.1 a _ _ q hs (by show (ax_iv N i).1.toNat < n0; omega) hr2]
              exact hl _ (List.mem_singleton.mpr rfl) ρ _ _ fs' _ hB hls ⟨rfl, hr⟩ hfs hm hN
          | false =>
            rw [hq, cond_false] at h
            cases hw : Nat.ble ((ax_iv N i).2.toNat - (ax_iv N i).1.toNat) 8 with
            | false => rw [hw, cond_false] at h; cases h
            | true =>
              rw [hw, cond_true] at h
              cases h
              obtain ⟨N', h3, h4⟩ := ax_cz_ok hN hi0
              exact hl _ (List.mem_map.mpr ⟨N', h3, rfl⟩) ρ _ _ fs' _ hB hls ⟨hi0, rfl, hr⟩ hfs hm h4
      · cases h
    case aastore =>
      dsimp only [ax_ins] at h
      split at h
      · rename_i v i a r
        obtain ⟨wv, wi, w3, rfl, hv, hi0, hr3⟩ := ax_rs2 hst
        obtain ⟨wa, w2, rfl, ha, hr⟩ := ax_rs1 hr3
        have ha2 : wa = .ref a := ha
        subst ha2
        have hv2 : wv = .ref v := hv
        subst hv2
        cases hi : ax_isI i with
        | false => rw [hi, cond_false] at h; cases h
        | true =>
          rw [hi, cond_true] at h
          obtain ⟨iv, rfl⟩ := ax_isI_e hi0 hi
          obtain ⟨n0, hs, h⟩ := ax_sk_e h
          obtain ⟨n1, hs1, h⟩ := ax_sk_e h
          obtain ⟨g1, g2, h⟩ := ax_ix_e h
          obtain ⟨k1, k2, k3, k4⟩ := ax_ix_ok hN hi0 g1 g2
          cases hq : Nat.beq (ax_iv N i).1.toNat (ax_iv N i).2.toNat with
          | false => rw [hq, cond_false] at h; cases h
          | true =>
            rw [hq, cond_true] at h
            cases h
            have e1 := Nat.eq_of_beq_eq_true hq
            have e2 : iv.toNatClampNeg = (ax_iv N i).1.toNat := by omega
            refine sx_aast ht (hm.2.1 _ _ hs) (hm.2.1 _ _ hs1) k1 ?_
            rw [e2]
            exact hl _ (List.mem_singleton.mpr rfl) ρ _ _ fs' _ hB hls hr hfs ⟨hm.1, hm.2.1, ax_rr_up hm.2.2.1, hm.2.2.2⟩ hN
      · cases h
    case arraylength =>
      dsimp only [ax_ins] at h
      replace h := ax_r1_e h
      obtain ⟨a, r, e9, h⟩ := h
      subst e9
      obtain ⟨wa, w2, rfl, ha, hr⟩ := ax_rs1 hst
      have ha2 : wa = .ref a := ha
      subst ha2
      cases hx : Nat.beq a 1000000000 with
      | true =>
        rw [hx, cond_true] at h
        have e0 : a = 1000000000 := Nat.eq_of_beq_eq_true hx
        subst e0
        cases hz : Nat.beq X.1 0 with
        | true => rw [hz, cond_true] at h; cases h
        | false =>
        rw [hz, cond_false] at h
        cases h
        refine sx_alX ht ?_
        rw [hXL (fun e => by rw [e] at hz; cases hz)]
        exact hl _ (List.mem_singleton.mpr rfl) ρ _ _ fs' _ hB hls ⟨rfl, hr⟩ hfs hm hN
      | false =>
        rw [hx, cond_false] at h
        obtain ⟨n0, hs, h⟩ := ax_sk_e h
        cases h
        refine sx_alen ht (hm.2.1 _ _ hs) ?_
        exact hl _ (List.mem_singleton.mpr rfl) ρ _ _ fs' _ hB hls ⟨rfl, hr⟩ hfs hm hN
    case newarray ty =>
      dsimp only [ax_ins] at h
      cases hb : (decide (ty = .int) && (Nat.ble (M.1 + 1) 100000 && Nat.ble 1 kc)) with
      | false => rw [hb, cond_false] at h; cases h
      | true =>
        rw [hb, cond_true] at h
        simp only [Bool.and_eq_true, decide_eq_true_eq] at hb
        obtain ⟨rfl, hb1, hb2⟩ := hb
        have hk1 : 1 ≤ kc := Nat.le_of_ble_eq_true hb2
        split at h
        · rename_i w r
          obtain ⟨wa, w2, rfl, ha, hr⟩ := ax_rs1 hst
          have ha2 : wa = .int w := ha
          subst ha2
          cases hq : (decide (¬ w < 0) && (Nat.ble w.toNatClampNeg 100000 && Nat.ble w.toNatClampNeg ks)) with
          | false => rw [hq, cond_false] at h; cases h
          | true =>
            rw [hq, cond_true] at h
            simp only [Bool.and_eq_true, decide_eq_true_eq] at hq
            cases h
            have hg := sx_newI (E := E) (d := d) (kc := kc - 1) (ks := ks) (ls := ls') (st := w2) (m := m) (Q := ax_P E Q fs') ht hq.1 rfl (Nat.le_of_ble_eq_true hq.2.1) (by rw [hm.1]; exact Nat.le_of_ble_eq_true hb1) (Nat.le_of_ble_eq_true hq.2.2) (hl _ (List.mem_singleton.mpr rfl) ρ _ _ fs' _ hB hls ⟨by show Value.ref m.1 = Value.ref M.1; rw [hm.1], hr⟩ hfs (ax_rm_push hm) hN)
            rw [show kc - 1 + 1 = kc by omega] at hg
            exact hg
        · cases h
    case anewarray _ =>
      dsimp only [ax_ins] at h
      cases hb : (Nat.ble (M.1 + 1) 100000 && Nat.ble 1 kc) with
      | false => rw [hb, cond_false] at h; cases h
      | true =>
        rw [hb, cond_true] at h
        simp only [Bool.and_eq_true] at hb
        obtain ⟨hb1, hb2⟩ := hb
        have hk1 : 1 ≤ kc := Nat.le_of_ble_eq_true hb2
        split at h
        · rename_i w r
          obtain ⟨wa, w2, rfl, ha, hr⟩ := ax_rs1 hst
          have ha2 : wa = .int w := ha
          subst ha2
          cases hq : (decide (¬ w < 0) && (Nat.ble w.toNatClampNeg 100000 && Nat.ble w.toNatClampNeg ks)) with
          | false => rw [hq, cond_false] at h; cases h
          | true =>
            rw [hq, cond_true] at h
            simp only [Bool.and_eq_true, decide_eq_true_eq] at hq
            cases h
            have hg := sx_newR (E := E) (d := d) (kc := kc - 1) (ks := ks) (ls := ls') (st := w2) (m := m) (Q := ax_P E Q fs') ht hq.1 rfl (Nat.le_of_ble_eq_true hq.2.1) (by rw [hm.1]; exact Nat.le_of_ble_eq_true hb1) (Nat.le_of_ble_eq_true hq.2.2) (hl _ (List.mem_singleton.mpr rfl) ρ _ _ fs' _ hB hls ⟨by show Value.ref m.1 = Value.ref M.1; rw [hm.1], hr⟩ hfs (ax_rm_push hm) hN)
            rw [show kc - 1 + 1 = kc by omega] at hg
            exact hg
        · cases h
    case new _ =>
      dsimp only [ax_ins] at h
      cases hb : (Nat.ble (M.1 + 1) 100000 && (Nat.ble 1 kc && Nat.ble (sx_N x) ks)) with
      | false => rw [hb, cond_false] at h; cases h
      | true =>
        rw [hb, cond_true] at h
        simp only [Bool.and_eq_true] at hb
        obtain ⟨hb1, hb2, hb3⟩ := hb
        have hk1 : 1 ≤ kc := Nat.le_of_ble_eq_true hb2
        cases h
        have hg := sx_new (E := E) (d := d) (kc := kc - 1) (ks := ks) (ls := ls') (st := st') (m := m) (Q := ax_P E Q fs') ht (by rw [hm.1]; exact Nat.le_of_ble_eq_true hb1) (Nat.le_of_ble_eq_true hb3) (hl _ (List.mem_singleton.mpr rfl) ρ _ _ fs' _ hB hls ⟨by show Value.ref m.1 = Value.ref M.1; rw [hm.1], hst⟩ hfs (ax_rm_push hm) hN)
        rw [show kc - 1 + 1 = kc by omega] at hg
        exact hg
    case invokevirtual _ =>
      dsimp only [ax_ins] at h
      cases hb : (Nat.beq y (sx_na x) && (Nat.beq (sx_kd x) 1 && (Nat.ble (x + 1) 9996 && Nat.ble (sx_oc x + 1) 13))) with
      | false => rw [hb, cond_false] at h; cases h
      | true =>
        rw [hb, cond_true] at h
        simp only [Bool.and_eq_true] at hb
        obtain ⟨a, r, hdr, h⟩ := ax_r1_e h
        obtain ⟨n0, hs, h⟩ := ax_sk_e h
        obtain ⟨wt, wr, rfl, h3, h4, h5⟩ := ax_rs_cut y hst (by rw [hdr]; exact List.cons_ne_nil _ _)
        rw [hdr] at h4
        obtain ⟨wa, w2, rfl, ha, hr⟩ := ax_rs1 h4
        have ha2 : wa = .ref a := ha
        subst ha2
        have hcat := ax_in_cat h
        obtain ⟨d', kc', ks', Q', g1, g2, g3, hS, k⟩ := ax_in_ok hXm hXs h hl ρ ls' w2 fs' m (.ref a :: wt.reverse) hB hls hr hfs hm hN ⟨rfl, ax_rs_rev h3⟩
        have hg := sx_callV (as := wt.reverse) (rest := w2) ht (Nat.eq_of_beq_eq_true hb.2.1) (Nat.le_of_ble_eq_true hb.2.2.1) (by rw [List.length_reverse, h5]; exact Nat.eq_of_beq_eq_true hb.1) (Nat.le_of_ble_eq_true hb.2.2.2) (hm.2.1 _ _ hs) (by rw [sx_cat_eq, ax_cat_ok hr]; exact hcat) g1 g2 g3 hS k
        rw [List.reverse_reverse] at hg
        exact hg
    case invokespecial _ =>
      dsimp only [ax_ins] at h
      cases hx9 : Nat.beq x 9999 with
      | true =>
        rw [hx9, cond_true] at h
        replace h := ax_r1_e h
        obtain ⟨a, r, e9, h⟩ := h
        subst e9
        obtain ⟨wa, w2, rfl, ha, hr⟩ := ax_rs1 hst
        have ha2 : wa = .ref a := ha
        subst ha2
        cases hc : (Nat.ble (ax_cat r) 8 && Nat.ble 1 d) with
        | false => rw [hc, cond_false] at h; cases h
        | true =>
          rw [hc, cond_true] at h
          cases h
          simp only [Bool.and_eq_true] at hc
          have e0 : x = 9999 := Nat.eq_of_beq_eq_true hx9
          subst e0
          refine sx_objI ht (Nat.le_of_ble_eq_true hc.2) (by rw [sx_cat_eq, ax_cat_ok hr]; exact Nat.le_of_ble_eq_true hc.1) ?_
          exact hl _ (List.mem_singleton.mpr rfl) ρ _ _ fs' _ hB hls hr hfs hm hN
      | false =>
        rw [hx9, cond_false] at h
        cases hb : (Nat.beq y (sx_na x) && (Nat.beq (sx_kd x) 2 && Nat.ble (x + 1) 9996)) with
        | false => rw [hb, cond_false] at h; cases h
        | true =>
          rw [hb, cond_true] at h
          simp only [Bool.and_eq_true] at hb
          obtain ⟨a, r, hdr, h⟩ := ax_r1_e h
          obtain ⟨n0, hs, h⟩ := ax_sk_e h
          obtain ⟨wt, wr, rfl, h3, h4, h5⟩ := ax_rs_cut y hst (by rw [hdr]; exact List.cons_ne_nil _ _)
          rw [hdr] at h4
          obtain ⟨wa, w2, rfl, ha, hr⟩ := ax_rs1 h4
          have ha2 : wa = .ref a := ha
          subst ha2
          have hcat := ax_in_cat h
          obtain ⟨d', kc', ks', Q', g1, g2, g3, hS, k⟩ := ax_in_ok hXm hXs h hl ρ ls' w2 fs' m (.ref a :: wt.reverse) hB hls hr hfs hm hN ⟨rfl, ax_rs_rev h3⟩
          have hg := sx_callI (as := wt.reverse) (rest := w2) ht (Nat.eq_of_beq_eq_true hb.2.1) (Nat.le_of_ble_eq_true hb.2.2) (by rw [List.length_reverse, h5]; exact Nat.eq_of_beq_eq_true hb.1) (hm.2.1 _ _ hs) (by rw [sx_cat_eq, ax_cat_ok hr]; exact hcat) g1 g2 g3 hS k
          rw [List.reverse_reverse] at hg
          exact hg
    case invokestatic _ =>
      dsimp only [ax_ins] at h
      cases hx6 : Nat.beq x 9996 with
      | true =>
        rw [hx6, cond_true] at h
        have e0 : x = 9996 := Nat.eq_of_beq_eq_true hx6
        subst e0
        replace h := ax_i2_e h
        obtain ⟨a, b, r, e9, i1, i2, h⟩ := h
        subst e9
        obtain ⟨wb, wa, w, rfl, hb, ha, hr⟩ := ax_rs2 hst
        obtain ⟨av, rfl⟩ := ax_isI_e ha i1
        obtain ⟨bv, rfl⟩ := ax_isI_e hb i2
        cases hc : (Nat.ble (ax_cat r) 8 && Nat.ble 1 d) with
        | false => rw [hc, cond_false] at h; cases h
        | true =>
          rw [hc, cond_true] at h
          cases h
          simp only [Bool.and_eq_true] at hc
          refine sx_mmax ht (Nat.le_of_ble_eq_true hc.2) (by rw [sx_cat_eq, ax_cat_ok hr]; exact Nat.le_of_ble_eq_true hc.1) ?_
          exact hl _ (List.mem_singleton.mpr rfl) ρ _ _ fs' _ hB hls ⟨ax_op_ok (f := fun x y => if x < y then y else x) hN ha hb, hr⟩ hfs hm hN
      | false =>
      rw [hx6, cond_false] at h
      cases hx7 : Nat.beq x 9997 with
      | true =>
        rw [hx7, cond_true] at h
        have e0 : x = 9997 := Nat.eq_of_beq_eq_true hx7
        subst e0
        replace h := ax_i2_e h
        obtain ⟨a, b, r, e9, i1, i2, h⟩ := h
        subst e9
        obtain ⟨wb, wa, w, rfl, hb, ha, hr⟩ := ax_rs2 hst
        obtain ⟨av, rfl⟩ := ax_isI_e ha i1
        obtain ⟨bv, rfl⟩ := ax_isI_e hb i2
        cases hc : (Nat.ble (ax_cat r) 8 && Nat.ble 1 d) with
        | false => rw [hc, cond_false] at h; cases h
        | true =>
          rw [hc, cond_true] at h
          cases h
          simp only [Bool.and_eq_true] at hc
          refine sx_mmin ht (Nat.le_of_ble_eq_true hc.2) (by rw [sx_cat_eq, ax_cat_ok hr]; exact Nat.le_of_ble_eq_true hc.1) ?_
          exact hl _ (List.mem_singleton.mpr rfl) ρ _ _ fs' _ hB hls ⟨ax_op_ok (f := fun x y => if y < x then y else x) hN ha hb, hr⟩ hfs hm hN
      | false =>
      rw [hx7, cond_false] at h
      cases hx9 : Nat.beq x 9998 with
      | true =>
        rw [hx9, cond_true] at h
        have e0 : x = 9998 := Nat.eq_of_beq_eq_true hx9
        subst e0
        split at h
        · rename_i w dp a sp a0 r
          obtain ⟨u1, u2, v1, rfl, c1, c2, c3⟩ := ax_rs2 hst
          obtain ⟨u3, u4, v2, rfl, c4, c5, c6⟩ := ax_rs2 c3
          obtain ⟨u5, v3, rfl, c7, hr⟩ := ax_rs1 c6
          have d1 : u1 = .int w := c1
          have d2 : u2 = .int dp := c2
          have d3 : u3 = .ref a := c4
          have d4 : u4 = .int sp := c5
          have d5 : u5 = .ref a0 := c7
          subst d1; subst d2; subst d3; subst d4; subst d5
          obtain ⟨n0, hs0, h⟩ := ax_sk_e h
          obtain ⟨n1, hs, h⟩ := ax_sk_e h
          cases hq : ((Nat.ble (ax_cat r) 8 && Nat.ble 1 d) && (decide (¬ sp < 0) && (decide (¬ dp < 0) && (decide (¬ w < 0) && (Nat.ble (sp.toNatClampNeg + w.toNatClampNeg) n0 && Nat.ble (dp.toNatClampNeg + w.toNatClampNeg) n1))))) with
          | false => rw [hq, cond_false] at h; cases h
          | true =>
            rw [hq, cond_true] at h
            cases h
            simp only [Bool.and_eq_true, decide_eq_true_eq] at hq
            obtain ⟨⟨q1, q2⟩, q3, q4, q5, q6, q7⟩ := hq
            refine sx_copy ht (Nat.le_of_ble_eq_true q2) (hm.2.1 _ _ hs0) (hm.2.1 _ _ hs) q3 q4 q5 (Nat.le_of_ble_eq_true q6) (Nat.le_of_ble_eq_true q7) (by rw [sx_cat_eq, ax_cat_ok hr]; exact Nat.le_of_ble_eq_true q1) ?_
            exact hl _ (List.mem_singleton.mpr rfl) ρ _ _ fs' _ hB hls hr hfs (ax_rm_cpy hm hs0 (Nat.le_of_ble_eq_true q6)) hN
        · cases h
      | false =>
        rw [hx9, cond_false] at h
        cases hb : (Nat.beq y (sx_na x) && (Nat.beq (sx_kd x) 0 && (Nat.ble (x + 1) 9996 && Nat.ble y st.length))) with
        | false => rw [hb, cond_false] at h; cases h
        | true =>
          rw [hb, cond_true] at h
          simp only [Bool.and_eq_true] at hb
          obtain ⟨wt, wr, rfl, h3, h4, h5⟩ := ax_rs_cut2 y hst (Nat.le_of_ble_eq_true hb.2.2.2)
          have hcat := ax_in_cat h
          obtain ⟨d', kc', ks', Q', g1, g2, g3, hS, k⟩ := ax_in_ok hXm hXs h hl ρ ls' wr fs' m wt.reverse hB hls h4 hfs hm hN (ax_rs_rev h3)
          have hg := sx_callS (as := wt.reverse) (rest := wr) ht (Nat.eq_of_beq_eq_true hb.2.1) (Nat.le_of_ble_eq_true hb.2.2.1) (by rw [List.length_reverse, h5]; exact Nat.eq_of_beq_eq_true hb.1) (by rw [sx_cat_eq, ax_cat_ok h4]; exact hcat) g1 g2 g3 hS k
          rw [List.reverse_reverse] at hg
          exact hg
    case ireturn =>
      dsimp only [ax_ins] at h
      split at h
      · rename_i a
        obtain ⟨wa, w2, rfl, ha, hr⟩ := ax_rs1 hst
        have hw2 : w2 = [] := ax_rs0 hr
        subst hw2
        cases hq : (ax_isI a && (decide (sx_rt j = some .int) || (decide (sx_rt j = some .boolean) && (decide (0 ≤ (ax_iv N a).1) && decide ((ax_iv N a).2 ≤ 1))))) with
        | false => rw [hq, cond_false] at h; cases h
        | true =>
          rw [hq, cond_true] at h
          simp only [Bool.and_eq_true, Bool.or_eq_true, decide_eq_true_eq] at hq
          obtain ⟨xv, rfl⟩ := ax_isI_e ha hq.1
          refine sx_iret ht ?_ ?_
          · rcases hq.2 with h5 | h5
            · exact Or.inl h5
            · exact Or.inr ⟨h5.1, ax_01 (ax_iv_ok hN ha) h5.2.1 h5.2.2⟩
          · match fs, fs', hfs, h with
            | [], [], hfs, h =>
              cases hp : X.2.2.2.2 (some a) M N with
              | false => simp only [hp, cond_false] at h; cases h
              | true => exact hXp (some a) M N ρ (some (.int xv)) m hp hB ha hm hN
            | G :: fs2, K :: fs3, hfs, h =>
              cases h
              obtain ⟨⟨e1, e2, e3, e4, e5, e6, e7⟩, e8⟩ := hfs
              show sx_W E K.1 K.2.1 K.2.2.1 K.2.2.2.1 (K.2.2.2.2.1 + 3) K.2.2.2.2.2.1 (.int xv :: K.2.2.2.2.2.2) m (ax_P E Q fs3)
              rw [e1, e2, e3, e4, e5]
              exact hl _ (List.mem_singleton.mpr rfl) ρ _ _ fs3 _ hB e6 ⟨ha, e7⟩ e8 hm hN
      · cases h
    case return_ =>
      dsimp only [ax_ins] at h
      split at h
      · have hw2 : st' = [] := ax_rs0 hst
        subst hw2
        cases hq : decide (sx_rt j = none) with
        | false => rw [hq, cond_false] at h; cases h
        | true =>
          rw [hq, cond_true] at h
          simp only [decide_eq_true_eq] at hq
          refine sx_vret ht hq ?_
          match fs, fs', hfs, h with
          | [], [], hfs, h =>
            cases hp : X.2.2.2.2 none M N with
            | false => simp only [hp, cond_false] at h; cases h
            | true => exact hXp none M N ρ none m hp hB trivial hm hN
          | G :: fs2, K :: fs3, hfs, h =>
            cases h
            obtain ⟨⟨e1, e2, e3, e4, e5, e6, e7⟩, e8⟩ := hfs
            show sx_W E K.1 K.2.1 K.2.2.1 K.2.2.2.1 (K.2.2.2.2.1 + 3) K.2.2.2.2.2.1 K.2.2.2.2.2.2 m (ax_P E Q fs3)
            rw [e1, e2, e3, e4, e5]
            exact hl _ (List.mem_singleton.mpr rfl) ρ _ _ fs3 _ hB e6 e7 e8 hm hN
      · cases h
    all_goals (dsimp only [ax_ins] at h; cases h)
  · cases h
theorem ax_run_ok {E : sx_E} {B : (Nat → Int) → Prop} {Q : Option Value → sx_M → Prop} {X : ax_X} (hXL : X.1 ≠ 0 → sx_Ln E = X.1) (hXB : ∀ ρ, B ρ → ∀ k, k < X.1 → ρ k = (sx_xs E k).toInt) (hXm : ∀ j, X.2.1 j = true → sx_mf j)
    (hXs : ∀ x as M N os, X.2.2.2.1 x as M N = some os → ∀ ρ asv m, B ρ → ax_rs ρ as asv → ax_rm ρ M m → ax_sat ρ N → sx_S E 10 0 0 x asv m (fun v m' => ∃ q ∈ os, ax_ro ρ q.1 v ∧ ax_rm ρ q.2.1 m' ∧ ax_sat ρ q.2.2))
    (hXp : ∀ a M N ρ v m, X.2.2.2.2 a M N = true → B ρ → ax_ro ρ a v → ax_rm ρ M m → ax_sat ρ N → Q v m) :
    ∀ (n : Nat) (cs : List ax_C), ax_run X n cs = true → ∀ c ∈ cs, ax_G E B Q c
  | _, [], _, c, hc => by cases hc
  | 0, c :: cs, h, _, _ => by cases h
  | n + 1, c :: cs, h, c', hc => by
    simp only [ax_run] at h
    cases hs : ax_step X c with
    | none => simp only [hs] at h; cases h
    | some l =>
      simp only [hs] at h
      have ih := ax_run_ok hXL hXB hXm hXs hXp n (l ++ cs) h
      rcases List.mem_cons.mp hc with rfl | h1
      · exact ax_step_ok hXL hXB hXm hXs hXp _ l hs fun c2 h2 => ih c2 (List.mem_append_left _ h2)
      · exact ih c' (List.mem_append_right _ h1)
