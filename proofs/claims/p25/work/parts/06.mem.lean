-- locals, memory, worlds: rows on which the rules stand
theorem sx_ad_lt {E : sx_E} {k : Nat} (h : k < 1000000000) : sx_ad E k = sx_B E + k := by
  have h1 : Nat.ble 1000000000 k = false := by
    cases hb : Nat.ble 1000000000 k with
    | false => rfl
    | true => exact absurd (Nat.le_of_ble_eq_true hb) (by omega)
  unfold sx_ad
  rw [h1]
  rfl
theorem sx_beq_ne {a b : Nat} (h : a ≠ b) : Nat.beq a b = false := by
  cases hb : Nat.beq a b with
  | false => rfl
  | true => exact absurd (Nat.eq_of_beq_eq_true hb) h
theorem sx_up_ne {α : Type} {f : Nat → Nat → α} {i k i' : Nat} {v : α} (h : i' ≠ i) : sx_up f i k v i' = f i' := by
  unfold sx_up
  rw [sx_beq_ne h]
  rfl
theorem sx_up_eq {α : Type} {f : Nat → Nat → α} {i k : Nat} {v : α} : sx_up f i k v i = sx_u1 (f i) k v := by
  unfold sx_up
  rw [Nat.beq_refl]
  rfl
theorem sx_ua_ne {α : Type} {f : Nat → Nat → α} {i i' : Nat} {a : Nat → α} (h : i' ≠ i) : sx_ua f i a i' = f i' := by
  unfold sx_ua
  rw [sx_beq_ne h]
  rfl
theorem sx_ua_eq {α : Type} {f : Nat → Nat → α} {i : Nat} {a : Nat → α} : sx_ua f i a i = a := by
  unfold sx_ua
  rw [Nat.beq_refl]
  rfl
theorem sx_u1_ne {α : Type} {f : Nat → α} {i i' : Nat} {v : α} (h : i' ≠ i) : sx_u1 f i v i' = f i' := by
  unfold sx_u1
  rw [sx_beq_ne h]
  rfl
theorem sx_u1_eq {α : Type} {f : Nat → α} {i : Nat} {v : α} : sx_u1 f i v i = v := by
  unfold sx_u1
  rw [Nat.beq_refl]
  rfl
theorem sx_v_cat (E : sx_E) (v : Value) : (sx_v E v).category = v.category := by cases v <;> rfl
theorem sx_cat_map (E : sx_E) : ∀ st : List Value, ((st.map (sx_v E)).map fun v => v.category).sum = (st.map fun v => v.category).sum
  | [] => rfl
  | v :: st => by
    simp only [List.map_cons, List.sum_cons, sx_v_cat]
    rw [sx_cat_map E st]
theorem sx_v_rv (E : sx_E) (q : Option Nat) : sx_v E (sx_rv q) = va_rf (q.map (sx_ad E)) := by cases q <;> rfl
-- locals
theorem sx_nth_put : ∀ (ls : List (Option Value)) (i i' : Nat) (v : Option Value) (w : Value), sx_nth (sx_put ls i v) i' = some w → (i' = i ∧ v = some w) ∨ (i' ≠ i ∧ sx_nth ls i' = some w ∧ ¬ (i' + 1 = i ∧ sx_two (some w) = true))
  | [], i, i', v, w, h => by simp [sx_put, sx_nth] at h
  | a :: l, 0, 0, v, w, h => by
    simp [sx_put, sx_nth] at h
    exact Or.inl ⟨rfl, h⟩
  | a :: l, 0, i' + 1, v, w, h => by
    simp only [sx_put, sx_nth] at h
    exact Or.inr ⟨by omega, h, fun q => by omega⟩
  | a :: l, i + 1, 0, v, w, h => by
    simp only [sx_put, sx_nth] at h
    by_cases hi : i = 0
    · subst hi
      simp only [Nat.beq_refl, cond_true] at h
      cases ha : sx_two a with
      | true => rw [ha] at h; simp at h
      | false =>
        rw [ha] at h
        simp at h
        exact Or.inr ⟨by omega, h, fun q => by rw [← h, ha] at q; simp at q⟩
    · rw [sx_beq_ne hi] at h
      simp at h
      exact Or.inr ⟨by omega, h, fun q => by omega⟩
  | a :: l, i + 1, i' + 1, v, w, h => by
    simp only [sx_put, sx_nth] at h ⊢
    rcases sx_nth_put l i i' v w h with ⟨h1, h2⟩ | ⟨h1, h2, h3⟩
    · exact Or.inl ⟨by omega, h2⟩
    · exact Or.inr ⟨by omega, h2, fun q => h3 ⟨by omega, q.2⟩⟩
theorem sx_put_len : ∀ (ls : List (Option Value)) (i : Nat) (v : Option Value), (sx_put ls i v).length = ls.length
  | [], _, _ => rfl
  | _ :: _, 0, _ => rfl
  | a :: l, i + 1, v => by simp only [sx_put, List.length_cons, sx_put_len l i v]
noncomputable def sx_prs (E : sx_E) : Nat → List (Option Value) → List (Nat × Value)
  | _, [] => []
  | k, none :: l => sx_prs E (k + 1) l
  | k, some v :: l => (k, sx_v E v) :: sx_prs E (k + 1) l
theorem sx_prs_in (E : sx_E) : ∀ (ls : List (Option Value)) (k i : Nat) (v : Value), sx_nth ls i = some v → (k + i, sx_v E v) ∈ sx_prs E k ls
  | [], k, i, v, h => by simp [sx_nth] at h
  | none :: l, k, 0, v, h => by simp [sx_nth] at h
  | some a :: l, k, 0, v, h => by
    simp only [sx_nth, Option.some.injEq] at h
    subst h
    simp [sx_prs]
  | none :: l, k, i + 1, v, h => by
    have h1 := sx_prs_in E l (k + 1) i v h
    rw [show k + 1 + i = k + (i + 1) by omega] at h1
    exact h1
  | some a :: l, k, i + 1, v, h => by
    have h1 := sx_prs_in E l (k + 1) i v h
    rw [show k + 1 + i = k + (i + 1) by omega] at h1
    exact List.mem_cons_of_mem _ h1
theorem sx_prs_of (E : sx_E) : ∀ (ls : List (Option Value)) (k : Nat) (q : Nat × Value), q ∈ sx_prs E k ls → ∃ i v, q = (k + i, sx_v E v) ∧ sx_nth ls i = some v
  | [], k, q, h => by simp [sx_prs] at h
  | none :: l, k, q, h => by
    obtain ⟨i, v, h1, h2⟩ := sx_prs_of E l (k + 1) q h
    exact ⟨i + 1, v, by rw [h1, show k + 1 + i = k + (i + 1) by omega], h2⟩
  | some a :: l, k, q, h => by
    rcases List.mem_cons.mp h with h | h
    · exact ⟨0, a, h, rfl⟩
    · obtain ⟨i, v, h1, h2⟩ := sx_prs_of E l (k + 1) q h
      exact ⟨i + 1, v, by rw [h1, show k + 1 + i = k + (i + 1) by omega], h2⟩
theorem sx_lo.has {E : sx_E} {A : Array Slot} {nL : Nat} {ls : List (Option Value)} (h : sx_lo E A nL ls) : lv_has A nL (sx_prs E 0 ls) := by
  refine ⟨h.1, h.2.1, fun q hq => ?_⟩
  obtain ⟨i, v, rfl, h2⟩ := sx_prs_of E ls 0 q hq
  rw [Nat.zero_add]
  exact h.2.2.2 i v h2
theorem sx_lo.put1 {E : sx_E} {A A' : Array Slot} {nL i : Nat} {ls : List (Option Value)} {v : Value} (h : sx_lo E A nL ls) (h' : lv_has A' nL ((i, sx_v E v) :: (sx_prs E 0 ls).filter (fun q => !(q.1 == i) && !(q.1 + 1 == i && q.2.category == 2)))) : sx_lo E A' nL (sx_put ls i (some v)) := by
  refine ⟨h'.1, h'.2.1, by rw [sx_put_len]; exact h.2.2.1, fun i' w hw => ?_⟩
  rcases sx_nth_put ls i i' _ w hw with ⟨h1, h2⟩ | ⟨h1, h2, h3⟩
  · subst h1
    cases h2
    exact h'.2.2 (i', sx_v E v) List.mem_cons_self
  · refine h'.2.2 (i', sx_v E w) (List.mem_cons_of_mem _ (List.mem_filter.mpr ⟨?_, ?_⟩))
    · have h4 := sx_prs_in E ls 0 i' w h2
      rwa [Nat.zero_add] at h4
    · simp only [sx_v_cat, Bool.and_eq_true, Bool.not_eq_true', beq_eq_false_iff_ne, ne_eq]
      refine ⟨h1, ?_⟩
      by_cases h5 : i' + 1 = i
      · have h6 : ¬ sx_two (some w) = true := fun q => h3 ⟨h5, q⟩
        have h7 : w.category ≠ 2 := by cases w <;> simp [sx_two, Value.category] at h6 ⊢
        simp [h7]
      · simp [h5]
theorem sx_lo.put2 {E : sx_E} {A A' : Array Slot} {nL i : Nat} {ls : List (Option Value)} {v : Value} (h : sx_lo E A nL ls) (h' : lv_has A' nL ((i, sx_v E v) :: (sx_prs E 0 ls).filter (fun q => !(q.1 == i) && (!(q.1 == i + 1) && !(q.1 + 1 == i && q.2.category == 2))))) : sx_lo E A' nL (sx_put (sx_put ls (i + 1) none) i (some v)) := by
  refine ⟨h'.1, h'.2.1, by rw [sx_put_len, sx_put_len]; exact h.2.2.1, fun i' w hw => ?_⟩
  rcases sx_nth_put _ i i' _ w hw with ⟨h1, h2⟩ | ⟨h1, h2, h3⟩
  · subst h1
    cases h2
    exact h'.2.2 (i', sx_v E v) List.mem_cons_self
  · rcases sx_nth_put ls (i + 1) i' _ w h2 with ⟨g1, g2⟩ | ⟨g1, g2, g3⟩
    · cases g2
    · refine h'.2.2 (i', sx_v E w) (List.mem_cons_of_mem _ (List.mem_filter.mpr ⟨?_, ?_⟩))
      · have h4 := sx_prs_in E ls 0 i' w g2
        rwa [Nat.zero_add] at h4
      · simp only [sx_v_cat, Bool.and_eq_true, Bool.not_eq_true', beq_eq_false_iff_ne, ne_eq]
        refine ⟨h1, g1, ?_⟩
        by_cases h5 : i' + 1 = i
        · have h6 : ¬ sx_two (some w) = true := fun q => h3 ⟨h5, q⟩
          have h7 : w.category ≠ 2 := by cases w <;> simp [sx_two, Value.category] at h6 ⊢
          simp [h7]
        · simp [h5]
/-- the locals with which a method begins -/
noncomputable def sx_ent : List Value → List (Option Value)
  | [] => []
  | .long x :: l => some (.long x) :: none :: sx_ent l
  | .double x :: l => some (.double x) :: none :: sx_ent l
  | v :: l => some v :: sx_ent l
theorem sx_ent_len (E : sx_E) : ∀ as : List Value, (lg_sl (as.map (sx_v E))).length = (sx_ent as).length
  | [] => rfl
  | v :: l => by
    have ih := sx_ent_len E l
    have e : lg_sl ((v :: l).map (sx_v E)) = (if (sx_v E v).category = 2 then [Slot.val (sx_v E v), Slot.second] else [Slot.val (sx_v E v)]) ++ lg_sl (l.map (sx_v E)) := by simp [lg_sl]
    rw [e, List.length_append, ih, sx_v_cat]
    cases v <;> simp [sx_ent, Value.category] <;> omega
theorem sx_ent_in (E : sx_E) : ∀ (as : List Value) (k i : Nat) (v : Value), sx_nth (sx_ent as) i = some v → (k + i, sx_v E v) ∈ lv_args k (as.map (sx_v E))
  | [], k, i, v, h => by simp [sx_ent, sx_nth] at h
  | a :: l, k, i, v, h => by
    by_cases hc : a.category = 2
    · have e : sx_ent (a :: l) = some a :: none :: sx_ent l := by cases a <;> simp [Value.category] at hc <;> rfl
      rw [e] at h
      match i, h with
      | 0, h =>
        simp only [sx_nth, Option.some.injEq] at h
        subst h
        simp [lv_args]
      | 1, h => simp [sx_nth] at h
      | i + 2, h =>
        have h1 := sx_ent_in E l (k + 2) i v h
        rw [show k + 2 + i = k + (i + 2) by omega] at h1
        simp only [List.map_cons, lv_args, sx_v_cat, hc, if_true]
        exact List.mem_cons_of_mem _ h1
    · have e : sx_ent (a :: l) = some a :: sx_ent l := by cases a <;> simp [Value.category] at hc <;> rfl
      rw [e] at h
      match i, h with
      | 0, h =>
        simp only [sx_nth, Option.some.injEq] at h
        subst h
        simp [lv_args]
      | i + 1, h =>
        have h1 := sx_ent_in E l (k + 1) i v h
        rw [show k + 1 + i = k + (i + 1) by omega] at h1
        simp only [List.map_cons, lv_args, sx_v_cat, hc, if_false]
        exact List.mem_cons_of_mem _ h1
-- memory
theorem sx_R.ad {E : sx_E} {m : sx_M} {H : Heap} (h : sx_R E m H) {i : Nat} {kd : Nat × Nat} (hi : m.2.1 i = some kd) : sx_ad E i = sx_B E + i := sx_ad_lt (by have := (h.2.2.2 i kd hi).1; have := h.2.1; omega)
theorem sx_R.at {E : sx_E} {m : sx_M} {H : Heap} (h : sx_R E m H) {i : Nat} {kd : Nat × Nat} (hi : m.2.1 i = some kd) : va_P (sx_D E) sx_cl [(sx_B E + i, sx_e E kd (m.2.2.1 i) (m.2.2.2 i))] H := by
  intro k q hk
  match k, hk with
  | 0, hk => cases hk; exact (h.2.2.2 i kd hi).2.2
/-- one cell has another content, all others are as they were -/
theorem sx_R.set {E : sx_E} {m m' : sx_M} {H H1 : Heap} {i : Nat} {kd : Nat × Nat} (h : sx_R E m H) (hi : m.2.1 i = some kd) (h1 : m'.1 = m.1) (h2 : m'.2.1 = m.2.1) (h3 : ∀ i', i' ≠ i → m'.2.2.1 i' = m.2.2.1 i' ∧ m'.2.2.2 i' = m.2.2.2 i') (z : H1.size = H.size) (oq : ∀ q : Nat, q ≠ sx_B E + i → H1[q]? = H[q]?) (he : va_at (sx_D E) sx_cl (sx_B E + i, sx_e E kd (m'.2.2.1 i) (m'.2.2.2 i)) H1) : sx_R E m' H1 := by
  refine ⟨by rw [z, h1]; exact h.1, by rw [h1]; exact h.2.1, fun q hq => by rw [oq q (by omega)]; exact h.2.2.1 q hq, fun i' kd' hi' => ?_⟩
  rw [h2] at hi'
  refine ⟨by rw [h1]; exact (h.2.2.2 i' kd' hi').1, (h.2.2.2 i' kd' hi').2.1, ?_⟩
  by_cases hii : i' = i
  · subst hii
    have hkk : kd' = kd := Option.some.inj (hi'.symm.trans hi)
    subst hkk
    exact he
  · rw [(h3 i' hii).1, (h3 i' hii).2]
    exact (h.2.2.2 i' kd' hi').2.2.kept (oq _ (by omega))
/-- one cell more -/
theorem sx_R.push {E : sx_E} {m : sx_M} {H H1 : Heap} {kd : Nat × Nat} (h : sx_R E m H) (hl : m.1 < 100000) (hk : kd.1 < 13 → kd.2 = sx_N kd.1) (z : H1.size = H.size + 1) (oq : ∀ q : Nat, q < H.size → H1[q]? = H[q]?) {f : Nat → Int32} {r : Nat → Option Nat} (he : va_at (sx_D E) sx_cl (sx_B E + m.1, sx_e E kd f r) H1) : sx_R E (m.1 + 1, sx_u1 m.2.1 m.1 (some kd), sx_ua m.2.2.1 m.1 f, sx_ua m.2.2.2 m.1 r) H1 := by
  refine ⟨by rw [z, h.1]; show _ = _ + (m.1 + 1); omega, by show m.1 + 1 ≤ _; omega, fun q hq => by rw [oq q (by rw [h.1]; omega)]; exact h.2.2.1 q hq, fun i' kd' hi' => ?_⟩
  by_cases hii : i' = m.1
  · subst hii
    have e1 : sx_u1 m.2.1 m.1 (some kd) m.1 = some kd' := hi'
    rw [sx_u1_eq] at e1
    cases e1
    refine ⟨by show m.1 < m.1 + 1; omega, hk, ?_⟩
    show va_at _ _ (_, sx_e E kd (sx_ua m.2.2.1 m.1 f m.1) (sx_ua m.2.2.2 m.1 r m.1)) H1
    rw [sx_ua_eq, sx_ua_eq]
    exact he
  · have e1 : sx_u1 m.2.1 m.1 (some kd) i' = some kd' := hi'
    rw [sx_u1_ne hii] at e1
    have hh := h.2.2.2 i' kd' e1
    refine ⟨by show i' < m.1 + 1; omega, hh.2.1, ?_⟩
    show va_at _ _ (_, sx_e E kd' (sx_ua m.2.2.1 m.1 f i') (sx_ua m.2.2.2 m.1 r i')) H1
    rw [sx_ua_ne hii, sx_ua_ne hii]
    exact hh.2.2.kept (oq _ (by rw [h.1]; show sx_B E + i' < _; omega))
theorem sx_fv_ref (E : sx_E) {ty : FieldType} (h1 : ty ≠ .int) (h2 : ty ≠ .boolean) (x : Int32) (q : Option Nat) : sx_fv E ty x q = va_rf (q.map (sx_ad E)) := by
  cases ty <;> first | rfl | exact absurd rfl h1 | exact absurd rfl h2
theorem sx_fv_eq (E : sx_E) {c k : Nat} (hc : c < 13) (hk : k < sx_N c) (x : Int32) (q : Option Nat) : sx_v E (bif sx_isI c k then .int x else sx_rv q) = sx_fv E (sx_ty c k) x q := by
  obtain ⟨h1, h2, h3⟩ := sx_tyI c hc k hk
  cases hi : sx_isI c k with
  | false =>
    obtain ⟨-, g1, g2⟩ := h3 hi
    rw [sx_fv_ref E g1 g2, cond_false, sx_v_rv]
  | true =>
    cases hz : sx_isZ c k with
    | false => rw [h1 hi hz]; rfl
    | true => rw [h2 hi hz]; rfl
theorem sx_KS.moved {E : sx_E} {s U : State} (hv : s.vm.Alike U.vm) (h : sx_KS E s) : sx_KS E U :=
  ⟨vk_S.moved hv h.1, va_Z.moved hv h.2.1, h.2.2.elim (fun h => Or.inl (va_Z.moved hv h)) (fun h => Or.inr (va_Z.moved hv h))⟩
theorem sx_K.warm {E : sx_E} {s U : State} (hW : s.WarmedH U.vm) (h : sx_K E s) : sx_K E U :=
  ⟨va_K.moved hW.alike h.1, va_AO.moved hW.alike h.2.1, va_X.moved hW.alike h.2.2.1, h.2.2.2.1, vk_R.warm hW h.2.2.2.2.1, vk_R.warm hW h.2.2.2.2.2.1, vk_R.warm hW h.2.2.2.2.2.2.1, vk_R.warm hW h.2.2.2.2.2.2.2.1, sx_KS.moved hW.alike h.2.2.2.2.2.2.2.2⟩
theorem sx_K.same {E : sx_E} {s U : State} (hv : U.vm = s.vm) (h : sx_K E s) : sx_K E U :=
  ⟨va_K.moved (by rw [hv]; exact Vm.Alike.refl _) h.1, va_AO.moved (by rw [hv]; exact Vm.Alike.refl _) h.2.1, va_X.moved (by rw [hv]; exact Vm.Alike.refl _) h.2.2.1, h.2.2.2.1, vk_R.same hv h.2.2.2.2.1, vk_R.same hv h.2.2.2.2.2.1, vk_R.same hv h.2.2.2.2.2.2.1, vk_R.same hv h.2.2.2.2.2.2.2.1, sx_KS.moved (by rw [hv]; exact Vm.Alike.refl _) h.2.2.2.2.2.2.2.2⟩
theorem sx_blind {E : sx_E} {as : List Value} {m : sx_M} : FrameBlind (sx_Pc E as m) := fun _ _ _ _ h => ⟨h.1, h.2.1, sx_K.same rfl h.2.2⟩
theorem sx_good (j : Nat) (h : .code (sx_y j) (sx_b j) (sx_L j) (sx_rt j) ∈ sx_tb) : GoodIn sx_tb (sx_ws j) := by
  intro w hw
  have h1 : w ∈ sx_tb := by
    rcases List.mem_cons.mp hw with rfl | h2
    · exact h
    · exact h2
  exact ⟨h1, good_of_word (List.mem_filter.mp h1).2⟩
