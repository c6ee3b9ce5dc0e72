-- CUTS of a run: configurations that are known to be good, and loops
noncomputable def ax_run2 (X : ax_X) (stp : ax_C → Bool) : Nat → List ax_C → Bool
  | _, [] => true
  | 0, _ :: _ => false
  | n + 1, c :: cs => bif stp c then ax_run2 X stp n cs else (match ax_step X c with
    | some l => ax_run2 X stp n (l ++ cs)
    | none => false)
/-- what is given beside the code is right -/
noncomputable def ax_XO (E : sx_E) (B : (Nat → Int) → Prop) (Q : Option Value → sx_M → Prop) (X : ax_X) : Prop :=
  (X.1 ≠ 0 → sx_Ln E = X.1) ∧ (∀ ρ, B ρ → ∀ k, k < X.1 → ρ k = (sx_xs E k).toInt) ∧ (∀ j, X.2.1 j = true → sx_mf j) ∧
  (∀ x as M N os, X.2.2.2.1 x as M N = some os → ∀ ρ asv m, B ρ → ax_rs ρ as asv → ax_rm ρ M m → ax_sat ρ N → sx_S E 10 0 0 x asv m (fun v m' => ∃ q ∈ os, ax_ro ρ q.1 v ∧ ax_rm ρ q.2.1 m' ∧ ax_sat ρ q.2.2)) ∧
  (∀ a M N ρ v m, X.2.2.2.2 a M N = true → B ρ → ax_ro ρ a v → ax_rm ρ M m → ax_sat ρ N → Q v m)
theorem ax_XO.sub {E : sx_E} {B B' : (Nat → Int) → Prop} {Q : Option Value → sx_M → Prop} {X : ax_X} (h : ax_XO E B Q X) (hB : ∀ ρ, B' ρ → B ρ) : ax_XO E B' Q X :=
  ⟨h.1, fun ρ g => h.2.1 ρ (hB ρ g), h.2.2.1, fun x as M N os ho ρ asv m g => h.2.2.2.1 x as M N os ho ρ asv m (hB ρ g), fun a M N ρ v m hp g => h.2.2.2.2 a M N ρ v m hp (hB ρ g)⟩
theorem ax_run2_ok {E : sx_E} {B : (Nat → Int) → Prop} {Q : Option Value → sx_M → Prop} {X : ax_X} (hX : ax_XO E B Q X) {stp : ax_C → Bool} (hs : ∀ c, stp c = true → ax_G E B Q c) :
    ∀ (n : Nat) (cs : List ax_C), ax_run2 X stp n cs = true → ∀ c ∈ cs, ax_G E B Q c
  | _, [], _, c, hc => by cases hc
  | 0, c :: cs, h, _, _ => by cases h
  | n + 1, c :: cs, h, c', hc => by
    simp only [ax_run2] at h
    cases hq : stp c with
    | true =>
      rw [hq, cond_true] at h
      rcases List.mem_cons.mp hc with rfl | h1
      · exact hs _ hq
      · exact ax_run2_ok hX hs n cs h c' h1
    | false =>
      rw [hq, cond_false] at h
      cases hl : ax_step X c with
      | none => simp only [hl] at h; cases h
      | some l =>
        simp only [hl] at h
        have ih := ax_run2_ok hX hs n (l ++ cs) h
        rcases List.mem_cons.mp hc with rfl | h1
        · exact ax_step_ok hX.1 hX.2.1 hX.2.2.1 hX.2.2.2.1 hX.2.2.2.2 _ l hl fun c2 h2 => ih c2 (List.mem_append_left _ h2)
        · exact ih c' (List.mem_append_right _ h1)
/-- good at one valuation -/
noncomputable def ax_Gr (E : sx_E) (Q : Option Value → sx_M → Prop) (c : ax_C) (ρ : Nat → Int) : Prop :=
  ∀ (ls : List (Option Value)) (st : List Value) (fs : List sx_F) (m : sx_M), ax_rl ρ c.1.2.2.2.2.2.1 ls → ax_rs ρ c.1.2.2.2.2.2.2 st → ax_rfs ρ c.2.1 fs → ax_rm ρ c.2.2.1 m → ax_sat ρ c.2.2.2 →
    sx_W E c.1.1 c.1.2.1 c.1.2.2.1 c.1.2.2.2.1 c.1.2.2.2.2.1 ls st m (ax_P E Q fs)
theorem ax_G_iff {E : sx_E} {B : (Nat → Int) → Prop} {Q : Option Value → sx_M → Prop} {c : ax_C} : ax_G E B Q c ↔ ∀ ρ, B ρ → ax_Gr E Q c ρ :=
  ⟨fun h ρ hB ls st fs m h1 h2 h3 h4 h5 => h ρ ls st fs m hB h1 h2 h3 h4 h5, fun h ρ ls st fs m hB h1 h2 h3 h4 h5 => h ρ hB ls st fs m h1 h2 h3 h4 h5⟩
theorem sx_W.wk {E : sx_E} {d kc ks j pc : Nat} {l1 l2 : List (Option Value)} {st : List Value} {m : sx_M} {Q : Option Value → sx_M → Prop} (h : sx_W E d kc ks j pc l2 st m Q) (hl : l2.length ≤ l1.length) (hn : ∀ i v, sx_nth l2 i = some v → sx_nth l1 i = some v) : sx_W E d kc ks j pc l1 st m Q := by
  intro p e s mi args below meth c H locs cells slots KC KS A hx hb hml hr hlk hin hown hts hok hK hR hlo hfr hcl hsl
  exact h p e s mi args below meth c H locs cells slots KC KS A hx hb hml hr hlk hin hown hts hok hK hR ⟨hlo.1, hlo.2.1, Nat.le_trans hl hlo.2.2.1, fun i v hv => hlo.2.2.2 i v (hn i v hv)⟩ hfr hcl hsl
noncomputable def ax_lk1 : List (Nat × ax_V) → Nat → Option ax_V
  | [], _ => none
  | q :: r, u => bif Nat.beq q.1 u then some q.2 else ax_lk1 r u
noncomputable def ax_fin (N : ax_N) (a : ax_V) : Bool := match a with
  | .inl (.int _) => true
  | .inr (some q) => (match N[q.1]? with
    | some _ => true
    | none => false)
  | _ => false
noncomputable def ax_ev (ρ : Nat → Int) (a : ax_V) : Int := match a with
  | .inl (.int x) => x.toInt
  | .inr (some q) => ρ q.1 + q.2
  | _ => 0
noncomputable def ax_rho (ρ : Nat → Int) (tv : List (Nat × ax_V)) : Nat → Int := fun u => match ax_lk1 tv u with
  | some b => ax_ev ρ b
  | none => ρ u
theorem ax_ev_iv {ρ : Nat → Int} {N : ax_N} {a : ax_V} (hs : ax_sat ρ N) (hf : ax_fin N a = true) : (ax_iv N a).1 ≤ ax_ev ρ a ∧ ax_ev ρ a ≤ (ax_iv N a).2 := by
  match a, hf with
  | .inl (.int x), _ => exact ⟨Int.le_refl _, Int.le_refl _⟩
  | .inr (some q), hf =>
    cases hn : N[q.1]? with
    | none => simp only [ax_fin, hn] at hf; cases hf
    | some p =>
      have h := hs _ _ hn
      simp only [ax_iv, hn, ax_ev]
      omega
theorem ax_ev_r {ρ : Nat → Int} {N : ax_N} {a : ax_V} {w : Value} (hf : ax_fin N a = true) (h : ax_r ρ a w) : ∃ x : Int32, w = .int x ∧ x.toInt = ax_ev ρ a := by
  match a, hf, h with
  | .inl (.int x), _, h => exact ⟨x, h, rfl⟩
  | .inr (some q), _, h => obtain ⟨x, h1, h2⟩ := h; exact ⟨x, h1, h2⟩
/-- a value is one that the template's stands for -/
noncomputable def ax_sb (N : ax_N) (tv : List (Nat × ax_V)) (t a : ax_V) : Bool := match t with
  | .inr none => true
  | .inr (some q) => (match ax_lk1 tv q.1 with
    | some b => decide (q.2 = 0) && (decide (a = b) && ax_fin N b)
    | none => decide (a = t))
  | .inl _ => decide (a = t)
theorem ax_sb_ok {ρ : Nat → Int} {N : ax_N} {tv : List (Nat × ax_V)} {t a : ax_V} {w : Value} (hb : ax_sb N tv t a = true) (h : ax_r ρ a w) (hi : ∃ x, w = .int x) : ax_r (ax_rho ρ tv) t w ∨ (∃ v, t = .inl v ∧ w = v) := by
  match t, hb with
  | .inr none, _ => exact Or.inl hi
  | .inl v, hb =>
    simp only [ax_sb, decide_eq_true_eq] at hb
    subst hb
    exact Or.inl h
  | .inr (some q), hb =>
    left
    simp only [ax_sb] at hb
    cases hl : ax_lk1 tv q.1 with
    | some b =>
      simp only [hl, Bool.and_eq_true, decide_eq_true_eq] at hb
      obtain ⟨h1, h2, h3⟩ := hb
      subst h2
      obtain ⟨x, g1, g2⟩ := ax_ev_r h3 h
      refine ⟨x, g1, ?_⟩
      rw [h1, g2]
      simp only [ax_rho, hl, Int.add_zero]
    | none =>
      simp only [hl, decide_eq_true_eq] at hb
      subst hb
      obtain ⟨x, g1, g2⟩ := h
      refine ⟨x, g1, ?_⟩
      rw [g2]
      simp only [ax_rho, hl]
/-- the same with references -/
noncomputable def ax_sv (N : ax_N) (tv : List (Nat × ax_V)) (t a : ax_V) : Bool := match t with
  | .inl _ => decide (a = t)
  | .inr _ => ax_isI a && ax_sb N tv t a
theorem ax_sv_ok {ρ : Nat → Int} {N : ax_N} {tv : List (Nat × ax_V)} {t a : ax_V} {w : Value} (hb : ax_sv N tv t a = true) (h : ax_r ρ a w) : ax_r (ax_rho ρ tv) t w := by
  match t, hb with
  | .inl v, hb =>
    simp only [ax_sv, decide_eq_true_eq] at hb
    subst hb
    exact h
  | .inr q, hb =>
    simp only [ax_sv, Bool.and_eq_true] at hb
    rcases ax_sb_ok hb.2 h (ax_isI_e h hb.1) with g | ⟨v, e, -⟩
    · exact g
    · cases e
noncomputable def ax_sl (N : ax_N) (tv : List (Nat × ax_V)) : ax_L → ax_L → Bool
  | [], [] => true
  | none :: r, _ :: s => ax_sl N tv r s
  | some t :: r, some a :: s => ax_sv N tv t a && ax_sl N tv r s
  | _, _ => false
theorem ax_sl_ok {ρ : Nat → Int} {N : ax_N} {tv : List (Nat × ax_V)} : ∀ {T L : ax_L} {ls : List (Option Value)}, ax_sl N tv T L = true → ax_rl ρ L ls → ∃ l2, ax_rl (ax_rho ρ tv) T l2 ∧ l2.length = ls.length ∧ ∀ i v, sx_nth l2 i = some v → sx_nth ls i = some v
  | [], [], [], _, _ => ⟨[], trivial, rfl, fun i v h => h⟩
  | none :: T, none :: L, none :: ls, h, hr => by
    obtain ⟨l2, h1, h2, h3⟩ := ax_sl_ok (T := T) (L := L) (ls := ls) h hr
    exact ⟨none :: l2, h1, by simp [h2], fun i v hv => by cases i with | zero => simp [sx_nth] at hv | succ i => exact h3 i v hv⟩
  | none :: T, some a :: L, some w :: ls, h, hr => by
    obtain ⟨l2, h1, h2, h3⟩ := ax_sl_ok (T := T) (L := L) (ls := ls) h hr.2
    exact ⟨none :: l2, h1, by simp [h2], fun i v hv => by cases i with | zero => simp [sx_nth] at hv | succ i => exact h3 i v hv⟩
  | some t :: T, some a :: L, some w :: ls, h, hr => by
    simp only [ax_sl, Bool.and_eq_true] at h
    obtain ⟨l2, h1, h2, h3⟩ := ax_sl_ok (T := T) (L := L) (ls := ls) h.2 hr.2
    exact ⟨some w :: l2, ⟨ax_sv_ok h.1 hr.1, h1⟩, by simp [h2], fun i v hv => by cases i with | zero => exact hv | succ i => exact h3 i v hv⟩
  | some _ :: _, none :: _, _, h, _ => by simp [ax_sl] at h
  | [], _ :: _, _, h, _ => by simp [ax_sl] at h
  | none :: _, [], _, h, _ => by simp [ax_sl] at h
  | some _ :: _, [], _, h, _ => by simp [ax_sl] at h
  | none :: _, none :: _, some _ :: _, _, hr => hr.elim
  | none :: _, some _ :: _, none :: _, _, hr => hr.elim
  | some _ :: _, some _ :: _, none :: _, _, hr => hr.elim
  | none :: _, none :: _, [], _, hr => hr.elim
  | none :: _, some _ :: _, [], _, hr => hr.elim
  | some _ :: _, some _ :: _, [], _, hr => hr.elim
  | [], [], _ :: _, _, hr => hr.elim
noncomputable def ax_sls (N : ax_N) (tv : List (Nat × ax_V)) : ax_L → ax_L → Bool
  | [], [] => true
  | none :: r, none :: s => ax_sls N tv r s
  | some t :: r, some a :: s => ax_sv N tv t a && ax_sls N tv r s
  | _, _ => false
theorem ax_sls_ok {ρ : Nat → Int} {N : ax_N} {tv : List (Nat × ax_V)} : ∀ {T L : ax_L} {ls : List (Option Value)}, ax_sls N tv T L = true → ax_rl ρ L ls → ax_rl (ax_rho ρ tv) T ls
  | [], [], [], _, _ => trivial
  | none :: T, none :: L, none :: ls, h, hr => ax_sls_ok (T := T) (L := L) (ls := ls) h hr
  | some t :: T, some a :: L, some w :: ls, h, hr => by
    simp only [ax_sls, Bool.and_eq_true] at h
    exact ⟨ax_sv_ok h.1 hr.1, ax_sls_ok (T := T) (L := L) (ls := ls) h.2 hr.2⟩
  | some _ :: _, none :: _, _, h, _ => by simp [ax_sls] at h
  | none :: _, some _ :: _, _, h, _ => by simp [ax_sls] at h
  | [], _ :: _, _, h, _ => by simp [ax_sls] at h
  | none :: _, [], _, h, _ => by simp [ax_sls] at h
  | some _ :: _, [], _, h, _ => by simp [ax_sls] at h
  | none :: _, none :: _, some _ :: _, _, hr => hr.elim
  | some _ :: _, some _ :: _, none :: _, _, hr => hr.elim
  | none :: _, none :: _, [], _, hr => hr.elim
  | some _ :: _, some _ :: _, [], _, hr => hr.elim
  | [], [], _ :: _, _, hr => hr.elim
noncomputable def ax_ss (N : ax_N) (tv : List (Nat × ax_V)) : List ax_V → List ax_V → Bool
  | [], [] => true
  | t :: r, a :: s => ax_sv N tv t a && ax_ss N tv r s
  | _, _ => false
theorem ax_ss_ok {ρ : Nat → Int} {N : ax_N} {tv : List (Nat × ax_V)} : ∀ {T L : List ax_V} {ls : List Value}, ax_ss N tv T L = true → ax_rs ρ L ls → ax_rs (ax_rho ρ tv) T ls
  | [], [], ls, _, hr => by rw [ax_rs0 hr]; trivial
  | t :: T, a :: L, ls, h, hr => by
    simp only [ax_ss, Bool.and_eq_true] at h
    obtain ⟨w, r, rfl, h1, h2⟩ := ax_rs1 hr
    exact ⟨ax_sv_ok h.1 h1, ax_ss_ok h.2 h2⟩
  | [], _ :: _, _, h, _ => by simp [ax_ss] at h
  | _ :: _, [], _, h, _ => by simp [ax_ss] at h
noncomputable def ax_sf (N : ax_N) (tv : List (Nat × ax_V)) : List ax_F → List ax_F → Bool
  | [], [] => true
  | T :: r, F :: s => (Nat.beq T.1 F.1 && (Nat.beq T.2.1 F.2.1 && (Nat.beq T.2.2.1 F.2.2.1 && (Nat.beq T.2.2.2.1 F.2.2.2.1 && Nat.beq T.2.2.2.2.1 F.2.2.2.2.1)))) && (ax_sls N tv T.2.2.2.2.2.1 F.2.2.2.2.2.1 && (ax_ss N tv T.2.2.2.2.2.2 F.2.2.2.2.2.2 && ax_sf N tv r s))
  | _, _ => false
theorem ax_sf_ok {ρ : Nat → Int} {N : ax_N} {tv : List (Nat × ax_V)} : ∀ {T L : List ax_F} {fs : List sx_F}, ax_sf N tv T L = true → ax_rfs ρ L fs → ax_rfs (ax_rho ρ tv) T fs
  | [], [], [], _, _ => trivial
  | T :: r, F :: s, G :: fs, h, hr => by
    simp only [ax_sf, Bool.and_eq_true] at h
    obtain ⟨⟨e1, e2, e3, e4, e5⟩, h1, h2, h3⟩ := h
    obtain ⟨⟨g1, g2, g3, g4, g5, g6, g7⟩, g8⟩ := hr
    exact ⟨⟨g1.trans (Nat.eq_of_beq_eq_true e1).symm, g2.trans (Nat.eq_of_beq_eq_true e2).symm, g3.trans (Nat.eq_of_beq_eq_true e3).symm, g4.trans (Nat.eq_of_beq_eq_true e4).symm, g5.trans (Nat.eq_of_beq_eq_true e5).symm, ax_sls_ok h1 g6, ax_ss_ok h2 g7⟩, ax_sf_ok h3 g8⟩
  | [], _ :: _, _, h, _ => by simp [ax_sf] at h
  | _ :: _, [], _, h, _ => by simp [ax_sf] at h
  | [], [], _ :: _, _, hr => hr.elim
  | _ :: _, _ :: _, [], _, hr => hr.elim
noncomputable def ax_sn (tv : List (Nat × ax_V)) (T N : ax_N) : Bool := (List.range T.length).all fun u => match T[u]? with
  | none => true
  | some q => (match ax_lk1 tv u with
    | some b => ax_fin N b && (decide (q.1 ≤ (ax_iv N b).1) && decide ((ax_iv N b).2 ≤ q.2))
    | none => (match N[u]? with
      | some p => decide (q.1 ≤ p.1) && decide (p.2 ≤ q.2)
      | none => false))
theorem ax_sn_ok {ρ : Nat → Int} {tv : List (Nat × ax_V)} {T N : ax_N} (h : ax_sn tv T N = true) (hs : ax_sat ρ N) : ax_sat (ax_rho ρ tv) T := by
  intro u q hu
  have hl : u < T.length := (List.getElem?_eq_some_iff.mp hu).1
  have h1 := List.all_eq_true.mp h u (List.mem_range.mpr hl)
  simp only [hu] at h1
  cases hk : ax_lk1 tv u with
  | some b =>
    simp only [hk, Bool.and_eq_true, decide_eq_true_eq] at h1
    have h2 := ax_ev_iv hs h1.1
    simp only [ax_rho, hk]
    omega
  | none =>
    simp only [hk] at h1
    cases hn : N[u]? with
    | none => simp only [hn] at h1; cases h1
    | some p =>
      simp only [hn, Bool.and_eq_true, decide_eq_true_eq] at h1
      have h2 := hs _ _ hn
      simp only [ax_rho, hk]
      omega
noncomputable def ax_sm (N : ax_N) (tv : List (Nat × ax_V)) (T M : ax_M) : Bool := Nat.beq M.1 T.1 && (List.range T.1).all fun i => match T.2.1 i with
  | none => true
  | some kd => decide (M.2.1 i = some kd) && (List.range kd.2).all fun k => ax_sb N tv ((T.2.2.1 i).2 k) ((M.2.2.1 i).2 k) && (match T.2.2.2 i k with
    | none => true
    | some q => decide (M.2.2.2 i k = some q))
theorem ax_sm_ok {ρ : Nat → Int} {N : ax_N} {tv : List (Nat × ax_V)} {T M : ax_M} {m : sx_M} (hT : ∀ i kd, T.2.1 i = some kd → i < T.1) (h : ax_sm N tv T M = true) (hm : ax_rm ρ M m) : ax_rm (ax_rho ρ tv) T m := by
  simp only [ax_sm, Bool.and_eq_true] at h
  have e1 : M.1 = T.1 := Nat.eq_of_beq_eq_true h.1
  have key : ∀ i kd, T.2.1 i = some kd → M.2.1 i = some kd ∧ ∀ k, k < kd.2 → ax_sb N tv ((T.2.2.1 i).2 k) ((M.2.2.1 i).2 k) = true ∧ ∀ q, T.2.2.2 i k = some q → M.2.2.2 i k = some q := by
    intro i kd hi
    have h1 := List.all_eq_true.mp h.2 i (List.mem_range.mpr (hT i kd hi))
    simp only [hi, Bool.and_eq_true, decide_eq_true_eq] at h1
    refine ⟨h1.1, fun k hk => ?_⟩
    have h2 := List.all_eq_true.mp h1.2 k (List.mem_range.mpr hk)
    simp only [Bool.and_eq_true] at h2
    refine ⟨h2.1, fun q hq => ?_⟩
    have h3 := h2.2
    simp only [hq, decide_eq_true_eq] at h3
    exact h3
  refine ⟨hm.1.trans e1, fun i kd hi => hm.2.1 i kd (key i kd hi).1, fun i kd k q hi hk hq => hm.2.2.1 i kd k q (key i kd hi).1 hk (((key i kd hi).2 k hk).2 q hq), fun i kd k hi hk => ?_⟩
  have h0 := hm.2.2.2 i kd k (key i kd hi).1 hk
  rcases ax_sb_ok ((key i kd hi).2 k hk).1 h0 ⟨_, rfl⟩ with g | ⟨v, e, e2⟩
  · exact g
  · rw [e]; exact e2
noncomputable def ax_less (tv : List (Nat × ax_V)) (T c : ax_C) : Bool :=
  (Nat.beq T.1.1 c.1.1 && (Nat.beq T.1.2.1 c.1.2.1 && (Nat.beq T.1.2.2.1 c.1.2.2.1 && (Nat.beq T.1.2.2.2.1 c.1.2.2.2.1 && Nat.beq T.1.2.2.2.2.1 c.1.2.2.2.2.1)))) &&
  (ax_sl c.2.2.2 tv T.1.2.2.2.2.2.1 c.1.2.2.2.2.2.1 && (ax_ss c.2.2.2 tv T.1.2.2.2.2.2.2 c.1.2.2.2.2.2.2 && (ax_sf c.2.2.2 tv T.2.1 c.2.1 && (ax_sn tv T.2.2.2 c.2.2.2 && ax_sm c.2.2.2 tv T.2.2.1 c.2.2.1))))
theorem ax_less_ok {E : sx_E} {Q : Option Value → sx_M → Prop} {tv : List (Nat × ax_V)} {T c : ax_C} {ρ : Nat → Int} (hT : ∀ i kd, T.2.2.1.2.1 i = some kd → i < T.2.2.1.1) (h : ax_less tv T c = true) (hG : ax_Gr E Q T (ax_rho ρ tv)) : ax_Gr E Q c ρ := by
  simp only [ax_less, Bool.and_eq_true] at h
  obtain ⟨⟨e1, e2, e3, e4, e5⟩, h1, h2, h3, h4, h5⟩ := h
  intro ls st fs m hls hst hfs hm hN
  obtain ⟨l2, g1, g2, g3⟩ := ax_sl_ok h1 hls
  have hW := hG l2 st fs m g1 (ax_ss_ok h2 hst) (ax_sf_ok h3 hfs) (ax_sm_ok hT h5 hm) (ax_sn_ok h4 hN)
  rw [Nat.eq_of_beq_eq_true e1, Nat.eq_of_beq_eq_true e2, Nat.eq_of_beq_eq_true e3, Nat.eq_of_beq_eq_true e4, Nat.eq_of_beq_eq_true e5] at hW
  exact hW.wk (by rw [g2]; exact Nat.le_refl _) g3
/-- where the template's own variables stand: in a local, or in a cell -/
abbrev ax_dsg : Type := List (Nat × (Nat ⊕ (Nat × Nat)))
noncomputable def ax_tv : ax_dsg → ax_C → Option (List (Nat × ax_V))
  | [], _ => some []
  | q :: r, c => match (match q.2 with
      | .inl i => ax_nth c.1.2.2.2.2.2.1 i
      | .inr p => some ((c.2.2.1.2.2.1 p.1).2 p.2)), ax_tv r c with
    | some a, some l => some ((q.1, ax_nm c.2.2.2 a) :: l)
    | _, _ => none
theorem ax_tv_lk : ∀ {ds : ax_dsg} {c : ax_C} {tv : List (Nat × ax_V)} {u : Nat}, ax_tv ds c = some tv → (∀ q ∈ ds, q.1 ≠ u) → ax_lk1 tv u = none
  | [], c, tv, u, h, _ => by simp only [ax_tv, Option.some.injEq] at h; subst h; rfl
  | q :: r, c, tv, u, h, hu => by
    simp only [ax_tv] at h
    split at h
    · rename_i a l h1 h2
      cases h
      show (bif Nat.beq q.1 u then _ else ax_lk1 l u) = none
      rw [sx_beq_ne (hu q List.mem_cons_self)]
      exact ax_tv_lk h2 fun p hp => hu p (List.mem_cons_of_mem _ hp)
    · cases h
noncomputable def ax_cut (ds : ax_dsg) (T c : ax_C) : Bool := (Nat.beq T.1.2.2.2.1 c.1.2.2.2.1 && Nat.beq T.1.2.2.2.2.1 c.1.2.2.2.2.1) && (match ax_tv ds c with
  | some tv => ax_less tv T c
  | none => false)
noncomputable def ax_bst (B : (Nat → Int) → Prop) (ds : ax_dsg) : Prop := ∀ ρ ρ' : Nat → Int, (∀ u, (∀ q ∈ ds, q.1 ≠ u) → ρ' u = ρ u) → B ρ → B ρ'
theorem ax_cut_ok {E : sx_E} {B : (Nat → Int) → Prop} {Q : Option Value → sx_M → Prop} {ds : ax_dsg} {T c : ax_C} (hT : ∀ i kd, T.2.2.1.2.1 i = some kd → i < T.2.2.1.1) (hB : ax_bst B ds) (hG : ax_G E B Q T) (h : ax_cut ds T c = true) : ax_G E B Q c := by
  simp only [ax_cut, Bool.and_eq_true] at h
  obtain ⟨-, h⟩ := h
  split at h
  · rename_i tv htv
    refine ax_G_iff.mpr fun ρ hρ => ax_less_ok hT h (ax_G_iff.mp hG _ (hB ρ _ (fun u hu => ?_) hρ))
    simp only [ax_rho, ax_tv_lk htv hu]
  · cases h
/-- back at the head, the variable v greater -/
noncomputable def ax_bk (ds : ax_dsg) (v : Nat) (T c : ax_C) : Bool := ax_cut ds T c && (match ax_tv ds c with
  | some tv => (match ax_lk1 tv v with
    | some (.inr (some q)) => Nat.beq q.1 v && decide (0 < q.2)
    | _ => false)
  | none => false)
noncomputable def ax_head (X : ax_X) (stp : ax_C → Bool) (n : Nat) (T : ax_C) : Bool := match ax_step X T with
  | some l => ax_run2 X stp n l
  | none => false
theorem ax_loop {E : sx_E} {B : (Nat → Int) → Prop} {Q : Option Value → sx_M → Prop} {X : ax_X} (hX : ax_XO E B Q X) {stp : ax_C → Bool} (hs : ∀ c, stp c = true → ax_G E B Q c) {ds : ax_dsg} {v : Nat} {T : ax_C} {q0 : Int × Int} {n : Nat} (hT : ∀ i kd, T.2.2.1.2.1 i = some kd → i < T.2.2.1.1) (hB : ax_bst B ds) (hv : T.2.2.2[v]? = some q0) (hrun : ax_head X (fun c => stp c || ax_bk ds v T c) n T = true) : ax_G E B Q T := by
  have key : ∀ t : Nat, ∀ ρ, B ρ → q0.2 - ρ v < (t : Int) → ax_Gr E Q T ρ := by
    intro t
    induction t with
    | zero =>
      intro ρ hρ ht ls st fs m h1 h2 h3 h4 h5
      have := h5 v q0 hv
      exfalso
      omega
    | succ t ih =>
      intro ρ hρ ht
      have hX' : ax_XO E (fun ρ2 => B ρ2 ∧ ρ2 v = ρ v) Q X := hX.sub fun _ h => h.1
      have hs' : ∀ c, (stp c || ax_bk ds v T c) = true → ax_G E (fun ρ2 => B ρ2 ∧ ρ2 v = ρ v) Q c := by
        intro c hc
        rw [Bool.or_eq_true] at hc
        rcases hc with hc | hc
        · exact ax_G_iff.mpr fun ρ2 h2 => ax_G_iff.mp (hs c hc) ρ2 h2.1
        · simp only [ax_bk, Bool.and_eq_true] at hc
          obtain ⟨hc1, hc2⟩ := hc
          simp only [ax_cut, Bool.and_eq_true] at hc1
          obtain ⟨-, hc1⟩ := hc1
          split at hc1
          · rename_i tv htv
            simp only [htv] at hc2
            refine ax_G_iff.mpr fun ρ2 h2 => ax_less_ok hT hc1 (ih _ (hB ρ2 _ (fun u hu => ?_) h2.1) ?_)
            · simp only [ax_rho, ax_tv_lk htv hu]
            · split at hc2
              · rename_i p hp
                simp only [Bool.and_eq_true, decide_eq_true_eq] at hc2
                have e1 : p.1 = v := Nat.eq_of_beq_eq_true hc2.1
                have e2 : ax_rho ρ2 tv v = ρ2 v + p.2 := by
                  simp only [ax_rho, hp, ax_ev, e1]
                rw [e2, h2.2]
                omega
              · cases hc2
          · cases hc1
      unfold ax_head at hrun
      cases hl : ax_step X T with
      | none => simp only [hl] at hrun; cases hrun
      | some l =>
        simp only [hl] at hrun
        have hg := ax_run2_ok hX' hs' n l hrun
        exact ax_G_iff.mp (ax_step_ok hX'.1 hX'.2.1 hX'.2.2.1 hX'.2.2.2.1 hX'.2.2.2.2 T l hl hg) ρ ⟨hρ, rfl⟩
  exact ax_G_iff.mpr fun ρ hρ => key ((q0.2 - ρ v).toNat + 1) ρ hρ (by omega)
