-- by program (wip/gen/mkz.py)
-- SpoutNewsModel.isInRound(I)Z
noncomputable def w_M_isInRound_l8 (l1 : Int) (K24 : zi_M → Prop) (K38 : zi_M → Prop) (Q : Int → zi_M → Prop) : Nat → Int → Int → zi_M → Prop
  | 0, _, _, _ => False
  | f + 1, l2, l3, g => (zi_r l3 ∧ ((10 ≤ l3 → K38 g) ∧ (l3 < 10 → (zi_r l2 ∧ ((l2 = (-1) → K38 g) ∧ (¬ l2 = (-1) → (zi_r l1 ∧ ((¬ l2 = l1 → w_M_into l2 g (fun v7 g8 => w_M_isInRound_l8 l1 K24 K38 Q f v7 (l3 + 1) g8)) ∧ (l2 = l1 → K24 g)))))))))
noncomputable def w_M_isInRound (l1 : Int) (g : zi_M) (Q : Int → zi_M → Prop) : Prop := w_M_into l1 g (fun v1 g2 => (∃ f15, w_M_isInRound_l8 l1 (fun g13 => Q 1 g13) (fun g14 => Q 0 g14) Q f15 v1 0 g2))
set_option maxRecDepth 100000 in
theorem s_M_isInRound_l8_r {E : sx_E} {d : Nat} (hd : 2 ≤ d) {l1 : Int} {K24 : zi_M → Prop} {K38 : zi_M → Prop} {Q : Int → zi_M → Prop} (hK24 : ∀ (g : zi_M), K24 g → zi_W E d 277 24 [some (.ref 214), some (zi_i l1), none, none] [] g (zi_Qb Q)) (hK38 : ∀ (g : zi_M), K38 g → zi_W E d 277 38 [some (.ref 214), some (zi_i l1), none, none] [] g (zi_Qb Q)) : ∀ (f : Nat) {l2 : Int} {l3 : Int} {g : zi_M}, w_M_isInRound_l8 l1 K24 K38 Q f l2 l3 g → zi_W E d 277 8 [some (.ref 214), some (zi_i l1), some (zi_i l2), some (zi_i l3)] [] g (zi_Qb Q)
  | 0, _, _, _, h => False.elim h
  | f + 1, l2, l3, g, h => by
    refine zi_iload_n (pc' := 9) rfl rfl rfl ?_
    refine zi_bipush (pc' := 11) rfl rfl (by decide) ?_
    obtain ⟨o4, h⟩ := h
    refine zi_icmp_ge (x := 38) (pc' := 14) rfl rfl o4 (by decide) (fun c12 => ?_) (fun c12 => ?_)
    · replace h := h.1 c12
      exact zi_wk (hK38 _ h) (And.intro rfl (And.intro rfl trivial))
    · replace h := h.2 c12
      refine zi_iload_n (pc' := 15) rfl rfl rfl ?_
      refine zi_iconst (pc' := 16) rfl rfl ?_
      obtain ⟨o5, h⟩ := h
      refine zi_icmp_eq (x := 38) (pc' := 19) rfl rfl o5 (by decide) (fun c11 => ?_) (fun c11 => ?_)
      · replace h := h.1 c11
        exact zi_wk (hK38 _ h) (And.intro rfl (And.intro rfl trivial))
      · replace h := h.2 c11
        refine zi_iload_n (pc' := 20) rfl rfl rfl ?_
        refine zi_iload_n (pc' := 21) rfl rfl rfl ?_
        obtain ⟨o6, h⟩ := h
        refine zi_icmp_ne (x := 26) (pc' := 24) rfl rfl o5 o6 (fun c10 => ?_) (fun c10 => ?_)
        · replace h := h.1 c10
          refine zi_aload_n (pc' := 27) rfl rfl rfl ?_
          refine zi_iload_n (pc' := 28) rfl rfl rfl ?_
          refine zi_callV (d' := 1) (as := [_]) (pc' := 31) rfl rfl rfl rfl (Nat.lt_of_lt_of_le (by decide) hd) (s_M_into (Nat.le_refl _) h) (zi_ki (fun v7 g8 h => ?_))
          refine zi_istore_n (pc' := 32) [some _, some _, some _, some _] rfl rfl rfl ?_
          refine zi_iinc (pc' := 35) [some _, some _, some _, some _] rfl rfl rfl rfl ?_
          refine zi_goto (x := 8) rfl ?_
          exact zi_wk (s_M_isInRound_l8_r hd hK24 hK38 f h) (And.intro rfl (And.intro rfl (And.intro rfl (And.intro rfl trivial))))
        · replace h := h.2 c10
          exact zi_wk (hK24 _ h) (And.intro rfl (And.intro rfl trivial))
set_option maxRecDepth 100000 in
theorem s_M_isInRound_l8 {E : sx_E} {d : Nat} (hd : 2 ≤ d) {l1 : Int} {K24 : zi_M → Prop} {K38 : zi_M → Prop} {Q : Int → zi_M → Prop} {l2 : Int} {l3 : Int} {g : zi_M} (h : ∃ f, w_M_isInRound_l8 l1 K24 K38 Q f l2 l3 g) (hK24 : ∀ (g : zi_M), K24 g → zi_W E d 277 24 [some (.ref 214), some (zi_i l1), none, none] [] g (zi_Qb Q)) (hK38 : ∀ (g : zi_M), K38 g → zi_W E d 277 38 [some (.ref 214), some (zi_i l1), none, none] [] g (zi_Qb Q)) : zi_W E d 277 8 [some (.ref 214), some (zi_i l1), some (zi_i l2), some (zi_i l3)] [] g (zi_Qb Q) := by
  obtain ⟨f, h⟩ := h
  exact s_M_isInRound_l8_r hd hK24 hK38 f h
set_option maxRecDepth 100000 in
theorem s_M_isInRound {E : sx_E} {d : Nat} (hd : 2 ≤ d) {l1 : Int} {g : zi_M} {Q : Int → zi_M → Prop} (h : w_M_isInRound l1 g Q) : zi_S E d 277 [.ref 214, zi_i l1] g (zi_Qb Q) := by
  refine zi_Sof jf_277 [some (.ref 214), some (zi_i l1), none, none] rfl (And.intro rfl (And.intro rfl trivial)) ?_
  unfold w_M_isInRound at h
  refine zi_aload_n (pc' := 1) rfl rfl rfl ?_
  refine zi_iload_n (pc' := 2) rfl rfl rfl ?_
  refine zi_callV (d' := 1) (as := [_]) (pc' := 5) rfl rfl rfl rfl (Nat.lt_of_lt_of_le (by decide) hd) (s_M_into (Nat.le_refl _) h) (zi_ki (fun v1 g2 h => ?_))
  refine zi_istore_n (pc' := 6) [some _, some _, some _, none] rfl rfl rfl ?_
  refine zi_iconst (pc' := 7) rfl rfl ?_
  refine zi_istore_n (pc' := 8) [some _, some _, some _, some _] rfl rfl rfl ?_
  refine zi_wk (s_M_isInRound_l8 hd h (fun g13 h => ?_) (fun g14 h => ?_)) (And.intro rfl (And.intro rfl (And.intro rfl (And.intro rfl trivial))))
  · refine zi_iconst (pc' := 25) rfl rfl ?_
    exact zi_zret rfl rfl (Or.inr rfl) h
  · refine zi_iconst (pc' := 39) rfl rfl ?_
    exact zi_zret rfl rfl (Or.inl rfl) h
-- SpoutNewsModel.leastOfRound(I)I
noncomputable def w_M_leastOfRound_l8 (l1 : Int) (K29 : Int → zi_M → Prop) (Q : Int → zi_M → Prop) : Nat → Int → Int → zi_M → Prop
  | 0, _, _, _ => False
  | f + 1, l2, l3, g => (zi_r l3 ∧ zi_r l1 ∧ ((l3 = l1 → K29 l2 g) ∧ (¬ l3 = l1 → w_M_lesser l2 l3 g (fun v6 g7 => w_M_into l3 g7 (fun v9 g10 => w_M_leastOfRound_l8 l1 K29 Q f v6 v9 g10)))))
noncomputable def w_M_leastOfRound (l1 : Int) (g : zi_M) (Q : Int → zi_M → Prop) : Prop := w_M_into l1 g (fun v1 g2 => (∃ f15, w_M_leastOfRound_l8 l1 (fun k13 g14 => Q k13 g14) Q f15 l1 v1 g2))
set_option maxRecDepth 100000 in
theorem s_M_leastOfRound_l8_r {E : sx_E} {d : Nat} (hd : 2 ≤ d) {l1 : Int} {K29 : Int → zi_M → Prop} {Q : Int → zi_M → Prop} (hK29 : ∀ (k2 : Int) (g : zi_M), K29 k2 g → zi_W E d 278 29 [some (.ref 214), some (zi_i l1), some (zi_i k2), none] [] g (zi_Q Q)) : ∀ (f : Nat) {l2 : Int} {l3 : Int} {g : zi_M}, w_M_leastOfRound_l8 l1 K29 Q f l2 l3 g → zi_W E d 278 8 [some (.ref 214), some (zi_i l1), some (zi_i l2), some (zi_i l3)] [] g (zi_Q Q)
  | 0, _, _, _, h => False.elim h
  | f + 1, l2, l3, g, h => by
    refine zi_iload_n (pc' := 9) rfl rfl rfl ?_
    refine zi_iload_n (pc' := 10) rfl rfl rfl ?_
    obtain ⟨o4, o5, h⟩ := h
    refine zi_icmp_eq (x := 29) (pc' := 13) rfl rfl o4 o5 (fun c12 => ?_) (fun c12 => ?_)
    · replace h := h.1 c12
      exact zi_wk (hK29 _ _ h) (And.intro rfl (And.intro rfl (And.intro rfl trivial)))
    · replace h := h.2 c12
      refine zi_aload_n (pc' := 14) rfl rfl rfl ?_
      refine zi_iload_n (pc' := 15) rfl rfl rfl ?_
      refine zi_iload_n (pc' := 16) rfl rfl rfl ?_
      refine zi_callV (d' := 1) (as := [_, _]) (pc' := 19) rfl rfl rfl rfl (Nat.lt_of_lt_of_le (by decide) hd) (s_M_lesser (Nat.le_refl _) h) (zi_ki (fun v6 g7 h => ?_))
      refine zi_istore_n (pc' := 20) [some _, some _, some _, some _] rfl rfl rfl ?_
      refine zi_aload_n (pc' := 21) rfl rfl rfl ?_
      refine zi_iload_n (pc' := 22) rfl rfl rfl ?_
      refine zi_callV (d' := 1) (as := [_]) (pc' := 25) rfl rfl rfl rfl (Nat.lt_of_lt_of_le (by decide) hd) (s_M_into (Nat.le_refl _) h) (zi_ki (fun v9 g10 h => ?_))
      refine zi_istore_n (pc' := 26) [some _, some _, some _, some _] rfl rfl rfl ?_
      refine zi_goto (x := 8) rfl ?_
      exact zi_wk (s_M_leastOfRound_l8_r hd hK29 f h) (And.intro rfl (And.intro rfl (And.intro rfl (And.intro rfl trivial))))
set_option maxRecDepth 100000 in
theorem s_M_leastOfRound_l8 {E : sx_E} {d : Nat} (hd : 2 ≤ d) {l1 : Int} {K29 : Int → zi_M → Prop} {Q : Int → zi_M → Prop} {l2 : Int} {l3 : Int} {g : zi_M} (h : ∃ f, w_M_leastOfRound_l8 l1 K29 Q f l2 l3 g) (hK29 : ∀ (k2 : Int) (g : zi_M), K29 k2 g → zi_W E d 278 29 [some (.ref 214), some (zi_i l1), some (zi_i k2), none] [] g (zi_Q Q)) : zi_W E d 278 8 [some (.ref 214), some (zi_i l1), some (zi_i l2), some (zi_i l3)] [] g (zi_Q Q) := by
  obtain ⟨f, h⟩ := h
  exact s_M_leastOfRound_l8_r hd hK29 f h
set_option maxRecDepth 100000 in
theorem s_M_leastOfRound {E : sx_E} {d : Nat} (hd : 2 ≤ d) {l1 : Int} {g : zi_M} {Q : Int → zi_M → Prop} (h : w_M_leastOfRound l1 g Q) : zi_S E d 278 [.ref 214, zi_i l1] g (zi_Q Q) := by
  refine zi_Sof jf_278 [some (.ref 214), some (zi_i l1), none, none] rfl (And.intro rfl (And.intro rfl trivial)) ?_
  unfold w_M_leastOfRound at h
  refine zi_iload_n (pc' := 1) rfl rfl rfl ?_
  refine zi_istore_n (pc' := 2) [some _, some _, some _, none] rfl rfl rfl ?_
  refine zi_aload_n (pc' := 3) rfl rfl rfl ?_
  refine zi_iload_n (pc' := 4) rfl rfl rfl ?_
  refine zi_callV (d' := 1) (as := [_]) (pc' := 7) rfl rfl rfl rfl (Nat.lt_of_lt_of_le (by decide) hd) (s_M_into (Nat.le_refl _) h) (zi_ki (fun v1 g2 h => ?_))
  refine zi_istore_n (pc' := 8) [some _, some _, some _, some _] rfl rfl rfl ?_
  refine zi_wk (s_M_leastOfRound_l8 hd h (fun k13 g14 h => ?_)) (And.intro rfl (And.intro rfl (And.intro rfl (And.intro rfl trivial))))
  refine zi_iload_n (pc' := 30) rfl rfl rfl ?_
  exact zi_iret rfl rfl h
-- SpoutNewsModel.ends(II)I
noncomputable def w_M_ends_l30 (K62 : Int → Int → zi_M → Prop) (Q : Int → zi_M → Prop) : Nat → Int → Int → zi_M → Prop
  | 0, _, _, _ => False
  | f + 1, l3, l4, g => w_M_into l3 g (fun v8 g9 => (zi_r v8 ∧ ((v8 = (-1) → K62 l3 l4 g9) ∧ (¬ v8 = (-1) → w_M_isInRound l3 g9 (fun v12 g13 => ((¬ v12 = 0 → K62 l3 l4 g13) ∧ (v12 = 0 → w_M_into l3 g13 (fun v15 g16 => w_M_ends_l30 K62 Q f v15 (l4 + 1) g16))))))))
noncomputable def w_M_ends_b62 (l2 : Int) (l3 : Int) (l4 : Int) (g : zi_M) (Q : Int → zi_M → Prop) : Prop := (zi_r l2 ∧ ((¬ l2 = 1 → w_M_into l3 g (fun v24 g25 => (zi_r v24 ∧ ((¬ v24 = (-1) → w_M_leastOfRound l3 g25 (fun v28 g29 => Q v28 g29)) ∧ (v24 = (-1) → Q l3 g25))))) ∧ (l2 = 1 → Q l4 g)))
noncomputable def w_M_ends (l1 : Int) (l2 : Int) (g : zi_M) (Q : Int → zi_M → Prop) : Prop := (∀ g1, g1 = zi_u g 214 0 0 → w_M_isSpout l1 g1 (fun v2 g3 => ((v2 = 0 → Q (-1) g3) ∧ (¬ v2 = 0 → w_M_isIn l2 0 1 g3 (fun v5 g6 => ((¬ v5 = 0 → (∃ f33, w_M_ends_l30 (fun k20 k21 g22 => w_M_ends_b62 l2 k20 k21 g22 Q) Q f33 l1 0 g6)) ∧ (v5 = 0 → Q (-1) g6)))))))
set_option maxRecDepth 100000 in
theorem s_M_ends_l30_r {E : sx_E} {d : Nat} (hd : 3 ≤ d) {x2 : Int} {K62 : Int → Int → zi_M → Prop} {Q : Int → zi_M → Prop} (hK62 : ∀ (k3 : Int) (k4 : Int) (g : zi_M), K62 k3 k4 g → zi_W E d 276 62 [some (.ref 214), none, some (zi_i x2), some (zi_i k3), some (zi_i k4)] [] g (zi_Q Q)) : ∀ (f : Nat) {l3 : Int} {l4 : Int} {g : zi_M}, w_M_ends_l30 K62 Q f l3 l4 g → zi_W E d 276 30 [some (.ref 214), none, some (zi_i x2), some (zi_i l3), some (zi_i l4)] [] g (zi_Q Q)
  | 0, _, _, _, h => False.elim h
  | f + 1, l3, l4, g, h => by
    refine zi_aload_n (pc' := 31) rfl rfl rfl ?_
    refine zi_iload_n (pc' := 32) rfl rfl rfl ?_
    refine zi_callV (d' := 1) (as := [_]) (pc' := 35) rfl rfl rfl rfl (Nat.lt_of_lt_of_le (by decide) hd) (s_M_into (Nat.le_refl _) h) (zi_ki (fun v8 g9 h => ?_))
    refine zi_iconst (pc' := 36) rfl rfl ?_
    obtain ⟨o11, h⟩ := h
    refine zi_icmp_eq (x := 62) (pc' := 39) rfl rfl o11 (by decide) (fun c19 => ?_) (fun c19 => ?_)
    · replace h := h.1 c19
      exact zi_wk (hK62 _ _ _ h) (And.intro rfl (And.intro rfl (And.intro rfl (And.intro rfl trivial))))
    · replace h := h.2 c19
      refine zi_aload_n (pc' := 40) rfl rfl rfl ?_
      refine zi_iload_n (pc' := 41) rfl rfl rfl ?_
      refine zi_callV (d' := 2) (as := [_]) (pc' := 44) rfl rfl rfl rfl (Nat.lt_of_lt_of_le (by decide) hd) (s_M_isInRound (Nat.le_refl _) h) (zi_kb (fun v12 g13 b14 h => ?_))
      refine zi_if_ne (x := 62) (pc' := 47) rfl rfl (zi_r_bit b14)  (fun c18 => ?_) (fun c18 => ?_)
      · replace h := h.1 c18
        exact zi_wk (hK62 _ _ _ h) (And.intro rfl (And.intro rfl (And.intro rfl (And.intro rfl trivial))))
      · replace h := h.2 c18
        refine zi_aload_n (pc' := 48) rfl rfl rfl ?_
        refine zi_iload_n (pc' := 49) rfl rfl rfl ?_
        refine zi_callV (d' := 1) (as := [_]) (pc' := 52) rfl rfl rfl rfl (Nat.lt_of_lt_of_le (by decide) hd) (s_M_into (Nat.le_refl _) h) (zi_ki (fun v15 g16 h => ?_))
        refine zi_istore_n (pc' := 53) [some _, none, some _, some _, some _] rfl rfl rfl ?_
        refine zi_iload (pc' := 55) rfl rfl rfl ?_
        refine zi_iconst (pc' := 56) rfl rfl ?_
        refine zi_iadd (pc' := 57) rfl rfl ?_
        refine zi_istore (pc' := 59) [some _, none, some _, some _, some _] rfl rfl rfl ?_
        refine zi_goto (x := 30) rfl ?_
        exact zi_wk (s_M_ends_l30_r hd hK62 f h) (And.intro rfl (And.intro rfl (And.intro rfl (And.intro rfl trivial))))
set_option maxRecDepth 100000 in
theorem s_M_ends_l30 {E : sx_E} {d : Nat} (hd : 3 ≤ d) {x2 : Int} {K62 : Int → Int → zi_M → Prop} {Q : Int → zi_M → Prop} {l3 : Int} {l4 : Int} {g : zi_M} (h : ∃ f, w_M_ends_l30 K62 Q f l3 l4 g) (hK62 : ∀ (k3 : Int) (k4 : Int) (g : zi_M), K62 k3 k4 g → zi_W E d 276 62 [some (.ref 214), none, some (zi_i x2), some (zi_i k3), some (zi_i k4)] [] g (zi_Q Q)) : zi_W E d 276 30 [some (.ref 214), none, some (zi_i x2), some (zi_i l3), some (zi_i l4)] [] g (zi_Q Q) := by
  obtain ⟨f, h⟩ := h
  exact s_M_ends_l30_r hd hK62 f h
set_option maxRecDepth 100000 in
theorem s_M_ends_b62 {E : sx_E} {d : Nat} (hd : 3 ≤ d) {l2 : Int} {l3 : Int} {l4 : Int} {Q : Int → zi_M → Prop} {g : zi_M} (h : w_M_ends_b62 l2 l3 l4 g Q) : zi_W E d 276 62 [some (.ref 214), none, some (zi_i l2), some (zi_i l3), some (zi_i l4)] [] g (zi_Q Q) := by
  unfold w_M_ends_b62 at h
  refine zi_iload_n (pc' := 63) rfl rfl rfl ?_
  refine zi_iconst (pc' := 64) rfl rfl ?_
  obtain ⟨o23, h⟩ := h
  refine zi_icmp_ne (x := 72) (pc' := 67) rfl rfl o23 (by decide) (fun c32 => ?_) (fun c32 => ?_)
  · replace h := h.1 c32
    refine zi_aload_n (pc' := 73) rfl rfl rfl ?_
    refine zi_iload_n (pc' := 74) rfl rfl rfl ?_
    refine zi_callV (d' := 1) (as := [_]) (pc' := 77) rfl rfl rfl rfl (Nat.lt_of_lt_of_le (by decide) hd) (s_M_into (Nat.le_refl _) h) (zi_ki (fun v24 g25 h => ?_))
    refine zi_iconst (pc' := 78) rfl rfl ?_
    obtain ⟨o27, h⟩ := h
    refine zi_icmp_ne (x := 85) (pc' := 81) rfl rfl o27 (by decide) (fun c31 => ?_) (fun c31 => ?_)
    · replace h := h.1 c31
      refine zi_aload_n (pc' := 86) rfl rfl rfl ?_
      refine zi_iload_n (pc' := 87) rfl rfl rfl ?_
      refine zi_callV (d' := 2) (as := [_]) (pc' := 90) rfl rfl rfl rfl (Nat.lt_of_lt_of_le (by decide) hd) (s_M_leastOfRound (Nat.le_refl _) h) (zi_ki (fun v28 g29 h => ?_))
      exact zi_iret rfl rfl h
    · replace h := h.2 c31
      refine zi_iload_n (pc' := 82) rfl rfl rfl ?_
      refine zi_goto (x := 90) rfl ?_
      exact zi_iret rfl rfl h
  · replace h := h.2 c32
    refine zi_iload (pc' := 69) rfl rfl rfl ?_
    refine zi_goto (x := 90) rfl ?_
    exact zi_iret rfl rfl h
set_option maxRecDepth 100000 in
theorem s_M_ends {E : sx_E} {d : Nat} (hd : 3 ≤ d) {l1 : Int} {l2 : Int} {g : zi_M} {Q : Int → zi_M → Prop} (h : w_M_ends l1 l2 g Q) : zi_S E d 276 [.ref 214, zi_i l1, zi_i l2] g (zi_Q Q) := by
  refine zi_Sof jf_276 [some (.ref 214), some (zi_i l1), some (zi_i l2), none, none] rfl (And.intro rfl (And.intro rfl (And.intro rfl trivial))) ?_
  unfold w_M_ends at h
  refine zi_aload_n (pc' := 1) rfl rfl rfl ?_
  refine zi_iconst (pc' := 2) rfl rfl ?_
  refine zi_puti (pc' := 5) 0 rfl rfl rfl rfl rfl  ?_
  replace h := h _ rfl
  refine zi_aload_n (pc' := 6) rfl rfl rfl ?_
  refine zi_iload_n (pc' := 7) rfl rfl rfl ?_
  refine zi_callV (d' := 1) (as := [_]) (pc' := 10) rfl rfl rfl rfl (Nat.lt_of_lt_of_le (by decide) hd) (s_M_isSpout (Nat.le_refl _) h) (zi_kb (fun v2 g3 b4 h => ?_))
  refine zi_if_eq (x := 23) (pc' := 13) rfl rfl (zi_r_bit b4)  (fun c35 => ?_) (fun c35 => ?_)
  · replace h := h.1 c35
    refine zi_iconst (pc' := 24) rfl rfl ?_
    exact zi_iret rfl rfl h
  · replace h := h.2 c35
    refine zi_aload_n (pc' := 14) rfl rfl rfl ?_
    refine zi_iload_n (pc' := 15) rfl rfl rfl ?_
    refine zi_iconst (pc' := 16) rfl rfl ?_
    refine zi_iconst (pc' := 17) rfl rfl ?_
    refine zi_callV (d' := 1) (as := [_, _, _]) (pc' := 20) rfl rfl rfl rfl (Nat.lt_of_lt_of_le (by decide) hd) (s_M_isIn (Nat.le_refl _) h) (zi_kb (fun v5 g6 b7 h => ?_))
    refine zi_if_ne (x := 25) (pc' := 23) rfl rfl (zi_r_bit b7)  (fun c34 => ?_) (fun c34 => ?_)
    · replace h := h.1 c34
      refine zi_iload_n (pc' := 26) rfl rfl rfl ?_
      refine zi_istore_n (pc' := 27) [some _, some _, some _, some _, none] rfl rfl rfl ?_
      refine zi_iconst (pc' := 28) rfl rfl ?_
      refine zi_istore (pc' := 30) [some _, some _, some _, some _, some _] rfl rfl rfl ?_
      refine zi_wk (s_M_ends_l30 hd h (fun k20 k21 g22 h => ?_)) (And.intro rfl (And.intro rfl (And.intro rfl (And.intro rfl trivial))))
      exact zi_wk (s_M_ends_b62 hd h) (And.intro rfl (And.intro rfl (And.intro rfl (And.intro rfl trivial))))
    · replace h := h.2 c34
      refine zi_iconst (pc' := 24) rfl rfl ?_
      exact zi_iret rfl rfl h
-- SpoutNews$Thought.allEnds(LSpoutNews$World;LSpoutNews$Texts;)I
noncomputable def w_Thought_allEnds_l5 (K32 : Int → zi_M → Prop) (Q : Int → zi_M → Prop) : Nat → Int → Int → zi_M → Prop
  | 0, _, _, _ => False
  | f + 1, l3, l4, g => (zi_r l4 ∧ zi_r (g 2 8) ∧ (((g 2 8) ≤ l4 → K32 l3 g) ∧ (l4 < (g 2 8) → w_Thought_endOf l4 g (fun v3 g4 => w_Thought_allEnds_l5 K32 Q f (zi_or l3 (zi_shl 1 v3)) (l4 + 1) g4))))
noncomputable def w_Thought_allEnds (g : zi_M) (Q : Int → zi_M → Prop) : Prop := (∃ f9, w_Thought_allEnds_l5 (fun k7 g8 => Q k7 g8) Q f9 0 0 g)
set_option maxRecDepth 100000 in
theorem s_Thought_allEnds_l5_r {E : sx_E} {d : Nat} (hd : 5 ≤ d) {K32 : Int → zi_M → Prop} {Q : Int → zi_M → Prop} (hK32 : ∀ (k3 : Int) (g : zi_M), K32 k3 g → zi_W E d 131 32 [some (.ref 180), some (.ref 2), some (.ref 19), some (zi_i k3), none] [] g (zi_Q Q)) : ∀ (f : Nat) {l3 : Int} {l4 : Int} {g : zi_M}, w_Thought_allEnds_l5 K32 Q f l3 l4 g → zi_W E d 131 5 [some (.ref 180), some (.ref 2), some (.ref 19), some (zi_i l3), some (zi_i l4)] [] g (zi_Q Q)
  | 0, _, _, _, h => False.elim h
  | f + 1, l3, l4, g, h => by
    refine zi_iload (pc' := 7) rfl rfl rfl ?_
    refine zi_aload_n (pc' := 8) rfl rfl rfl ?_
    refine zi_geti (pc' := 11) 8 rfl rfl rfl rfl rfl rfl ?_
    obtain ⟨o1, o2, h⟩ := h
    refine zi_icmp_ge (x := 32) (pc' := 14) rfl rfl o1 o2 (fun c6 => ?_) (fun c6 => ?_)
    · replace h := h.1 c6
      exact zi_wk (hK32 _ _ h) (And.intro rfl (And.intro rfl (And.intro rfl (And.intro rfl trivial))))
    · replace h := h.2 c6
      refine zi_iload_n (pc' := 15) rfl rfl rfl ?_
      refine zi_iconst (pc' := 16) rfl rfl ?_
      refine zi_aload_n (pc' := 17) rfl rfl rfl ?_
      refine zi_aload_n (pc' := 18) rfl rfl rfl ?_
      refine zi_iload (pc' := 20) rfl rfl rfl ?_
      refine zi_callV (d' := 4) (as := [_, _]) (pc' := 23) rfl rfl rfl rfl (Nat.lt_of_lt_of_le (by decide) hd) (s_Thought_endOf (Nat.le_refl _) h) (zi_ki (fun v3 g4 h => ?_))
      refine zi_ishl (pc' := 24) rfl rfl ?_
      refine zi_ior (pc' := 25) rfl rfl ?_
      refine zi_istore_n (pc' := 26) [some _, some _, some _, some _, some _] rfl rfl rfl ?_
      refine zi_iinc (pc' := 29) [some _, some _, some _, some _, some _] rfl rfl rfl rfl ?_
      refine zi_goto (x := 5) rfl ?_
      exact zi_wk (s_Thought_allEnds_l5_r hd hK32 f h) (And.intro rfl (And.intro rfl (And.intro rfl (And.intro rfl (And.intro rfl trivial)))))
set_option maxRecDepth 100000 in
theorem s_Thought_allEnds_l5 {E : sx_E} {d : Nat} (hd : 5 ≤ d) {K32 : Int → zi_M → Prop} {Q : Int → zi_M → Prop} {l3 : Int} {l4 : Int} {g : zi_M} (h : ∃ f, w_Thought_allEnds_l5 K32 Q f l3 l4 g) (hK32 : ∀ (k3 : Int) (g : zi_M), K32 k3 g → zi_W E d 131 32 [some (.ref 180), some (.ref 2), some (.ref 19), some (zi_i k3), none] [] g (zi_Q Q)) : zi_W E d 131 5 [some (.ref 180), some (.ref 2), some (.ref 19), some (zi_i l3), some (zi_i l4)] [] g (zi_Q Q) := by
  obtain ⟨f, h⟩ := h
  exact s_Thought_allEnds_l5_r hd hK32 f h
set_option maxRecDepth 100000 in
theorem s_Thought_allEnds {E : sx_E} {d : Nat} (hd : 5 ≤ d) {g : zi_M} {Q : Int → zi_M → Prop} (h : w_Thought_allEnds g Q) : zi_S E d 131 [.ref 180, .ref 2, .ref 19] g (zi_Q Q) := by
  refine zi_Sof jf_131 [some (.ref 180), some (.ref 2), some (.ref 19), none, none] rfl (And.intro rfl (And.intro rfl (And.intro rfl trivial))) ?_
  unfold w_Thought_allEnds at h
  refine zi_iconst (pc' := 1) rfl rfl ?_
  refine zi_istore_n (pc' := 2) [some _, some _, some _, some _, none] rfl rfl rfl ?_
  refine zi_iconst (pc' := 3) rfl rfl ?_
  refine zi_istore (pc' := 5) [some _, some _, some _, some _, some _] rfl rfl rfl ?_
  refine zi_wk (s_Thought_allEnds_l5 hd h (fun k7 g8 h => ?_)) (And.intro rfl (And.intro rfl (And.intro rfl (And.intro rfl (And.intro rfl trivial)))))
  refine zi_iload_n (pc' := 33) rfl rfl rfl ?_
  exact zi_iret rfl rfl h
-- java/lang/Integer.bitCount(I)I
noncomputable def w_Integer_bitCount (l0 : Int) (g : zi_M) (Q : Int → zi_M → Prop) : Prop := (∀ y1, y1 = (zi_and (l0 - (zi_and (zi_ush l0 1) 1431655765)) 858993459) + (zi_and (zi_ush (l0 - (zi_and (zi_ush l0 1) 1431655765)) 2) 858993459) → (∀ y2, y2 = (zi_and (y1 + (zi_ush y1 4)) 252645135) + (zi_ush (zi_and (y1 + (zi_ush y1 4)) 252645135) 8) → Q (zi_and (y2 + (zi_ush y2 16)) 63) g))
set_option maxRecDepth 100000 in
theorem s_Integer_bitCount {E : sx_E} {d : Nat} (hd : 1 ≤ d) {l0 : Int} {g : zi_M} {Q : Int → zi_M → Prop} (h : w_Integer_bitCount l0 g Q) : zi_S E d 132 [zi_i l0] g (zi_Q Q) := by
  refine zi_Sof jf_132 [some (zi_i l0)] rfl (And.intro rfl trivial) ?_
  unfold w_Integer_bitCount at h
  refine zi_iload_n (pc' := 1) rfl rfl rfl ?_
  refine zi_iload_n (pc' := 2) rfl rfl rfl ?_
  refine zi_iconst (pc' := 3) rfl rfl ?_
  refine zi_iushr (pc' := 4) rfl rfl ?_
  refine zi_ldcw (v := 1431655765) (pc' := 7) rfl rfl (by decide +kernel) ?_
  refine zi_iand (pc' := 8) rfl rfl ?_
  refine zi_isub (pc' := 9) rfl rfl ?_
  refine zi_istore_n (pc' := 10) [some _] rfl rfl rfl ?_
  refine zi_iload_n (pc' := 11) rfl rfl rfl ?_
  refine zi_ldcw (v := 858993459) (pc' := 14) rfl rfl (by decide +kernel) ?_
  refine zi_iand (pc' := 15) rfl rfl ?_
  refine zi_iload_n (pc' := 16) rfl rfl rfl ?_
  refine zi_iconst (pc' := 17) rfl rfl ?_
  refine zi_iushr (pc' := 18) rfl rfl ?_
  refine zi_ldcw (v := 858993459) (pc' := 21) rfl rfl (by decide +kernel) ?_
  refine zi_iand (pc' := 22) rfl rfl ?_
  refine zi_iadd (pc' := 23) rfl rfl ?_
  refine zi_istore_n (pc' := 24) [some _] rfl rfl rfl ?_
  replace h := h _ rfl
  refine zi_iload_n (pc' := 25) rfl rfl rfl ?_
  refine zi_iload_n (pc' := 26) rfl rfl rfl ?_
  refine zi_iconst (pc' := 27) rfl rfl ?_
  refine zi_iushr (pc' := 28) rfl rfl ?_
  refine zi_iadd (pc' := 29) rfl rfl ?_
  refine zi_ldcw (v := 252645135) (pc' := 32) rfl rfl (by decide +kernel) ?_
  refine zi_iand (pc' := 33) rfl rfl ?_
  refine zi_istore_n (pc' := 34) [some _] rfl rfl rfl ?_
  refine zi_iload_n (pc' := 35) rfl rfl rfl ?_
  refine zi_iload_n (pc' := 36) rfl rfl rfl ?_
  refine zi_bipush (pc' := 38) rfl rfl (by decide) ?_
  refine zi_iushr (pc' := 39) rfl rfl ?_
  refine zi_iadd (pc' := 40) rfl rfl ?_
  refine zi_istore_n (pc' := 41) [some _] rfl rfl rfl ?_
  replace h := h _ rfl
  refine zi_iload_n (pc' := 42) rfl rfl rfl ?_
  refine zi_iload_n (pc' := 43) rfl rfl rfl ?_
  refine zi_bipush (pc' := 45) rfl rfl (by decide) ?_
  refine zi_iushr (pc' := 46) rfl rfl ?_
  refine zi_iadd (pc' := 47) rfl rfl ?_
  refine zi_istore_n (pc' := 48) [some _] rfl rfl rfl ?_
  refine zi_iload_n (pc' := 49) rfl rfl rfl ?_
  refine zi_bipush (pc' := 51) rfl rfl (by decide) ?_
  refine zi_iand (pc' := 52) rfl rfl ?_
  exact zi_iret rfl rfl h
-- SpoutNews.catches(I)I
noncomputable def w_S_catches_b11 (l1 : Int) (g : zi_M) (Q : Int → zi_M → Prop) : Prop := w_Thought_allEnds g (fun v2 g3 => (zi_r l1 ∧ ((¬ l1 = 0 → Q v2 g3) ∧ (l1 = 0 → w_Integer_bitCount v2 g3 (fun v6 g7 => Q v6 g7)))))
noncomputable def w_S_catches (l1 : Int) (g : zi_M) (Q : Int → zi_M → Prop) : Prop := (zi_r l1 ∧ ((l1 = 0 → w_S_catches_b11 l1 g Q) ∧ (¬ l1 = 0 → ((l1 = 1 → w_S_catches_b11 l1 g Q) ∧ (¬ l1 = 1 → Q (-1) g)))))
set_option maxRecDepth 100000 in
theorem s_S_catches_b11 {E : sx_E} {d : Nat} (hd : 6 ≤ d) {l1 : Int} {Q : Int → zi_M → Prop} {g : zi_M} (h : w_S_catches_b11 l1 g Q) : zi_W E d 130 11 [some (.ref 0), some (zi_i l1), none] [] g (zi_Q Q) := by
  unfold w_S_catches_b11 at h
  refine zi_aload_n (pc' := 12) rfl rfl rfl ?_
  refine zi_getr (pc' := 15) rfl rfl rfl rfl rfl ?_
  refine zi_aload_n (pc' := 16) rfl rfl rfl ?_
  refine zi_getr (pc' := 19) rfl rfl rfl rfl rfl ?_
  refine zi_getr (pc' := 22) rfl rfl rfl rfl rfl ?_
  refine zi_aload_n (pc' := 23) rfl rfl rfl ?_
  refine zi_getr (pc' := 26) rfl rfl rfl rfl rfl ?_
  refine zi_getr (pc' := 29) rfl rfl rfl rfl rfl ?_
  refine zi_callV (d' := 5) (as := [_, _]) (pc' := 32) rfl rfl rfl rfl (Nat.lt_of_lt_of_le (by decide) hd) (s_Thought_allEnds (Nat.le_refl _) h) (zi_ki (fun v2 g3 h => ?_))
  refine zi_istore_n (pc' := 33) [some _, some _, some _] rfl rfl rfl ?_
  refine zi_iload_n (pc' := 34) rfl rfl rfl ?_
  obtain ⟨o5, h⟩ := h
  refine zi_if_ne (x := 44) (pc' := 37) rfl rfl o5  (fun c9 => ?_) (fun c9 => ?_)
  · replace h := h.1 c9
    refine zi_iload_n (pc' := 45) rfl rfl rfl ?_
    exact zi_iret rfl rfl h
  · replace h := h.2 c9
    refine zi_iload_n (pc' := 38) rfl rfl rfl ?_
    refine zi_callS (d' := 1) (as := [_]) (pc' := 41) rfl rfl rfl (Nat.lt_of_lt_of_le (by decide) hd) (s_Integer_bitCount (Nat.le_refl _) h) (zi_ki (fun v6 g7 h => ?_))
    refine zi_goto (x := 45) rfl ?_
    exact zi_iret rfl rfl h
set_option maxRecDepth 100000 in
theorem s_S_catches {E : sx_E} {d : Nat} (hd : 6 ≤ d) {l1 : Int} {g : zi_M} {Q : Int → zi_M → Prop} (h : w_S_catches l1 g Q) : zi_S E d 130 [.ref 0, zi_i l1] g (zi_Q Q) := by
  refine zi_Sof jf_130 [some (.ref 0), some (zi_i l1), none] rfl (And.intro rfl (And.intro rfl trivial)) ?_
  unfold w_S_catches at h
  refine zi_iload_n (pc' := 1) rfl rfl rfl ?_
  obtain ⟨o1, h⟩ := h
  refine zi_if_eq (x := 11) (pc' := 4) rfl rfl o1  (fun c11 => ?_) (fun c11 => ?_)
  · replace h := h.1 c11
    exact zi_wk (s_S_catches_b11 hd h) (And.intro rfl (And.intro rfl trivial))
  · replace h := h.2 c11
    refine zi_iload_n (pc' := 5) rfl rfl rfl ?_
    refine zi_iconst (pc' := 6) rfl rfl ?_
    refine zi_icmp_eq (x := 11) (pc' := 9) rfl rfl o1 (by decide) (fun c10 => ?_) (fun c10 => ?_)
    · replace h := h.1 c10
      exact zi_wk (s_S_catches_b11 hd h) (And.intro rfl (And.intro rfl trivial))
    · replace h := h.2 c10
      refine zi_iconst (pc' := 10) rfl rfl ?_
      exact zi_iret rfl rfl h
-- SpoutNewsModel.onesOf(I)I
noncomputable def w_M_onesOf_l4 (K21 : Int → zi_M → Prop) (Q : Int → zi_M → Prop) : Nat → Int → Int → zi_M → Prop
  | 0, _, _, _ => False
  | f + 1, l2, l3, g => (zi_r l3 ∧ ((l3 = 0 → K21 l2 g) ∧ (¬ l3 = 0 → w_M_onesOf_l4 K21 Q f (l2 + 1) (zi_and l3 (l3 - 1)) g)))
noncomputable def w_M_onesOf (l1 : Int) (g : zi_M) (Q : Int → zi_M → Prop) : Prop := (∃ f5, w_M_onesOf_l4 (fun k3 g4 => Q k3 g4) Q f5 0 l1 g)
set_option maxRecDepth 100000 in
theorem s_M_onesOf_l4_r {E : sx_E} {d : Nat} (hd : 1 ≤ d) {K21 : Int → zi_M → Prop} {Q : Int → zi_M → Prop} (hK21 : ∀ (k2 : Int) (g : zi_M), K21 k2 g → zi_W E d 280 21 [none, none, some (zi_i k2), none] [] g (zi_Q Q)) : ∀ (f : Nat) {l2 : Int} {l3 : Int} {g : zi_M}, w_M_onesOf_l4 K21 Q f l2 l3 g → zi_W E d 280 4 [none, none, some (zi_i l2), some (zi_i l3)] [] g (zi_Q Q)
  | 0, _, _, _, h => False.elim h
  | f + 1, l2, l3, g, h => by
    refine zi_iload_n (pc' := 5) rfl rfl rfl ?_
    obtain ⟨o1, h⟩ := h
    refine zi_if_eq (x := 21) (pc' := 8) rfl rfl o1  (fun c2 => ?_) (fun c2 => ?_)
    · replace h := h.1 c2
      exact zi_wk (hK21 _ _ h) (And.intro rfl trivial)
    · replace h := h.2 c2
      refine zi_iload_n (pc' := 9) rfl rfl rfl ?_
      refine zi_iconst (pc' := 10) rfl rfl ?_
      refine zi_iadd (pc' := 11) rfl rfl ?_
      refine zi_istore_n (pc' := 12) [none, none, some _, some _] rfl rfl rfl ?_
      refine zi_iload_n (pc' := 13) rfl rfl rfl ?_
      refine zi_iload_n (pc' := 14) rfl rfl rfl ?_
      refine zi_iconst (pc' := 15) rfl rfl ?_
      refine zi_isub (pc' := 16) rfl rfl ?_
      refine zi_iand (pc' := 17) rfl rfl ?_
      refine zi_istore_n (pc' := 18) [none, none, some _, some _] rfl rfl rfl ?_
      refine zi_goto (x := 4) rfl ?_
      exact zi_wk (s_M_onesOf_l4_r hd hK21 f h) (And.intro rfl (And.intro rfl trivial))
set_option maxRecDepth 100000 in
theorem s_M_onesOf_l4 {E : sx_E} {d : Nat} (hd : 1 ≤ d) {K21 : Int → zi_M → Prop} {Q : Int → zi_M → Prop} {l2 : Int} {l3 : Int} {g : zi_M} (h : ∃ f, w_M_onesOf_l4 K21 Q f l2 l3 g) (hK21 : ∀ (k2 : Int) (g : zi_M), K21 k2 g → zi_W E d 280 21 [none, none, some (zi_i k2), none] [] g (zi_Q Q)) : zi_W E d 280 4 [none, none, some (zi_i l2), some (zi_i l3)] [] g (zi_Q Q) := by
  obtain ⟨f, h⟩ := h
  exact s_M_onesOf_l4_r hd hK21 f h
set_option maxRecDepth 100000 in
theorem s_M_onesOf {E : sx_E} {d : Nat} (hd : 1 ≤ d) {l1 : Int} {g : zi_M} {Q : Int → zi_M → Prop} (h : w_M_onesOf l1 g Q) : zi_S E d 280 [.ref 214, zi_i l1] g (zi_Q Q) := by
  refine zi_Sof jf_280 [some (.ref 214), some (zi_i l1), none, none] rfl (And.intro rfl (And.intro rfl trivial)) ?_
  unfold w_M_onesOf at h
  refine zi_iconst (pc' := 1) rfl rfl ?_
  refine zi_istore_n (pc' := 2) [some _, some _, some _, none] rfl rfl rfl ?_
  refine zi_iload_n (pc' := 3) rfl rfl rfl ?_
  refine zi_istore_n (pc' := 4) [some _, some _, some _, some _] rfl rfl rfl ?_
  refine zi_wk (s_M_onesOf_l4 hd h (fun k3 g4 h => ?_)) (And.intro rfl (And.intro rfl trivial))
  refine zi_iload_n (pc' := 22) rfl rfl rfl ?_
  exact zi_iret rfl rfl h
-- SpoutNewsModel.catchesAll(I)Z
noncomputable def w_M_catchesAll_l2 (l1 : Int) (K20 : zi_M → Prop) (K28 : zi_M → Prop) (Q : Int → zi_M → Prop) : Nat → Int → zi_M → Prop
  | 0, _, _ => False
  | f + 1, l2, g => (zi_r l2 ∧ zi_r (g 214 6) ∧ (((g 214 6) ≤ l2 → K28 g) ∧ (l2 < (g 214 6) → w_M_passedFrom l2 g (fun v3 g4 => ((¬ (zi_and v3 l1) = 0 → w_M_catchesAll_l2 l1 K20 K28 Q f (l2 + 1) g4) ∧ ((zi_and v3 l1) = 0 → K20 g4))))))
noncomputable def w_M_catchesAll (l1 : Int) (g : zi_M) (Q : Int → zi_M → Prop) : Prop := (∃ f10, w_M_catchesAll_l2 l1 (fun g8 => Q 0 g8) (fun g9 => Q 1 g9) Q f10 0 g)
set_option maxRecDepth 100000 in
theorem s_M_catchesAll_l2_r {E : sx_E} {d : Nat} (hd : 3 ≤ d) {l1 : Int} {K20 : zi_M → Prop} {K28 : zi_M → Prop} {Q : Int → zi_M → Prop} (hK20 : ∀ (g : zi_M), K20 g → zi_W E d 281 20 [some (.ref 214), some (zi_i l1), none] [] g (zi_Qb Q)) (hK28 : ∀ (g : zi_M), K28 g → zi_W E d 281 28 [some (.ref 214), some (zi_i l1), none] [] g (zi_Qb Q)) : ∀ (f : Nat) {l2 : Int} {g : zi_M}, w_M_catchesAll_l2 l1 K20 K28 Q f l2 g → zi_W E d 281 2 [some (.ref 214), some (zi_i l1), some (zi_i l2)] [] g (zi_Qb Q)
  | 0, _, _, h => False.elim h
  | f + 1, l2, g, h => by
    refine zi_iload_n (pc' := 3) rfl rfl rfl ?_
    refine zi_aload_n (pc' := 4) rfl rfl rfl ?_
    refine zi_geti (pc' := 7) 6 rfl rfl rfl rfl rfl rfl ?_
    obtain ⟨o1, o2, h⟩ := h
    refine zi_icmp_ge (x := 28) (pc' := 10) rfl rfl o1 o2 (fun c7 => ?_) (fun c7 => ?_)
    · replace h := h.1 c7
      exact zi_wk (hK28 _ h) (And.intro rfl (And.intro rfl trivial))
    · replace h := h.2 c7
      refine zi_aload_n (pc' := 11) rfl rfl rfl ?_
      refine zi_iload_n (pc' := 12) rfl rfl rfl ?_
      refine zi_callV (d' := 2) (as := [_]) (pc' := 15) rfl rfl rfl rfl (Nat.lt_of_lt_of_le (by decide) hd) (s_M_passedFrom (Nat.le_refl _) h) (zi_ki (fun v3 g4 h => ?_))
      refine zi_iload_n (pc' := 16) rfl rfl rfl ?_
      refine zi_iand (pc' := 17) rfl rfl ?_
      refine zi_if_ne (x := 22) (pc' := 20) rfl rfl (zi_r_and _ _)  (fun c6 => ?_) (fun c6 => ?_)
      · replace h := h.1 c6
        refine zi_iinc (pc' := 25) [some _, some _, some _] rfl rfl rfl rfl ?_
        refine zi_goto (x := 2) rfl ?_
        exact zi_wk (s_M_catchesAll_l2_r hd hK20 hK28 f h) (And.intro rfl (And.intro rfl (And.intro rfl trivial)))
      · replace h := h.2 c6
        exact zi_wk (hK20 _ h) (And.intro rfl (And.intro rfl trivial))
set_option maxRecDepth 100000 in
theorem s_M_catchesAll_l2 {E : sx_E} {d : Nat} (hd : 3 ≤ d) {l1 : Int} {K20 : zi_M → Prop} {K28 : zi_M → Prop} {Q : Int → zi_M → Prop} {l2 : Int} {g : zi_M} (h : ∃ f, w_M_catchesAll_l2 l1 K20 K28 Q f l2 g) (hK20 : ∀ (g : zi_M), K20 g → zi_W E d 281 20 [some (.ref 214), some (zi_i l1), none] [] g (zi_Qb Q)) (hK28 : ∀ (g : zi_M), K28 g → zi_W E d 281 28 [some (.ref 214), some (zi_i l1), none] [] g (zi_Qb Q)) : zi_W E d 281 2 [some (.ref 214), some (zi_i l1), some (zi_i l2)] [] g (zi_Qb Q) := by
  obtain ⟨f, h⟩ := h
  exact s_M_catchesAll_l2_r hd hK20 hK28 f h
set_option maxRecDepth 100000 in
theorem s_M_catchesAll {E : sx_E} {d : Nat} (hd : 3 ≤ d) {l1 : Int} {g : zi_M} {Q : Int → zi_M → Prop} (h : w_M_catchesAll l1 g Q) : zi_S E d 281 [.ref 214, zi_i l1] g (zi_Qb Q) := by
  refine zi_Sof jf_281 [some (.ref 214), some (zi_i l1), none] rfl (And.intro rfl (And.intro rfl trivial)) ?_
  unfold w_M_catchesAll at h
  refine zi_iconst (pc' := 1) rfl rfl ?_
  refine zi_istore_n (pc' := 2) [some _, some _, some _] rfl rfl rfl ?_
  refine zi_wk (s_M_catchesAll_l2 hd h (fun g8 h => ?_) (fun g9 h => ?_)) (And.intro rfl (And.intro rfl (And.intro rfl trivial)))
  · refine zi_iconst (pc' := 21) rfl rfl ?_
    exact zi_zret rfl rfl (Or.inl rfl) h
  · refine zi_iconst (pc' := 29) rfl rfl ?_
    exact zi_zret rfl rfl (Or.inr rfl) h
-- SpoutNewsModel.catches(I)I
noncomputable def w_M_catches_l28 (K67 : Int → zi_M → Prop) (Q : Int → zi_M → Prop) : Nat → Int → Int → zi_M → Prop
  | 0, _, _, _ => False
  | f + 1, l2, l3, g => (zi_r l3 ∧ (((zi_shl 1 (g 214 6)) ≤ l3 → K67 l2 g) ∧ (l3 < (zi_shl 1 (g 214 6)) → w_M_onesOf l3 g (fun v6 g7 => w_M_onesOf l2 g7 (fun v9 g10 => (zi_r v6 ∧ zi_r v9 ∧ ((v9 ≤ v6 → w_M_catches_l28 K67 Q f l2 (l3 + 1) g10) ∧ (v6 < v9 → w_M_catchesAll l3 g10 (fun v14 g15 => ((v14 = 0 → w_M_catches_l28 K67 Q f l2 (l3 + 1) g15) ∧ (¬ v14 = 0 → w_M_catches_l28 K67 Q f l3 (l3 + 1) g15)))))))))))
noncomputable def w_M_catches (l1 : Int) (g : zi_M) (Q : Int → zi_M → Prop) : Prop := (∀ g1, g1 = zi_u g 214 0 0 → w_M_isIn l1 0 1 g1 (fun v2 g3 => ((¬ v2 = 0 → (∃ f27, w_M_catches_l28 (fun k20 g21 => (zi_r l1 ∧ ((¬ l1 = 0 → Q k20 g21) ∧ (l1 = 0 → w_M_onesOf k20 g21 (fun v23 g24 => Q v23 g24))))) Q f27 ((zi_shl 1 (g3 214 6)) - 1) 0 g3)) ∧ (v2 = 0 → Q (-1) g3))))
set_option maxRecDepth 100000 in
theorem s_M_catches_l28_r {E : sx_E} {d : Nat} (hd : 4 ≤ d) {x1 : Int} {K67 : Int → zi_M → Prop} {Q : Int → zi_M → Prop} (hK67 : ∀ (k2 : Int) (g : zi_M), K67 k2 g → zi_W E d 279 67 [some (.ref 214), some (zi_i x1), some (zi_i k2), none] [] g (zi_Q Q)) : ∀ (f : Nat) {l2 : Int} {l3 : Int} {g : zi_M}, w_M_catches_l28 K67 Q f l2 l3 g → zi_W E d 279 28 [some (.ref 214), some (zi_i x1), some (zi_i l2), some (zi_i l3)] [] g (zi_Q Q)
  | 0, _, _, _, h => False.elim h
  | f + 1, l2, l3, g, h => by
    refine zi_iload_n (pc' := 29) rfl rfl rfl ?_
    refine zi_iconst (pc' := 30) rfl rfl ?_
    refine zi_aload_n (pc' := 31) rfl rfl rfl ?_
    refine zi_geti (pc' := 34) 6 rfl rfl rfl rfl rfl rfl ?_
    refine zi_ishl (pc' := 35) rfl rfl ?_
    obtain ⟨o5, h⟩ := h
    refine zi_icmp_ge (x := 67) (pc' := 38) rfl rfl o5 (zi_r_shl _ _) (fun c19 => ?_) (fun c19 => ?_)
    · replace h := h.1 c19
      exact zi_wk (hK67 _ _ h) (And.intro rfl (And.intro rfl (And.intro rfl trivial)))
    · replace h := h.2 c19
      refine zi_aload_n (pc' := 39) rfl rfl rfl ?_
      refine zi_iload_n (pc' := 40) rfl rfl rfl ?_
      refine zi_callV (d' := 1) (as := [_]) (pc' := 43) rfl rfl rfl rfl (Nat.lt_of_lt_of_le (by decide) hd) (s_M_onesOf (Nat.le_refl _) h) (zi_ki (fun v6 g7 h => ?_))
      refine zi_aload_n (pc' := 44) rfl rfl rfl ?_
      refine zi_iload_n (pc' := 45) rfl rfl rfl ?_
      refine zi_callV (d' := 1) (as := [_]) (pc' := 48) rfl rfl rfl rfl (Nat.lt_of_lt_of_le (by decide) hd) (s_M_onesOf (Nat.le_refl _) h) (zi_ki (fun v9 g10 h => ?_))
      obtain ⟨o12, o13, h⟩ := h
      refine zi_icmp_ge (x := 61) (pc' := 51) rfl rfl o12 o13 (fun c18 => ?_) (fun c18 => ?_)
      · replace h := h.1 c18
        refine zi_iinc (pc' := 64) [some _, some _, some _, some _] rfl rfl rfl rfl ?_
        refine zi_goto (x := 28) rfl ?_
        exact zi_wk (s_M_catches_l28_r hd hK67 f h) (And.intro rfl (And.intro rfl (And.intro rfl (And.intro rfl trivial))))
      · replace h := h.2 c18
        refine zi_aload_n (pc' := 52) rfl rfl rfl ?_
        refine zi_iload_n (pc' := 53) rfl rfl rfl ?_
        refine zi_callV (d' := 3) (as := [_]) (pc' := 56) rfl rfl rfl rfl (Nat.lt_of_lt_of_le (by decide) hd) (s_M_catchesAll (Nat.le_refl _) h) (zi_kb (fun v14 g15 b16 h => ?_))
        refine zi_if_eq (x := 61) (pc' := 59) rfl rfl (zi_r_bit b16)  (fun c17 => ?_) (fun c17 => ?_)
        · replace h := h.1 c17
          refine zi_iinc (pc' := 64) [some _, some _, some _, some _] rfl rfl rfl rfl ?_
          refine zi_goto (x := 28) rfl ?_
          exact zi_wk (s_M_catches_l28_r hd hK67 f h) (And.intro rfl (And.intro rfl (And.intro rfl (And.intro rfl trivial))))
        · replace h := h.2 c17
          refine zi_iload_n (pc' := 60) rfl rfl rfl ?_
          refine zi_istore_n (pc' := 61) [some _, some _, some _, some _] rfl rfl rfl ?_
          refine zi_iinc (pc' := 64) [some _, some _, some _, some _] rfl rfl rfl rfl ?_
          refine zi_goto (x := 28) rfl ?_
          exact zi_wk (s_M_catches_l28_r hd hK67 f h) (And.intro rfl (And.intro rfl (And.intro rfl (And.intro rfl trivial))))
set_option maxRecDepth 100000 in
theorem s_M_catches_l28 {E : sx_E} {d : Nat} (hd : 4 ≤ d) {x1 : Int} {K67 : Int → zi_M → Prop} {Q : Int → zi_M → Prop} {l2 : Int} {l3 : Int} {g : zi_M} (h : ∃ f, w_M_catches_l28 K67 Q f l2 l3 g) (hK67 : ∀ (k2 : Int) (g : zi_M), K67 k2 g → zi_W E d 279 67 [some (.ref 214), some (zi_i x1), some (zi_i k2), none] [] g (zi_Q Q)) : zi_W E d 279 28 [some (.ref 214), some (zi_i x1), some (zi_i l2), some (zi_i l3)] [] g (zi_Q Q) := by
  obtain ⟨f, h⟩ := h
  exact s_M_catches_l28_r hd hK67 f h
set_option maxRecDepth 100000 in
theorem s_M_catches {E : sx_E} {d : Nat} (hd : 4 ≤ d) {l1 : Int} {g : zi_M} {Q : Int → zi_M → Prop} (h : w_M_catches l1 g Q) : zi_S E d 279 [.ref 214, zi_i l1] g (zi_Q Q) := by
  refine zi_Sof jf_279 [some (.ref 214), some (zi_i l1), none, none] rfl (And.intro rfl (And.intro rfl trivial)) ?_
  unfold w_M_catches at h
  refine zi_aload_n (pc' := 1) rfl rfl rfl ?_
  refine zi_iconst (pc' := 2) rfl rfl ?_
  refine zi_puti (pc' := 5) 0 rfl rfl rfl rfl rfl  ?_
  replace h := h _ rfl
  refine zi_aload_n (pc' := 6) rfl rfl rfl ?_
  refine zi_iload_n (pc' := 7) rfl rfl rfl ?_
  refine zi_iconst (pc' := 8) rfl rfl ?_
  refine zi_iconst (pc' := 9) rfl rfl ?_
  refine zi_callV (d' := 1) (as := [_, _, _]) (pc' := 12) rfl rfl rfl rfl (Nat.lt_of_lt_of_le (by decide) hd) (s_M_isIn (Nat.le_refl _) h) (zi_kb (fun v2 g3 b4 h => ?_))
  refine zi_if_ne (x := 17) (pc' := 15) rfl rfl (zi_r_bit b4)  (fun c28 => ?_) (fun c28 => ?_)
  · replace h := h.1 c28
    refine zi_iconst (pc' := 18) rfl rfl ?_
    refine zi_aload_n (pc' := 19) rfl rfl rfl ?_
    refine zi_geti (pc' := 22) 6 rfl rfl rfl rfl rfl rfl ?_
    refine zi_ishl (pc' := 23) rfl rfl ?_
    refine zi_iconst (pc' := 24) rfl rfl ?_
    refine zi_isub (pc' := 25) rfl rfl ?_
    refine zi_istore_n (pc' := 26) [some _, some _, some _, none] rfl rfl rfl ?_
    refine zi_iconst (pc' := 27) rfl rfl ?_
    refine zi_istore_n (pc' := 28) [some _, some _, some _, some _] rfl rfl rfl ?_
    refine zi_wk (s_M_catches_l28 hd h (fun k20 g21 h => ?_)) (And.intro rfl (And.intro rfl (And.intro rfl (And.intro rfl trivial))))
    refine zi_iload_n (pc' := 68) rfl rfl rfl ?_
    obtain ⟨o22, h⟩ := h
    refine zi_if_ne (x := 79) (pc' := 71) rfl rfl o22  (fun c26 => ?_) (fun c26 => ?_)
    · replace h := h.1 c26
      refine zi_iload_n (pc' := 80) rfl rfl rfl ?_
      exact zi_iret rfl rfl h
    · replace h := h.2 c26
      refine zi_aload_n (pc' := 72) rfl rfl rfl ?_
      refine zi_iload_n (pc' := 73) rfl rfl rfl ?_
      refine zi_callV (d' := 1) (as := [_]) (pc' := 76) rfl rfl rfl rfl (Nat.lt_of_lt_of_le (by decide) hd) (s_M_onesOf (Nat.le_refl _) h) (zi_ki (fun v23 g24 h => ?_))
      refine zi_goto (x := 80) rfl ?_
      exact zi_iret rfl rfl h
  · replace h := h.2 c28
    refine zi_iconst (pc' := 16) rfl rfl ?_
    exact zi_iret rfl rfl h
-- SpoutNews.seat(II)I
noncomputable def w_S_seat (l1 : Int) (l2 : Int) (g : zi_M) (Q : Int → zi_M → Prop) : Prop := (zi_r l1 ∧ ((¬ l1 = (-1) → w_World_isSitter l1 g (fun v2 g3 => ((v2 = 0 → Q (-1) g3) ∧ (¬ v2 = 0 → w_World_isSpout 2 l2 g3 (fun v5 g6 => ((v5 = 0 → Q (-1) g6) ∧ (¬ v5 = 0 → (zi_r (g6 36 2) ∧ (((g6 36 2) < 12 → ((0 ≤ (g6 36 2) ∧ (g6 36 2) < 12) ∧ (∀ g10, g10 = zi_u g6 37 (g6 36 2) l1 → ((0 ≤ (g10 36 2) ∧ (g10 36 2) < 12) ∧ (∀ g12, g12 = zi_u g10 38 (g10 36 2) l2 → (∀ g13, g13 = zi_u g12 36 2 ((g12 36 2) + 1) → Q (g13 36 2) g13)))))) ∧ (12 ≤ (g6 36 2) → Q (-1) g6)))))))))) ∧ (l1 = (-1) → (∀ g17, g17 = zi_u g 36 2 0 → Q 0 g17))))
set_option maxRecDepth 100000 in
theorem s_S_seat {E : sx_E} {d : Nat} (hd : 2 ≤ d) {l1 : Int} {l2 : Int} {g : zi_M} {Q : Int → zi_M → Prop} (h : w_S_seat l1 l2 g Q) : zi_S E d 133 [.ref 0, zi_i l1, zi_i l2] g (zi_Q Q) := by
  refine zi_Sof jf_133 [some (.ref 0), some (zi_i l1), some (zi_i l2), none] rfl (And.intro rfl (And.intro rfl (And.intro rfl trivial))) ?_
  unfold w_S_seat at h
  refine zi_aload_n (pc' := 1) rfl rfl rfl ?_
  refine zi_getr (pc' := 4) rfl rfl rfl rfl rfl ?_
  refine zi_getr (pc' := 7) rfl rfl rfl rfl rfl ?_
  refine zi_astore_n (pc' := 8) [some _, some _, some _, some _] rfl rfl rfl ?_
  refine zi_iload_n (pc' := 9) rfl rfl rfl ?_
  refine zi_iconst (pc' := 10) rfl rfl ?_
  obtain ⟨o1, h⟩ := h
  refine zi_icmp_ne (x := 20) (pc' := 13) rfl rfl o1 (by decide) (fun c18 => ?_) (fun c18 => ?_)
  · replace h := h.1 c18
    refine zi_aload_n (pc' := 21) rfl rfl rfl ?_
    refine zi_getr (pc' := 24) rfl rfl rfl rfl rfl ?_
    refine zi_getr (pc' := 27) rfl rfl rfl rfl rfl ?_
    refine zi_iload_n (pc' := 28) rfl rfl rfl ?_
    refine zi_callV (d' := 1) (as := [_]) (pc' := 31) rfl rfl rfl rfl (Nat.lt_of_lt_of_le (by decide) hd) (s_World_isSitter (Nat.le_refl _) h) (zi_kb (fun v2 g3 b4 h => ?_))
    refine zi_if_eq (x := 57) (pc' := 34) rfl rfl (zi_r_bit b4)  (fun c16 => ?_) (fun c16 => ?_)
    · replace h := h.1 c16
      refine zi_iconst (pc' := 58) rfl rfl ?_
      exact zi_iret rfl rfl h
    · replace h := h.2 c16
      refine zi_aload_n (pc' := 35) rfl rfl rfl ?_
      refine zi_getr (pc' := 38) rfl rfl rfl rfl rfl ?_
      refine zi_getr (pc' := 41) rfl rfl rfl rfl rfl ?_
      refine zi_iload_n (pc' := 42) rfl rfl rfl ?_
      refine zi_callV (d' := 1) (as := [_]) (pc' := 45) rfl rfl rfl rfl (Nat.lt_of_lt_of_le (by decide) hd) (s_World_isSpout (Nat.le_refl _) rfl h) (zi_kb (fun v5 g6 b7 h => ?_))
      refine zi_if_eq (x := 57) (pc' := 48) rfl rfl (zi_r_bit b7)  (fun c15 => ?_) (fun c15 => ?_)
      · replace h := h.1 c15
        refine zi_iconst (pc' := 58) rfl rfl ?_
        exact zi_iret rfl rfl h
      · replace h := h.2 c15
        refine zi_aload_n (pc' := 49) rfl rfl rfl ?_
        refine zi_geti (pc' := 52) 2 rfl rfl rfl rfl rfl rfl ?_
        refine zi_bipush (pc' := 54) rfl rfl (by decide) ?_
        obtain ⟨o8, h⟩ := h
        refine zi_icmp_lt (x := 59) (pc' := 57) rfl rfl o8 (by decide) (fun c14 => ?_) (fun c14 => ?_)
        · replace h := h.1 c14
          refine zi_aload_n (pc' := 60) rfl rfl rfl ?_
          refine zi_getr (pc' := 63) rfl rfl rfl rfl rfl ?_
          refine zi_aload_n (pc' := 64) rfl rfl rfl ?_
          refine zi_geti (pc' := 67) 2 rfl rfl rfl rfl rfl rfl ?_
          refine zi_iload_n (pc' := 68) rfl rfl rfl ?_
          obtain ⟨o9, h⟩ := h
          refine zi_iast (pc' := 69) rfl rfl rfl o9 ?_
          replace h := h _ rfl
          refine zi_aload_n (pc' := 70) rfl rfl rfl ?_
          refine zi_getr (pc' := 73) rfl rfl rfl rfl rfl ?_
          refine zi_aload_n (pc' := 74) rfl rfl rfl ?_
          refine zi_geti (pc' := 77) 2 rfl rfl rfl rfl rfl rfl ?_
          refine zi_iload_n (pc' := 78) rfl rfl rfl ?_
          obtain ⟨o11, h⟩ := h
          refine zi_iast (pc' := 79) rfl rfl rfl o11 ?_
          replace h := h _ rfl
          refine zi_aload_n (pc' := 80) rfl rfl rfl ?_
          refine zi_dup (pc' := 81) rfl rfl rfl ?_
          refine zi_geti (pc' := 84) 2 rfl rfl rfl rfl rfl rfl ?_
          refine zi_iconst (pc' := 85) rfl rfl ?_
          refine zi_iadd (pc' := 86) rfl rfl ?_
          refine zi_puti (pc' := 89) 2 rfl rfl rfl rfl rfl  ?_
          replace h := h _ rfl
          refine zi_aload_n (pc' := 90) rfl rfl rfl ?_
          refine zi_geti (pc' := 93) 2 rfl rfl rfl rfl rfl rfl ?_
          exact zi_iret rfl rfl h
        · replace h := h.2 c14
          refine zi_iconst (pc' := 58) rfl rfl ?_
          exact zi_iret rfl rfl h
  · replace h := h.2 c18
    refine zi_aload_n (pc' := 14) rfl rfl rfl ?_
    refine zi_iconst (pc' := 15) rfl rfl ?_
    refine zi_puti (pc' := 18) 2 rfl rfl rfl rfl rfl  ?_
    replace h := h _ rfl
    refine zi_iconst (pc' := 19) rfl rfl ?_
    exact zi_iret rfl rfl h
-- SpoutNewsModel.seat(II)I
noncomputable def w_M_seat_l17 (K36 : zi_M → Prop) (Q : Int → zi_M → Prop) : Nat → Int → zi_M → Prop
  | 0, _, _ => False
  | f + 1, l3, g => (zi_r l3 ∧ ((8 ≤ l3 → K36 g) ∧ (l3 < 8 → ((0 ≤ l3 ∧ l3 < 8) ∧ (∀ g21, g21 = zi_u g 239 l3 0 → w_M_seat_l17 K36 Q f (l3 + 1) g21)))))
noncomputable def w_M_seat (l1 : Int) (l2 : Int) (g : zi_M) (Q : Int → zi_M → Prop) : Prop := (∀ g1, g1 = zi_u g 214 0 0 → (zi_r l1 ∧ ((¬ l1 = (-1) → w_M_isSitter l1 g1 (fun v3 g4 => ((v3 = 0 → Q (-1) g4) ∧ (¬ v3 = 0 → w_M_isSpout l2 g4 (fun v6 g7 => ((v6 = 0 → Q (-1) g7) ∧ (¬ v6 = 0 → (zi_r (g7 214 46) ∧ ((¬ (g7 214 46) = 12 → ((0 ≤ l1 ∧ l1 < 8) ∧ (∀ g11, g11 = zi_u g7 239 l1 (zi_or (g7 239 l1) (zi_shl 1 l2)) → ((0 ≤ (g11 214 46) ∧ (g11 214 46) < 12) ∧ (∀ g13, g13 = zi_u g11 240 (g11 214 46) ((10 * l1) + l2) → (∀ g14, g14 = zi_u g13 214 46 ((g13 214 46) + 1) → Q (g14 214 46) g14)))))) ∧ ((g7 214 46) = 12 → Q (-1) g7)))))))))) ∧ (l1 = (-1) → (∀ g18, g18 = zi_u g1 214 46 0 → (∃ f24, w_M_seat_l17 (fun g23 => Q 0 g23) Q f24 0 g18))))))
set_option maxRecDepth 100000 in
theorem s_M_seat_l17_r {E : sx_E} {d : Nat} (hd : 2 ≤ d) {K36 : zi_M → Prop} {Q : Int → zi_M → Prop} (hK36 : ∀ (g : zi_M), K36 g → zi_W E d 282 36 [some (.ref 214), none, none, none] [] g (zi_Q Q)) : ∀ (f : Nat) {l3 : Int} {g : zi_M}, w_M_seat_l17 K36 Q f l3 g → zi_W E d 282 17 [some (.ref 214), none, none, some (zi_i l3)] [] g (zi_Q Q)
  | 0, _, _, h => False.elim h
  | f + 1, l3, g, h => by
    refine zi_iload_n (pc' := 18) rfl rfl rfl ?_
    refine zi_bipush (pc' := 20) rfl rfl (by decide) ?_
    obtain ⟨o19, h⟩ := h
    refine zi_icmp_ge (x := 36) (pc' := 23) rfl rfl o19 (by decide) (fun c22 => ?_) (fun c22 => ?_)
    · replace h := h.1 c22
      exact zi_wk (hK36 _ h) (And.intro rfl trivial)
    · replace h := h.2 c22
      refine zi_aload_n (pc' := 24) rfl rfl rfl ?_
      refine zi_getr (pc' := 27) rfl rfl rfl rfl rfl ?_
      refine zi_iload_n (pc' := 28) rfl rfl rfl ?_
      refine zi_iconst (pc' := 29) rfl rfl ?_
      obtain ⟨o20, h⟩ := h
      refine zi_iast (pc' := 30) rfl rfl rfl o20 ?_
      replace h := h _ rfl
      refine zi_iinc (pc' := 33) [some _, none, none, some _] rfl rfl rfl rfl ?_
      refine zi_goto (x := 17) rfl ?_
      exact zi_wk (s_M_seat_l17_r hd hK36 f h) (And.intro rfl (And.intro rfl trivial))
set_option maxRecDepth 100000 in
theorem s_M_seat_l17 {E : sx_E} {d : Nat} (hd : 2 ≤ d) {K36 : zi_M → Prop} {Q : Int → zi_M → Prop} {l3 : Int} {g : zi_M} (h : ∃ f, w_M_seat_l17 K36 Q f l3 g) (hK36 : ∀ (g : zi_M), K36 g → zi_W E d 282 36 [some (.ref 214), none, none, none] [] g (zi_Q Q)) : zi_W E d 282 17 [some (.ref 214), none, none, some (zi_i l3)] [] g (zi_Q Q) := by
  obtain ⟨f, h⟩ := h
  exact s_M_seat_l17_r hd hK36 f h
set_option maxRecDepth 100000 in
theorem s_M_seat {E : sx_E} {d : Nat} (hd : 2 ≤ d) {l1 : Int} {l2 : Int} {g : zi_M} {Q : Int → zi_M → Prop} (h : w_M_seat l1 l2 g Q) : zi_S E d 282 [.ref 214, zi_i l1, zi_i l2] g (zi_Q Q) := by
  refine zi_Sof jf_282 [some (.ref 214), some (zi_i l1), some (zi_i l2), none] rfl (And.intro rfl (And.intro rfl (And.intro rfl trivial))) ?_
  unfold w_M_seat at h
  refine zi_aload_n (pc' := 1) rfl rfl rfl ?_
  refine zi_iconst (pc' := 2) rfl rfl ?_
  refine zi_puti (pc' := 5) 0 rfl rfl rfl rfl rfl  ?_
  replace h := h _ rfl
  refine zi_iload_n (pc' := 6) rfl rfl rfl ?_
  refine zi_iconst (pc' := 7) rfl rfl ?_
  obtain ⟨o2, h⟩ := h
  refine zi_icmp_ne (x := 38) (pc' := 10) rfl rfl o2 (by decide) (fun c25 => ?_) (fun c25 => ?_)
  · replace h := h.1 c25
    refine zi_aload_n (pc' := 39) rfl rfl rfl ?_
    refine zi_iload_n (pc' := 40) rfl rfl rfl ?_
    refine zi_callV (d' := 1) (as := [_]) (pc' := 43) rfl rfl rfl rfl (Nat.lt_of_lt_of_le (by decide) hd) (s_M_isSitter (Nat.le_refl _) h) (zi_kb (fun v3 g4 b5 h => ?_))
    refine zi_if_eq (x := 63) (pc' := 46) rfl rfl (zi_r_bit b5)  (fun c17 => ?_) (fun c17 => ?_)
    · replace h := h.1 c17
      refine zi_iconst (pc' := 64) rfl rfl ?_
      exact zi_iret rfl rfl h
    · replace h := h.2 c17
      refine zi_aload_n (pc' := 47) rfl rfl rfl ?_
      refine zi_iload_n (pc' := 48) rfl rfl rfl ?_
      refine zi_callV (d' := 1) (as := [_]) (pc' := 51) rfl rfl rfl rfl (Nat.lt_of_lt_of_le (by decide) hd) (s_M_isSpout (Nat.le_refl _) h) (zi_kb (fun v6 g7 b8 h => ?_))
      refine zi_if_eq (x := 63) (pc' := 54) rfl rfl (zi_r_bit b8)  (fun c16 => ?_) (fun c16 => ?_)
      · replace h := h.1 c16
        refine zi_iconst (pc' := 64) rfl rfl ?_
        exact zi_iret rfl rfl h
      · replace h := h.2 c16
        refine zi_aload_n (pc' := 55) rfl rfl rfl ?_
        refine zi_geti (pc' := 58) 46 rfl rfl rfl rfl rfl rfl ?_
        refine zi_bipush (pc' := 60) rfl rfl (by decide) ?_
        obtain ⟨o9, h⟩ := h
        refine zi_icmp_ne (x := 65) (pc' := 63) rfl rfl o9 (by decide) (fun c15 => ?_) (fun c15 => ?_)
        · replace h := h.1 c15
          refine zi_aload_n (pc' := 66) rfl rfl rfl ?_
          refine zi_getr (pc' := 69) rfl rfl rfl rfl rfl ?_
          refine zi_iload_n (pc' := 70) rfl rfl rfl ?_
          refine zi_aload_n (pc' := 71) rfl rfl rfl ?_
          refine zi_getr (pc' := 74) rfl rfl rfl rfl rfl ?_
          refine zi_iload_n (pc' := 75) rfl rfl rfl ?_
          obtain ⟨o10, h⟩ := h
          refine zi_iald (pc' := 76) rfl rfl rfl o10 ?_
          refine zi_iconst (pc' := 77) rfl rfl ?_
          refine zi_iload_n (pc' := 78) rfl rfl rfl ?_
          refine zi_ishl (pc' := 79) rfl rfl ?_
          refine zi_ior (pc' := 80) rfl rfl ?_
          refine zi_iast (pc' := 81) rfl rfl rfl o10 ?_
          replace h := h _ rfl
          refine zi_aload_n (pc' := 82) rfl rfl rfl ?_
          refine zi_getr (pc' := 85) rfl rfl rfl rfl rfl ?_
          refine zi_aload_n (pc' := 86) rfl rfl rfl ?_
          refine zi_geti (pc' := 89) 46 rfl rfl rfl rfl rfl rfl ?_
          refine zi_bipush (pc' := 91) rfl rfl (by decide) ?_
          refine zi_iload_n (pc' := 92) rfl rfl rfl ?_
          refine zi_imul (pc' := 93) rfl rfl ?_
          refine zi_iload_n (pc' := 94) rfl rfl rfl ?_
          refine zi_iadd (pc' := 95) rfl rfl ?_
          obtain ⟨o12, h⟩ := h
          refine zi_iast (pc' := 96) rfl rfl rfl o12 ?_
          replace h := h _ rfl
          refine zi_aload_n (pc' := 97) rfl rfl rfl ?_
          refine zi_aload_n (pc' := 98) rfl rfl rfl ?_
          refine zi_geti (pc' := 101) 46 rfl rfl rfl rfl rfl rfl ?_
          refine zi_iconst (pc' := 102) rfl rfl ?_
          refine zi_iadd (pc' := 103) rfl rfl ?_
          refine zi_puti (pc' := 106) 46 rfl rfl rfl rfl rfl  ?_
          replace h := h _ rfl
          refine zi_aload_n (pc' := 107) rfl rfl rfl ?_
          refine zi_geti (pc' := 110) 46 rfl rfl rfl rfl rfl rfl ?_
          exact zi_iret rfl rfl h
        · replace h := h.2 c15
          refine zi_iconst (pc' := 64) rfl rfl ?_
          exact zi_iret rfl rfl h
  · replace h := h.2 c25
    refine zi_aload_n (pc' := 11) rfl rfl rfl ?_
    refine zi_iconst (pc' := 12) rfl rfl ?_
    refine zi_puti (pc' := 15) 46 rfl rfl rfl rfl rfl  ?_
    replace h := h _ rfl
    refine zi_iconst (pc' := 16) rfl rfl ?_
    refine zi_istore_n (pc' := 17) [some _, some _, some _, some _] rfl rfl rfl ?_
    refine zi_wk (s_M_seat_l17 hd h (fun g23 h => ?_)) (And.intro rfl (And.intro rfl trivial))
    refine zi_iconst (pc' := 37) rfl rfl ?_
    exact zi_iret rfl rfl h
-- SpoutNews$Thought.countWay()V
noncomputable def w_Thought_countWay_l12 (K53 : zi_M → Prop) (Q : Int → zi_M → Prop) : Nat → Int → zi_M → Prop
  | 0, _, _ => False
  | f + 1, l1, g => (zi_r l1 ∧ ((8 ≤ l1 → K53 g) ∧ (l1 < 8 → ((0 ≤ l1 ∧ l1 < 8) ∧ (zi_r (g 181 l1) ∧ (((g 181 l1) = 0 → w_Thought_countWay_l12 K53 Q f (l1 + 1) g) ∧ (¬ (g 181 l1) = 0 → ((0 ≤ ((l1 * 10) + (g 182 l1)) ∧ ((l1 * 10) + (g 182 l1)) < 80) ∧ (∀ g6, g6 = zi_u g 183 ((l1 * 10) + (g 182 l1)) (zi_w ((g 183 ((l1 * 10) + (g 182 l1))) + 1)) → w_Thought_countWay_l12 K53 Q f (l1 + 1) g6)))))))))
noncomputable def w_Thought_countWay (g : zi_M) (Q : Int → zi_M → Prop) : Prop := (∀ g1, g1 = zi_u g 180 3 (zi_w ((g 180 3) + 1)) → (∃ f10, w_Thought_countWay_l12 (fun g9 => Q 0 g9) Q f10 0 g1))
set_option maxRecDepth 100000 in
theorem s_Thought_countWay_l12_r {E : sx_E} {d : Nat} (hd : 1 ≤ d) {K53 : zi_M → Prop} {Q : Int → zi_M → Prop} (hK53 : ∀ (g : zi_M), K53 g → zi_W E d 137 53 [some (.ref 180), none] [] g (zi_Qv Q)) : ∀ (f : Nat) {l1 : Int} {g : zi_M}, w_Thought_countWay_l12 K53 Q f l1 g → zi_W E d 137 12 [some (.ref 180), some (zi_i l1)] [] g (zi_Qv Q)
  | 0, _, _, h => False.elim h
  | f + 1, l1, g, h => by
    refine zi_iload_n (pc' := 13) rfl rfl rfl ?_
    refine zi_bipush (pc' := 15) rfl rfl (by decide) ?_
    obtain ⟨o2, h⟩ := h
    refine zi_icmp_ge (x := 53) (pc' := 18) rfl rfl o2 (by decide) (fun c8 => ?_) (fun c8 => ?_)
    · replace h := h.1 c8
      exact zi_wk (hK53 _ h) (And.intro rfl trivial)
    · replace h := h.2 c8
      refine zi_aload_n (pc' := 19) rfl rfl rfl ?_
      refine zi_getr (pc' := 22) rfl rfl rfl rfl rfl ?_
      refine zi_iload_n (pc' := 23) rfl rfl rfl ?_
      obtain ⟨o3, h⟩ := h
      refine zi_iald (pc' := 24) rfl rfl rfl o3 ?_
      obtain ⟨o4, h⟩ := h
      refine zi_if_eq (x := 47) (pc' := 27) rfl rfl o4  (fun c7 => ?_) (fun c7 => ?_)
      · replace h := h.1 c7
        refine zi_iinc (pc' := 50) [some _, some _] rfl rfl rfl rfl ?_
        refine zi_goto (x := 12) rfl ?_
        exact zi_wk (s_Thought_countWay_l12_r hd hK53 f h) (And.intro rfl (And.intro rfl trivial))
      · replace h := h.2 c7
        refine zi_aload_n (pc' := 28) rfl rfl rfl ?_
        refine zi_getr (pc' := 31) rfl rfl rfl rfl rfl ?_
        refine zi_iload_n (pc' := 32) rfl rfl rfl ?_
        refine zi_bipush (pc' := 34) rfl rfl (by decide) ?_
        refine zi_imul (pc' := 35) rfl rfl ?_
        refine zi_aload_n (pc' := 36) rfl rfl rfl ?_
        refine zi_getr (pc' := 39) rfl rfl rfl rfl rfl ?_
        refine zi_iload_n (pc' := 40) rfl rfl rfl ?_
        refine zi_iald (pc' := 41) rfl rfl rfl o3 ?_
        refine zi_iadd (pc' := 42) rfl rfl ?_
        refine zi_dup2 (pc' := 43) rfl rfl rfl rfl ?_
        obtain ⟨o5, h⟩ := h
        refine zi_iald (pc' := 44) rfl rfl rfl o5 ?_
        refine zi_iconst (pc' := 45) rfl rfl ?_
        refine zi_iadd (pc' := 46) rfl rfl ?_
        refine zi_wrap ?_
        refine zi_iast (pc' := 47) rfl rfl rfl o5 ?_
        replace h := h _ rfl
        refine zi_iinc (pc' := 50) [some _, some _] rfl rfl rfl rfl ?_
        refine zi_goto (x := 12) rfl ?_
        exact zi_wk (s_Thought_countWay_l12_r hd hK53 f h) (And.intro rfl (And.intro rfl trivial))
set_option maxRecDepth 100000 in
theorem s_Thought_countWay_l12 {E : sx_E} {d : Nat} (hd : 1 ≤ d) {K53 : zi_M → Prop} {Q : Int → zi_M → Prop} {l1 : Int} {g : zi_M} (h : ∃ f, w_Thought_countWay_l12 K53 Q f l1 g) (hK53 : ∀ (g : zi_M), K53 g → zi_W E d 137 53 [some (.ref 180), none] [] g (zi_Qv Q)) : zi_W E d 137 12 [some (.ref 180), some (zi_i l1)] [] g (zi_Qv Q) := by
  obtain ⟨f, h⟩ := h
  exact s_Thought_countWay_l12_r hd hK53 f h
set_option maxRecDepth 100000 in
theorem s_Thought_countWay {E : sx_E} {d : Nat} (hd : 1 ≤ d) {g : zi_M} {Q : Int → zi_M → Prop} (h : w_Thought_countWay g Q) : zi_S E d 137 [.ref 180] g (zi_Qv Q) := by
  refine zi_Sof jf_137 [some (.ref 180), none] rfl (And.intro rfl trivial) ?_
  unfold w_Thought_countWay at h
  refine zi_aload_n (pc' := 1) rfl rfl rfl ?_
  refine zi_dup (pc' := 2) rfl rfl rfl ?_
  refine zi_geti (pc' := 5) 3 rfl rfl rfl rfl rfl rfl ?_
  refine zi_iconst (pc' := 6) rfl rfl ?_
  refine zi_iadd (pc' := 7) rfl rfl ?_
  refine zi_wrap ?_
  refine zi_puti (pc' := 10) 3 rfl rfl rfl rfl rfl  ?_
  replace h := h _ rfl
  refine zi_iconst (pc' := 11) rfl rfl ?_
  refine zi_istore_n (pc' := 12) [some _, some _] rfl rfl rfl ?_
  refine zi_wk (s_Thought_countWay_l12 hd h (fun g9 h => ?_)) (And.intro rfl (And.intro rfl trivial))
  exact zi_vret rfl rfl h
-- SpoutNews$Thought.whomToAsk()I
noncomputable def w_Thought_whomToAsk_l18 (l3 : Int) (K50 : Int → zi_M → Prop) (Q : Int → zi_M → Prop) : Nat → Int → Int → zi_M → Prop
  | 0, _, _, _ => False
  | f + 1, l4, l5, g => (zi_r l5 ∧ ((10 ≤ l5 → K50 l4 g) ∧ (l5 < 10 → ((0 ≤ ((l3 * 10) + l5) ∧ ((l3 * 10) + l5) < 80) ∧ (zi_r l4 ∧ zi_r (g 183 ((l3 * 10) + l5)) ∧ w_Thought_whomToAsk_l18 l3 K50 Q f (max l4 (g 183 ((l3 * 10) + l5))) (l5 + 1) g)))))
noncomputable def w_Thought_whomToAsk_l6 (K81 : Int → zi_M → Prop) (Q : Int → zi_M → Prop) : Nat → Int → Int → Int → zi_M → Prop
  | 0, _, _, _, _ => False
  | f + 1, l1, l2, l3, g => (zi_r l3 ∧ ((8 ≤ l3 → K81 l1 g) ∧ (l3 < 8 → (∃ f17, w_Thought_whomToAsk_l18 l3 (fun k7 g8 => ((0 ≤ l3 ∧ l3 < 8) ∧ (zi_r (g8 181 l3) ∧ (((g8 181 l3) = 0 → w_Thought_whomToAsk_l6 K81 Q f l1 l2 (l3 + 1) g8) ∧ (¬ (g8 181 l3) = 0 → (zi_r l1 ∧ ((l1 = (-1) → w_Thought_whomToAsk_l6 K81 Q f l3 k7 (l3 + 1) g8) ∧ (¬ l1 = (-1) → (zi_r k7 ∧ zi_r l2 ∧ ((l2 ≤ k7 → w_Thought_whomToAsk_l6 K81 Q f l1 l2 (l3 + 1) g8) ∧ (k7 < l2 → w_Thought_whomToAsk_l6 K81 Q f l3 k7 (l3 + 1) g8))))))))))) Q f17 0 0 g))))
noncomputable def w_Thought_whomToAsk (g : zi_M) (Q : Int → zi_M → Prop) : Prop := (∃ f21, w_Thought_whomToAsk_l6 (fun k19 g20 => Q k19 g20) Q f21 (-1) 0 0 g)
set_option maxRecDepth 100000 in
theorem s_Thought_whomToAsk_l18_r {E : sx_E} {d : Nat} (hd : 1 ≤ d) {l3 : Int} {x1 : Int} {x2 : Int} {K50 : Int → zi_M → Prop} {Q : Int → zi_M → Prop} (hK50 : ∀ (k4 : Int) (g : zi_M), K50 k4 g → zi_W E d 139 50 [some (.ref 180), some (zi_i x1), some (zi_i x2), some (zi_i l3), some (zi_i k4), none] [] g (zi_Q Q)) : ∀ (f : Nat) {l4 : Int} {l5 : Int} {g : zi_M}, w_Thought_whomToAsk_l18 l3 K50 Q f l4 l5 g → zi_W E d 139 18 [some (.ref 180), some (zi_i x1), some (zi_i x2), some (zi_i l3), some (zi_i l4), some (zi_i l5)] [] g (zi_Q Q)
  | 0, _, _, _, h => False.elim h
  | f + 1, l4, l5, g, h => by
    refine zi_iload (pc' := 20) rfl rfl rfl ?_
    refine zi_bipush (pc' := 22) rfl rfl (by decide) ?_
    obtain ⟨o2, h⟩ := h
    refine zi_icmp_ge (x := 50) (pc' := 25) rfl rfl o2 (by decide) (fun c6 => ?_) (fun c6 => ?_)
    · replace h := h.1 c6
      exact zi_wk (hK50 _ _ h) (And.intro rfl (And.intro rfl (And.intro rfl (And.intro rfl (And.intro rfl trivial)))))
    · replace h := h.2 c6
      refine zi_iload (pc' := 27) rfl rfl rfl ?_
      refine zi_aload_n (pc' := 28) rfl rfl rfl ?_
      refine zi_getr (pc' := 31) rfl rfl rfl rfl rfl ?_
      refine zi_iload_n (pc' := 32) rfl rfl rfl ?_
      refine zi_bipush (pc' := 34) rfl rfl (by decide) ?_
      refine zi_imul (pc' := 35) rfl rfl ?_
      refine zi_iload (pc' := 37) rfl rfl rfl ?_
      refine zi_iadd (pc' := 38) rfl rfl ?_
      obtain ⟨o3, h⟩ := h
      refine zi_iald (pc' := 39) rfl rfl rfl o3 ?_
      obtain ⟨o4, o5, h⟩ := h
      refine zi_max (pc' := 42) rfl rfl o4 o5 (Nat.le_trans (by decide) hd) rfl ?_
      refine zi_istore (pc' := 44) [some _, some _, some _, some _, some _, some _] rfl rfl rfl ?_
      refine zi_iinc (pc' := 47) [some _, some _, some _, some _, some _, some _] rfl rfl rfl rfl ?_
      refine zi_goto (x := 18) rfl ?_
      exact zi_wk (s_Thought_whomToAsk_l18_r hd hK50 f h) (And.intro rfl (And.intro rfl (And.intro rfl (And.intro rfl (And.intro rfl (And.intro rfl trivial))))))
set_option maxRecDepth 100000 in
theorem s_Thought_whomToAsk_l18 {E : sx_E} {d : Nat} (hd : 1 ≤ d) {l3 : Int} {x1 : Int} {x2 : Int} {K50 : Int → zi_M → Prop} {Q : Int → zi_M → Prop} {l4 : Int} {l5 : Int} {g : zi_M} (h : ∃ f, w_Thought_whomToAsk_l18 l3 K50 Q f l4 l5 g) (hK50 : ∀ (k4 : Int) (g : zi_M), K50 k4 g → zi_W E d 139 50 [some (.ref 180), some (zi_i x1), some (zi_i x2), some (zi_i l3), some (zi_i k4), none] [] g (zi_Q Q)) : zi_W E d 139 18 [some (.ref 180), some (zi_i x1), some (zi_i x2), some (zi_i l3), some (zi_i l4), some (zi_i l5)] [] g (zi_Q Q) := by
  obtain ⟨f, h⟩ := h
  exact s_Thought_whomToAsk_l18_r hd hK50 f h
set_option maxRecDepth 100000 in
theorem s_Thought_whomToAsk_l6_r {E : sx_E} {d : Nat} (hd : 1 ≤ d) {K81 : Int → zi_M → Prop} {Q : Int → zi_M → Prop} (hK81 : ∀ (k1 : Int) (g : zi_M), K81 k1 g → zi_W E d 139 81 [some (.ref 180), some (zi_i k1), none, none, none, none] [] g (zi_Q Q)) : ∀ (f : Nat) {l1 : Int} {l2 : Int} {l3 : Int} {g : zi_M}, w_Thought_whomToAsk_l6 K81 Q f l1 l2 l3 g → zi_W E d 139 6 [some (.ref 180), some (zi_i l1), some (zi_i l2), some (zi_i l3), none, none] [] g (zi_Q Q)
  | 0, _, _, _, _, h => False.elim h
  | f + 1, l1, l2, l3, g, h => by
    refine zi_iload_n (pc' := 7) rfl rfl rfl ?_
    refine zi_bipush (pc' := 9) rfl rfl (by decide) ?_
    obtain ⟨o1, h⟩ := h
    refine zi_icmp_ge (x := 81) (pc' := 12) rfl rfl o1 (by decide) (fun c18 => ?_) (fun c18 => ?_)
    · replace h := h.1 c18
      exact zi_wk (hK81 _ _ h) (And.intro rfl (And.intro rfl trivial))
    · replace h := h.2 c18
      refine zi_iconst (pc' := 13) rfl rfl ?_
      refine zi_istore (pc' := 15) [some _, some _, some _, some _, some _, none] rfl rfl rfl ?_
      refine zi_iconst (pc' := 16) rfl rfl ?_
      refine zi_istore (pc' := 18) [some _, some _, some _, some _, some _, some _] rfl rfl rfl ?_
      refine zi_wk (s_Thought_whomToAsk_l18 hd h (fun k7 g8 h => ?_)) (And.intro rfl (And.intro rfl (And.intro rfl (And.intro rfl (And.intro rfl (And.intro rfl trivial))))))
      refine zi_aload_n (pc' := 51) rfl rfl rfl ?_
      refine zi_getr (pc' := 54) rfl rfl rfl rfl rfl ?_
      refine zi_iload_n (pc' := 55) rfl rfl rfl ?_
      obtain ⟨o9, h⟩ := h
      refine zi_iald (pc' := 56) rfl rfl rfl o9 ?_
      obtain ⟨o10, h⟩ := h
      refine zi_if_eq (x := 75) (pc' := 59) rfl rfl o10  (fun c16 => ?_) (fun c16 => ?_)
      · replace h := h.1 c16
        refine zi_iinc (pc' := 78) [some _, some _, some _, some _, some _, none] rfl rfl rfl rfl ?_
        refine zi_goto (x := 6) rfl ?_
        exact zi_wk (s_Thought_whomToAsk_l6_r hd hK81 f h) (And.intro rfl (And.intro rfl (And.intro rfl (And.intro rfl trivial))))
      · replace h := h.2 c16
        refine zi_iload_n (pc' := 60) rfl rfl rfl ?_
        refine zi_iconst (pc' := 61) rfl rfl ?_
        obtain ⟨o11, h⟩ := h
        refine zi_icmp_eq (x := 70) (pc' := 64) rfl rfl o11 (by decide) (fun c15 => ?_) (fun c15 => ?_)
        · replace h := h.1 c15
          refine zi_iload_n (pc' := 71) rfl rfl rfl ?_
          refine zi_istore_n (pc' := 72) [some _, some _, some _, some _, some _, none] rfl rfl rfl ?_
          refine zi_iload (pc' := 74) rfl rfl rfl ?_
          refine zi_istore_n (pc' := 75) [some _, some _, some _, some _, some _, none] rfl rfl rfl ?_
          refine zi_iinc (pc' := 78) [some _, some _, some _, some _, some _, none] rfl rfl rfl rfl ?_
          refine zi_goto (x := 6) rfl ?_
          exact zi_wk (s_Thought_whomToAsk_l6_r hd hK81 f h) (And.intro rfl (And.intro rfl (And.intro rfl (And.intro rfl trivial))))
        · replace h := h.2 c15
          refine zi_iload (pc' := 66) rfl rfl rfl ?_
          refine zi_iload_n (pc' := 67) rfl rfl rfl ?_
          obtain ⟨o12, o13, h⟩ := h
          refine zi_icmp_ge (x := 75) (pc' := 70) rfl rfl o12 o13 (fun c14 => ?_) (fun c14 => ?_)
          · replace h := h.1 c14
            refine zi_iinc (pc' := 78) [some _, some _, some _, some _, some _, none] rfl rfl rfl rfl ?_
            refine zi_goto (x := 6) rfl ?_
            exact zi_wk (s_Thought_whomToAsk_l6_r hd hK81 f h) (And.intro rfl (And.intro rfl (And.intro rfl (And.intro rfl trivial))))
          · replace h := h.2 c14
            refine zi_iload_n (pc' := 71) rfl rfl rfl ?_
            refine zi_istore_n (pc' := 72) [some _, some _, some _, some _, some _, none] rfl rfl rfl ?_
            refine zi_iload (pc' := 74) rfl rfl rfl ?_
            refine zi_istore_n (pc' := 75) [some _, some _, some _, some _, some _, none] rfl rfl rfl ?_
            refine zi_iinc (pc' := 78) [some _, some _, some _, some _, some _, none] rfl rfl rfl rfl ?_
            refine zi_goto (x := 6) rfl ?_
            exact zi_wk (s_Thought_whomToAsk_l6_r hd hK81 f h) (And.intro rfl (And.intro rfl (And.intro rfl (And.intro rfl trivial))))
set_option maxRecDepth 100000 in
theorem s_Thought_whomToAsk_l6 {E : sx_E} {d : Nat} (hd : 1 ≤ d) {K81 : Int → zi_M → Prop} {Q : Int → zi_M → Prop} {l1 : Int} {l2 : Int} {l3 : Int} {g : zi_M} (h : ∃ f, w_Thought_whomToAsk_l6 K81 Q f l1 l2 l3 g) (hK81 : ∀ (k1 : Int) (g : zi_M), K81 k1 g → zi_W E d 139 81 [some (.ref 180), some (zi_i k1), none, none, none, none] [] g (zi_Q Q)) : zi_W E d 139 6 [some (.ref 180), some (zi_i l1), some (zi_i l2), some (zi_i l3), none, none] [] g (zi_Q Q) := by
  obtain ⟨f, h⟩ := h
  exact s_Thought_whomToAsk_l6_r hd hK81 f h
set_option maxRecDepth 100000 in
theorem s_Thought_whomToAsk {E : sx_E} {d : Nat} (hd : 1 ≤ d) {g : zi_M} {Q : Int → zi_M → Prop} (h : w_Thought_whomToAsk g Q) : zi_S E d 139 [.ref 180] g (zi_Q Q) := by
  refine zi_Sof jf_139 [some (.ref 180), none, none, none, none, none] rfl (And.intro rfl trivial) ?_
  unfold w_Thought_whomToAsk at h
  refine zi_iconst (pc' := 1) rfl rfl ?_
  refine zi_istore_n (pc' := 2) [some _, some _, none, none, none, none] rfl rfl rfl ?_
  refine zi_iconst (pc' := 3) rfl rfl ?_
  refine zi_istore_n (pc' := 4) [some _, some _, some _, none, none, none] rfl rfl rfl ?_
  refine zi_iconst (pc' := 5) rfl rfl ?_
  refine zi_istore_n (pc' := 6) [some _, some _, some _, some _, none, none] rfl rfl rfl ?_
  refine zi_wk (s_Thought_whomToAsk_l6 hd h (fun k19 g20 h => ?_)) (And.intro rfl (And.intro rfl (And.intro rfl (And.intro rfl trivial))))
  refine zi_iload_n (pc' := 82) rfl rfl rfl ?_
  exact zi_iret rfl rfl h
-- SpoutNews$Thought.sureCouples()I
noncomputable def w_Thought_sureCouples_l12 (l2 : Int) (K59 : Int → zi_M → Prop) (Q : Int → zi_M → Prop) : Nat → Int → Int → zi_M → Prop
  | 0, _, _, _ => False
  | f + 1, l1, l3, g => (zi_r l3 ∧ ((10 ≤ l3 → K59 l1 g) ∧ (l3 < 10 → ((0 ≤ l2 ∧ l2 < 8) ∧ ((¬ (zi_and (zi_shr (g 181 l2) l3) 1) = 1 → w_Thought_sureCouples_l12 l2 K59 Q f l1 (l3 + 1) g) ∧ ((zi_and (zi_shr (g 181 l2) l3) 1) = 1 → ((0 ≤ ((l2 * 10) + l3) ∧ ((l2 * 10) + l3) < 80) ∧ (zi_r (g 183 ((l2 * 10) + l3)) ∧ zi_r (g 180 3) ∧ ((¬ (g 183 ((l2 * 10) + l3)) = (g 180 3) → w_Thought_sureCouples_l12 l2 K59 Q f l1 (l3 + 1) g) ∧ ((g 183 ((l2 * 10) + l3)) = (g 180 3) → w_Thought_sureCouples_l12 l2 K59 Q f (l1 + 1) (l3 + 1) g))))))))))
noncomputable def w_Thought_sureCouples_l4 (K65 : Int → zi_M → Prop) (Q : Int → zi_M → Prop) : Nat → Int → Int → zi_M → Prop
  | 0, _, _, _ => False
  | f + 1, l1, l2, g => (zi_r l2 ∧ ((8 ≤ l2 → K65 l1 g) ∧ (l2 < 8 → (∃ f12, w_Thought_sureCouples_l12 l2 (fun k10 g11 => w_Thought_sureCouples_l4 K65 Q f k10 (l2 + 1) g11) Q f12 l1 0 g))))
noncomputable def w_Thought_sureCouples (g : zi_M) (Q : Int → zi_M → Prop) : Prop := (∃ f16, w_Thought_sureCouples_l4 (fun k14 g15 => Q k14 g15) Q f16 0 0 g)
set_option maxRecDepth 100000 in
theorem s_Thought_sureCouples_l12_r {E : sx_E} {d : Nat} (hd : 1 ≤ d) {l2 : Int} {K59 : Int → zi_M → Prop} {Q : Int → zi_M → Prop} (hK59 : ∀ (k1 : Int) (g : zi_M), K59 k1 g → zi_W E d 138 59 [some (.ref 180), some (zi_i k1), some (zi_i l2), none] [] g (zi_Q Q)) : ∀ (f : Nat) {l1 : Int} {l3 : Int} {g : zi_M}, w_Thought_sureCouples_l12 l2 K59 Q f l1 l3 g → zi_W E d 138 12 [some (.ref 180), some (zi_i l1), some (zi_i l2), some (zi_i l3)] [] g (zi_Q Q)
  | 0, _, _, _, h => False.elim h
  | f + 1, l1, l3, g, h => by
    refine zi_iload_n (pc' := 13) rfl rfl rfl ?_
    refine zi_bipush (pc' := 15) rfl rfl (by decide) ?_
    obtain ⟨o2, h⟩ := h
    refine zi_icmp_ge (x := 59) (pc' := 18) rfl rfl o2 (by decide) (fun c9 => ?_) (fun c9 => ?_)
    · replace h := h.1 c9
      exact zi_wk (hK59 _ _ h) (And.intro rfl (And.intro rfl (And.intro rfl trivial)))
    · replace h := h.2 c9
      refine zi_aload_n (pc' := 19) rfl rfl rfl ?_
      refine zi_getr (pc' := 22) rfl rfl rfl rfl rfl ?_
      refine zi_iload_n (pc' := 23) rfl rfl rfl ?_
      obtain ⟨o3, h⟩ := h
      refine zi_iald (pc' := 24) rfl rfl rfl o3 ?_
      refine zi_iload_n (pc' := 25) rfl rfl rfl ?_
      refine zi_ishr (pc' := 26) rfl rfl ?_
      refine zi_iconst (pc' := 27) rfl rfl ?_
      refine zi_iand (pc' := 28) rfl rfl ?_
      refine zi_iconst (pc' := 29) rfl rfl ?_
      refine zi_icmp_ne (x := 53) (pc' := 32) rfl rfl (zi_r_and _ _) (by decide) (fun c8 => ?_) (fun c8 => ?_)
      · replace h := h.1 c8
        refine zi_iinc (pc' := 56) [some _, some _, some _, some _] rfl rfl rfl rfl ?_
        refine zi_goto (x := 12) rfl ?_
        exact zi_wk (s_Thought_sureCouples_l12_r hd hK59 f h) (And.intro rfl (And.intro rfl (And.intro rfl (And.intro rfl trivial))))
      · replace h := h.2 c8
        refine zi_aload_n (pc' := 33) rfl rfl rfl ?_
        refine zi_getr (pc' := 36) rfl rfl rfl rfl rfl ?_
        refine zi_iload_n (pc' := 37) rfl rfl rfl ?_
        refine zi_bipush (pc' := 39) rfl rfl (by decide) ?_
        refine zi_imul (pc' := 40) rfl rfl ?_
        refine zi_iload_n (pc' := 41) rfl rfl rfl ?_
        refine zi_iadd (pc' := 42) rfl rfl ?_
        obtain ⟨o4, h⟩ := h
        refine zi_iald (pc' := 43) rfl rfl rfl o4 ?_
        refine zi_aload_n (pc' := 44) rfl rfl rfl ?_
        refine zi_geti (pc' := 47) 3 rfl rfl rfl rfl rfl rfl ?_
        obtain ⟨o5, o6, h⟩ := h
        refine zi_icmp_ne (x := 53) (pc' := 50) rfl rfl o5 o6 (fun c7 => ?_) (fun c7 => ?_)
        · replace h := h.1 c7
          refine zi_iinc (pc' := 56) [some _, some _, some _, some _] rfl rfl rfl rfl ?_
          refine zi_goto (x := 12) rfl ?_
          exact zi_wk (s_Thought_sureCouples_l12_r hd hK59 f h) (And.intro rfl (And.intro rfl (And.intro rfl (And.intro rfl trivial))))
        · replace h := h.2 c7
          refine zi_iinc (pc' := 53) [some _, some _, some _, some _] rfl rfl rfl rfl ?_
          refine zi_iinc (pc' := 56) [some _, some _, some _, some _] rfl rfl rfl rfl ?_
          refine zi_goto (x := 12) rfl ?_
          exact zi_wk (s_Thought_sureCouples_l12_r hd hK59 f h) (And.intro rfl (And.intro rfl (And.intro rfl (And.intro rfl trivial))))
set_option maxRecDepth 100000 in
theorem s_Thought_sureCouples_l12 {E : sx_E} {d : Nat} (hd : 1 ≤ d) {l2 : Int} {K59 : Int → zi_M → Prop} {Q : Int → zi_M → Prop} {l1 : Int} {l3 : Int} {g : zi_M} (h : ∃ f, w_Thought_sureCouples_l12 l2 K59 Q f l1 l3 g) (hK59 : ∀ (k1 : Int) (g : zi_M), K59 k1 g → zi_W E d 138 59 [some (.ref 180), some (zi_i k1), some (zi_i l2), none] [] g (zi_Q Q)) : zi_W E d 138 12 [some (.ref 180), some (zi_i l1), some (zi_i l2), some (zi_i l3)] [] g (zi_Q Q) := by
  obtain ⟨f, h⟩ := h
  exact s_Thought_sureCouples_l12_r hd hK59 f h
set_option maxRecDepth 100000 in
theorem s_Thought_sureCouples_l4_r {E : sx_E} {d : Nat} (hd : 1 ≤ d) {K65 : Int → zi_M → Prop} {Q : Int → zi_M → Prop} (hK65 : ∀ (k1 : Int) (g : zi_M), K65 k1 g → zi_W E d 138 65 [some (.ref 180), some (zi_i k1), none, none] [] g (zi_Q Q)) : ∀ (f : Nat) {l1 : Int} {l2 : Int} {g : zi_M}, w_Thought_sureCouples_l4 K65 Q f l1 l2 g → zi_W E d 138 4 [some (.ref 180), some (zi_i l1), some (zi_i l2), none] [] g (zi_Q Q)
  | 0, _, _, _, h => False.elim h
  | f + 1, l1, l2, g, h => by
    refine zi_iload_n (pc' := 5) rfl rfl rfl ?_
    refine zi_bipush (pc' := 7) rfl rfl (by decide) ?_
    obtain ⟨o1, h⟩ := h
    refine zi_icmp_ge (x := 65) (pc' := 10) rfl rfl o1 (by decide) (fun c13 => ?_) (fun c13 => ?_)
    · replace h := h.1 c13
      exact zi_wk (hK65 _ _ h) (And.intro rfl (And.intro rfl trivial))
    · replace h := h.2 c13
      refine zi_iconst (pc' := 11) rfl rfl ?_
      refine zi_istore_n (pc' := 12) [some _, some _, some _, some _] rfl rfl rfl ?_
      refine zi_wk (s_Thought_sureCouples_l12 hd h (fun k10 g11 h => ?_)) (And.intro rfl (And.intro rfl (And.intro rfl (And.intro rfl trivial))))
      refine zi_iinc (pc' := 62) [some _, some _, some _, none] rfl rfl rfl rfl ?_
      refine zi_goto (x := 4) rfl ?_
      exact zi_wk (s_Thought_sureCouples_l4_r hd hK65 f h) (And.intro rfl (And.intro rfl (And.intro rfl trivial)))
set_option maxRecDepth 100000 in
theorem s_Thought_sureCouples_l4 {E : sx_E} {d : Nat} (hd : 1 ≤ d) {K65 : Int → zi_M → Prop} {Q : Int → zi_M → Prop} {l1 : Int} {l2 : Int} {g : zi_M} (h : ∃ f, w_Thought_sureCouples_l4 K65 Q f l1 l2 g) (hK65 : ∀ (k1 : Int) (g : zi_M), K65 k1 g → zi_W E d 138 65 [some (.ref 180), some (zi_i k1), none, none] [] g (zi_Q Q)) : zi_W E d 138 4 [some (.ref 180), some (zi_i l1), some (zi_i l2), none] [] g (zi_Q Q) := by
  obtain ⟨f, h⟩ := h
  exact s_Thought_sureCouples_l4_r hd hK65 f h
set_option maxRecDepth 100000 in
theorem s_Thought_sureCouples {E : sx_E} {d : Nat} (hd : 1 ≤ d) {g : zi_M} {Q : Int → zi_M → Prop} (h : w_Thought_sureCouples g Q) : zi_S E d 138 [.ref 180] g (zi_Q Q) := by
  refine zi_Sof jf_138 [some (.ref 180), none, none, none] rfl (And.intro rfl trivial) ?_
  unfold w_Thought_sureCouples at h
  refine zi_iconst (pc' := 1) rfl rfl ?_
  refine zi_istore_n (pc' := 2) [some _, some _, none, none] rfl rfl rfl ?_
  refine zi_iconst (pc' := 3) rfl rfl ?_
  refine zi_istore_n (pc' := 4) [some _, some _, some _, none] rfl rfl rfl ?_
  refine zi_wk (s_Thought_sureCouples_l4 hd h (fun k14 g15 h => ?_)) (And.intro rfl (And.intro rfl (And.intro rfl trivial)))
  refine zi_iload_n (pc' := 66) rfl rfl rfl ?_
  exact zi_iret rfl rfl h
-- SpoutNewsModel.seatsOf(II)I
noncomputable def w_M_seatsOf (l1 : Int) (l2 : Int) (g : zi_M) (Q : Int → zi_M → Prop) : Prop := (zi_r l2 ∧ ((l2 = (-1) → ((0 ≤ l1 ∧ l1 < 8) ∧ Q (g 239 l1) g)) ∧ (¬ l2 = (-1) → (zi_r (Int.tdiv l2 10) ∧ zi_r l1 ∧ ((¬ (Int.tdiv l2 10) = l1 → ((0 ≤ l1 ∧ l1 < 8) ∧ Q (g 239 l1) g)) ∧ ((Int.tdiv l2 10) = l1 → ((0 ≤ l1 ∧ l1 < 8) ∧ Q (zi_and (g 239 l1) (zi_shl 1 (Int.tmod l2 10))) g)))))))
set_option maxRecDepth 100000 in
theorem s_M_seatsOf {E : sx_E} {d : Nat} (hd : 1 ≤ d) {l1 : Int} {l2 : Int} {g : zi_M} {Q : Int → zi_M → Prop} (h : w_M_seatsOf l1 l2 g Q) : zi_S E d 286 [.ref 214, zi_i l1, zi_i l2] g (zi_Q Q) := by
  refine zi_Sof jf_286 [some (.ref 214), some (zi_i l1), some (zi_i l2)] rfl (And.intro rfl (And.intro rfl (And.intro rfl trivial))) ?_
  unfold w_M_seatsOf at h
  refine zi_iload_n (pc' := 1) rfl rfl rfl ?_
  refine zi_iconst (pc' := 2) rfl rfl ?_
  obtain ⟨o1, h⟩ := h
  refine zi_icmp_eq (x := 29) (pc' := 5) rfl rfl o1 (by decide) (fun c8 => ?_) (fun c8 => ?_)
  · replace h := h.1 c8
    refine zi_aload_n (pc' := 30) rfl rfl rfl ?_
    refine zi_getr (pc' := 33) rfl rfl rfl rfl rfl ?_
    refine zi_iload_n (pc' := 34) rfl rfl rfl ?_
    obtain ⟨o2, h⟩ := h
    refine zi_iald (pc' := 35) rfl rfl rfl o2 ?_
    exact zi_iret rfl rfl h
  · replace h := h.2 c8
    refine zi_iload_n (pc' := 6) rfl rfl rfl ?_
    refine zi_bipush (pc' := 8) rfl rfl (by decide) ?_
    refine zi_idiv (pc' := 9) rfl rfl o1 (by decide) (by decide) ?_
    refine zi_iload_n (pc' := 10) rfl rfl rfl ?_
    obtain ⟨o3, o4, h⟩ := h
    refine zi_icmp_ne (x := 29) (pc' := 13) rfl rfl o3 o4 (fun c7 => ?_) (fun c7 => ?_)
    · replace h := h.1 c7
      refine zi_aload_n (pc' := 30) rfl rfl rfl ?_
      refine zi_getr (pc' := 33) rfl rfl rfl rfl rfl ?_
      refine zi_iload_n (pc' := 34) rfl rfl rfl ?_
      obtain ⟨o5, h⟩ := h
      refine zi_iald (pc' := 35) rfl rfl rfl o5 ?_
      exact zi_iret rfl rfl h
    · replace h := h.2 c7
      refine zi_aload_n (pc' := 14) rfl rfl rfl ?_
      refine zi_getr (pc' := 17) rfl rfl rfl rfl rfl ?_
      refine zi_iload_n (pc' := 18) rfl rfl rfl ?_
      obtain ⟨o6, h⟩ := h
      refine zi_iald (pc' := 19) rfl rfl rfl o6 ?_
      refine zi_iconst (pc' := 20) rfl rfl ?_
      refine zi_iload_n (pc' := 21) rfl rfl rfl ?_
      refine zi_bipush (pc' := 23) rfl rfl (by decide) ?_
      refine zi_irem (pc' := 24) rfl rfl o1 (by decide) (by decide) ?_
      refine zi_ishl (pc' := 25) rfl rfl ?_
      refine zi_iand (pc' := 26) rfl rfl ?_
      refine zi_goto (x := 35) rfl ?_
      exact zi_iret rfl rfl h
-- SpoutNewsModel.waysWith(I)I
noncomputable def w_M_waysWith_l2 (K30 : zi_M → Prop) (Q : Int → zi_M → Prop) : Nat → Int → zi_M → Prop
  | 0, _, _ => False
  | f + 1, l2, g => (zi_r l2 ∧ ((1024 ≤ l2 → K30 g) ∧ (l2 < 1024 → ((¬ l2 = 0 → ((0 ≤ l2 ∧ l2 < 1024) ∧ (∀ g3, g3 = zi_u g 241 l2 0 → w_M_waysWith_l2 K30 Q f (l2 + 1) g3))) ∧ (l2 = 0 → ((0 ≤ l2 ∧ l2 < 1024) ∧ (∀ g5, g5 = zi_u g 241 l2 1 → w_M_waysWith_l2 K30 Q f (l2 + 1) g5)))))))
noncomputable def w_M_waysWith_l73 (l3 : Int) (l4 : Int) (K118 : Int → zi_M → Prop) (Q : Int → zi_M → Prop) : Nat → Int → Int → zi_M → Prop
  | 0, _, _, _ => False
  | f + 1, l5, l6, g => (zi_r l6 ∧ ((10 ≤ l6 → K118 l5 g) ∧ (l6 < 10 → w_M_has (zi_and l4 l3) l6 g (fun v17 g18 => ((v17 = 0 → w_M_waysWith_l73 l3 l4 K118 Q f l5 (l6 + 1) g18) ∧ (¬ v17 = 0 → ((0 ≤ (zi_and l4 (zi_xor (zi_shl 1 l6) (-1))) ∧ (zi_and l4 (zi_xor (zi_shl 1 l6) (-1))) < 1024) ∧ (∀ y21, y21 = zi_w (l5 + (g18 241 (zi_and l4 (zi_xor (zi_shl 1 l6) (-1))))) → w_M_waysWith_l73 l3 l4 K118 Q f y21 (l6 + 1) g18))))))))
noncomputable def w_M_waysWith_l62 (l3 : Int) (K133 : zi_M → Prop) (Q : Int → zi_M → Prop) : Nat → Int → zi_M → Prop
  | 0, _, _ => False
  | f + 1, l4, g => (zi_r l4 ∧ ((l4 < 0 → K133 g) ∧ (0 ≤ l4 → (∃ f28, w_M_waysWith_l73 l3 l4 (fun k24 g25 => ((0 ≤ l4 ∧ l4 < 1024) ∧ (∀ g27, g27 = zi_u g25 241 l4 k24 → w_M_waysWith_l62 l3 K133 Q f (l4 + (-1)) g27))) Q f28 0 0 g))))
noncomputable def w_M_waysWith_l32 (l1 : Int) (K139 : zi_M → Prop) (Q : Int → zi_M → Prop) : Nat → Int → zi_M → Prop
  | 0, _, _ => False
  | f + 1, l2, g => (zi_r l2 ∧ ((8 ≤ l2 → K139 g) ∧ (l2 < 8 → ((0 ≤ l2 ∧ l2 < 8) ∧ (zi_r (g 239 l2) ∧ ((¬ (g 239 l2) = 0 → w_M_seatsOf l2 l1 g (fun v12 g13 => (∃ f31, w_M_waysWith_l62 v12 (fun g30 => w_M_waysWith_l32 l1 K139 Q f (l2 + 1) g30) Q f31 1023 g13))) ∧ ((g 239 l2) = 0 → w_M_waysWith_l32 l1 K139 Q f (l2 + 1) g)))))))
noncomputable def w_M_waysWith_l143 (K165 : Int → zi_M → Prop) (Q : Int → zi_M → Prop) : Nat → Int → Int → zi_M → Prop
  | 0, _, _, _ => False
  | f + 1, l2, l3, g => (zi_r l3 ∧ ((1024 ≤ l3 → K165 l2 g) ∧ (l3 < 1024 → ((0 ≤ l3 ∧ l3 < 1024) ∧ w_M_waysWith_l143 K165 Q f (zi_w (l2 + (g 241 l3))) (l3 + 1) g))))
noncomputable def w_M_waysWith (l1 : Int) (g : zi_M) (Q : Int → zi_M → Prop) : Prop := (∃ f42, w_M_waysWith_l2 (fun g8 => (∃ f41, w_M_waysWith_l32 l1 (fun g34 => (∃ f40, w_M_waysWith_l143 (fun k38 g39 => Q k38 g39) Q f40 0 0 g34)) Q f41 0 g8)) Q f42 0 g)
set_option maxRecDepth 100000 in
theorem s_M_waysWith_l2_r {E : sx_E} {d : Nat} (hd : 2 ≤ d) {x1 : Int} {K30 : zi_M → Prop} {Q : Int → zi_M → Prop} (hK30 : ∀ (g : zi_M), K30 g → zi_W E d 285 30 [some (.ref 214), some (zi_i x1), none, none, none, none, none] [] g (zi_Q Q)) : ∀ (f : Nat) {l2 : Int} {g : zi_M}, w_M_waysWith_l2 K30 Q f l2 g → zi_W E d 285 2 [some (.ref 214), some (zi_i x1), some (zi_i l2), none, none, none, none] [] g (zi_Q Q)
  | 0, _, _, h => False.elim h
  | f + 1, l2, g, h => by
    refine zi_iload_n (pc' := 3) rfl rfl rfl ?_
    refine zi_sipush (pc' := 6) rfl rfl (by decide) ?_
    obtain ⟨o1, h⟩ := h
    refine zi_icmp_ge (x := 30) (pc' := 9) rfl rfl o1 (by decide) (fun c7 => ?_) (fun c7 => ?_)
    · replace h := h.1 c7
      exact zi_wk (hK30 _ h) (And.intro rfl (And.intro rfl trivial))
    · replace h := h.2 c7
      refine zi_aload_n (pc' := 10) rfl rfl rfl ?_
      refine zi_getr (pc' := 13) rfl rfl rfl rfl rfl ?_
      refine zi_iload_n (pc' := 14) rfl rfl rfl ?_
      refine zi_iload_n (pc' := 15) rfl rfl rfl ?_
      refine zi_if_ne (x := 22) (pc' := 18) rfl rfl o1  (fun c6 => ?_) (fun c6 => ?_)
      · replace h := h.1 c6
        refine zi_iconst (pc' := 23) rfl rfl ?_
        obtain ⟨o2, h⟩ := h
        refine zi_iast (pc' := 24) rfl rfl rfl o2 ?_
        replace h := h _ rfl
        refine zi_iinc (pc' := 27) [some _, some _, some _, none, none, none, none] rfl rfl rfl rfl ?_
        refine zi_goto (x := 2) rfl ?_
        exact zi_wk (s_M_waysWith_l2_r hd hK30 f h) (And.intro rfl (And.intro rfl (And.intro rfl trivial)))
      · replace h := h.2 c6
        refine zi_iconst (pc' := 19) rfl rfl ?_
        refine zi_goto (x := 23) rfl ?_
        obtain ⟨o4, h⟩ := h
        refine zi_iast (pc' := 24) rfl rfl rfl o4 ?_
        replace h := h _ rfl
        refine zi_iinc (pc' := 27) [some _, some _, some _, none, none, none, none] rfl rfl rfl rfl ?_
        refine zi_goto (x := 2) rfl ?_
        exact zi_wk (s_M_waysWith_l2_r hd hK30 f h) (And.intro rfl (And.intro rfl (And.intro rfl trivial)))
set_option maxRecDepth 100000 in
theorem s_M_waysWith_l2 {E : sx_E} {d : Nat} (hd : 2 ≤ d) {x1 : Int} {K30 : zi_M → Prop} {Q : Int → zi_M → Prop} {l2 : Int} {g : zi_M} (h : ∃ f, w_M_waysWith_l2 K30 Q f l2 g) (hK30 : ∀ (g : zi_M), K30 g → zi_W E d 285 30 [some (.ref 214), some (zi_i x1), none, none, none, none, none] [] g (zi_Q Q)) : zi_W E d 285 2 [some (.ref 214), some (zi_i x1), some (zi_i l2), none, none, none, none] [] g (zi_Q Q) := by
  obtain ⟨f, h⟩ := h
  exact s_M_waysWith_l2_r hd hK30 f h
set_option maxRecDepth 100000 in
theorem s_M_waysWith_l73_r {E : sx_E} {d : Nat} (hd : 2 ≤ d) {l3 : Int} {l4 : Int} {x1 : Int} {x2 : Int} {K118 : Int → zi_M → Prop} {Q : Int → zi_M → Prop} (hK118 : ∀ (k5 : Int) (g : zi_M), K118 k5 g → zi_W E d 285 118 [some (.ref 214), some (zi_i x1), some (zi_i x2), some (zi_i l3), some (zi_i l4), some (zi_i k5), none] [] g (zi_Q Q)) : ∀ (f : Nat) {l5 : Int} {l6 : Int} {g : zi_M}, w_M_waysWith_l73 l3 l4 K118 Q f l5 l6 g → zi_W E d 285 73 [some (.ref 214), some (zi_i x1), some (zi_i x2), some (zi_i l3), some (zi_i l4), some (zi_i l5), some (zi_i l6)] [] g (zi_Q Q)
  | 0, _, _, _, h => False.elim h
  | f + 1, l5, l6, g, h => by
    refine zi_iload (pc' := 75) rfl rfl rfl ?_
    refine zi_bipush (pc' := 77) rfl rfl (by decide) ?_
    obtain ⟨o16, h⟩ := h
    refine zi_icmp_ge (x := 118) (pc' := 80) rfl rfl o16 (by decide) (fun c23 => ?_) (fun c23 => ?_)
    · replace h := h.1 c23
      exact zi_wk (hK118 _ _ h) (And.intro rfl (And.intro rfl (And.intro rfl (And.intro rfl (And.intro rfl (And.intro rfl trivial))))))
    · replace h := h.2 c23
      refine zi_aload_n (pc' := 81) rfl rfl rfl ?_
      refine zi_iload (pc' := 83) rfl rfl rfl ?_
      refine zi_iload_n (pc' := 84) rfl rfl rfl ?_
      refine zi_iand (pc' := 85) rfl rfl ?_
      refine zi_iload (pc' := 87) rfl rfl rfl ?_
      refine zi_callV (d' := 1) (as := [_, _]) (pc' := 90) rfl rfl rfl rfl (Nat.lt_of_lt_of_le (by decide) hd) (s_M_has (Nat.le_refl _) h) (zi_kb (fun v17 g18 b19 h => ?_))
      refine zi_if_eq (x := 112) (pc' := 93) rfl rfl (zi_r_bit b19)  (fun c22 => ?_) (fun c22 => ?_)
      · replace h := h.1 c22
        refine zi_iinc (pc' := 115) [some _, some _, some _, some _, some _, some _, some _] rfl rfl rfl rfl ?_
        refine zi_goto (x := 73) rfl ?_
        exact zi_wk (s_M_waysWith_l73_r hd hK118 f h) (And.intro rfl (And.intro rfl (And.intro rfl (And.intro rfl (And.intro rfl (And.intro rfl (And.intro rfl trivial)))))))
      · replace h := h.2 c22
        refine zi_iload (pc' := 95) rfl rfl rfl ?_
        refine zi_aload_n (pc' := 96) rfl rfl rfl ?_
        refine zi_getr (pc' := 99) rfl rfl rfl rfl rfl ?_
        refine zi_iload (pc' := 101) rfl rfl rfl ?_
        refine zi_iconst (pc' := 102) rfl rfl ?_
        refine zi_iload (pc' := 104) rfl rfl rfl ?_
        refine zi_ishl (pc' := 105) rfl rfl ?_
        refine zi_iconst (pc' := 106) rfl rfl ?_
        refine zi_ixor (pc' := 107) rfl rfl ?_
        refine zi_iand (pc' := 108) rfl rfl ?_
        obtain ⟨o20, h⟩ := h
        refine zi_iald (pc' := 109) rfl rfl rfl o20 ?_
        refine zi_iadd (pc' := 110) rfl rfl ?_
        refine zi_wrap ?_
        refine zi_istore (pc' := 112) [some _, some _, some _, some _, some _, some _, some _] rfl rfl rfl ?_
        replace h := h _ rfl
        refine zi_iinc (pc' := 115) [some _, some _, some _, some _, some _, some _, some _] rfl rfl rfl rfl ?_
        refine zi_goto (x := 73) rfl ?_
        exact zi_wk (s_M_waysWith_l73_r hd hK118 f h) (And.intro rfl (And.intro rfl (And.intro rfl (And.intro rfl (And.intro rfl (And.intro rfl (And.intro rfl trivial)))))))
set_option maxRecDepth 100000 in
theorem s_M_waysWith_l73 {E : sx_E} {d : Nat} (hd : 2 ≤ d) {l3 : Int} {l4 : Int} {x1 : Int} {x2 : Int} {K118 : Int → zi_M → Prop} {Q : Int → zi_M → Prop} {l5 : Int} {l6 : Int} {g : zi_M} (h : ∃ f, w_M_waysWith_l73 l3 l4 K118 Q f l5 l6 g) (hK118 : ∀ (k5 : Int) (g : zi_M), K118 k5 g → zi_W E d 285 118 [some (.ref 214), some (zi_i x1), some (zi_i x2), some (zi_i l3), some (zi_i l4), some (zi_i k5), none] [] g (zi_Q Q)) : zi_W E d 285 73 [some (.ref 214), some (zi_i x1), some (zi_i x2), some (zi_i l3), some (zi_i l4), some (zi_i l5), some (zi_i l6)] [] g (zi_Q Q) := by
  obtain ⟨f, h⟩ := h
  exact s_M_waysWith_l73_r hd hK118 f h
set_option maxRecDepth 100000 in
theorem s_M_waysWith_l62_r {E : sx_E} {d : Nat} (hd : 2 ≤ d) {l3 : Int} {x1 : Int} {x2 : Int} {K133 : zi_M → Prop} {Q : Int → zi_M → Prop} (hK133 : ∀ (g : zi_M), K133 g → zi_W E d 285 133 [some (.ref 214), some (zi_i x1), some (zi_i x2), some (zi_i l3), none, none, none] [] g (zi_Q Q)) : ∀ (f : Nat) {l4 : Int} {g : zi_M}, w_M_waysWith_l62 l3 K133 Q f l4 g → zi_W E d 285 62 [some (.ref 214), some (zi_i x1), some (zi_i x2), some (zi_i l3), some (zi_i l4), none, none] [] g (zi_Q Q)
  | 0, _, _, h => False.elim h
  | f + 1, l4, g, h => by
    refine zi_iload (pc' := 64) rfl rfl rfl ?_
    obtain ⟨o15, h⟩ := h
    refine zi_if_lt (x := 133) (pc' := 67) rfl rfl o15  (fun c29 => ?_) (fun c29 => ?_)
    · replace h := h.1 c29
      exact zi_wk (hK133 _ h) (And.intro rfl (And.intro rfl (And.intro rfl (And.intro rfl trivial))))
    · replace h := h.2 c29
      refine zi_iconst (pc' := 68) rfl rfl ?_
      refine zi_istore (pc' := 70) [some _, some _, some _, some _, some _, some _, none] rfl rfl rfl ?_
      refine zi_iconst (pc' := 71) rfl rfl ?_
      refine zi_istore (pc' := 73) [some _, some _, some _, some _, some _, some _, some _] rfl rfl rfl ?_
      refine zi_wk (s_M_waysWith_l73 hd h (fun k24 g25 h => ?_)) (And.intro rfl (And.intro rfl (And.intro rfl (And.intro rfl (And.intro rfl (And.intro rfl (And.intro rfl trivial)))))))
      refine zi_aload_n (pc' := 119) rfl rfl rfl ?_
      refine zi_getr (pc' := 122) rfl rfl rfl rfl rfl ?_
      refine zi_iload (pc' := 124) rfl rfl rfl ?_
      refine zi_iload (pc' := 126) rfl rfl rfl ?_
      obtain ⟨o26, h⟩ := h
      refine zi_iast (pc' := 127) rfl rfl rfl o26 ?_
      replace h := h _ rfl
      refine zi_iinc (pc' := 130) [some _, some _, some _, some _, some _, some _, none] rfl rfl rfl rfl ?_
      refine zi_goto (x := 62) rfl ?_
      exact zi_wk (s_M_waysWith_l62_r hd hK133 f h) (And.intro rfl (And.intro rfl (And.intro rfl (And.intro rfl (And.intro rfl trivial)))))
set_option maxRecDepth 100000 in
theorem s_M_waysWith_l62 {E : sx_E} {d : Nat} (hd : 2 ≤ d) {l3 : Int} {x1 : Int} {x2 : Int} {K133 : zi_M → Prop} {Q : Int → zi_M → Prop} {l4 : Int} {g : zi_M} (h : ∃ f, w_M_waysWith_l62 l3 K133 Q f l4 g) (hK133 : ∀ (g : zi_M), K133 g → zi_W E d 285 133 [some (.ref 214), some (zi_i x1), some (zi_i x2), some (zi_i l3), none, none, none] [] g (zi_Q Q)) : zi_W E d 285 62 [some (.ref 214), some (zi_i x1), some (zi_i x2), some (zi_i l3), some (zi_i l4), none, none] [] g (zi_Q Q) := by
  obtain ⟨f, h⟩ := h
  exact s_M_waysWith_l62_r hd hK133 f h
set_option maxRecDepth 100000 in
theorem s_M_waysWith_l32_r {E : sx_E} {d : Nat} (hd : 2 ≤ d) {l1 : Int} {K139 : zi_M → Prop} {Q : Int → zi_M → Prop} (hK139 : ∀ (g : zi_M), K139 g → zi_W E d 285 139 [some (.ref 214), some (zi_i l1), none, none, none, none, none] [] g (zi_Q Q)) : ∀ (f : Nat) {l2 : Int} {g : zi_M}, w_M_waysWith_l32 l1 K139 Q f l2 g → zi_W E d 285 32 [some (.ref 214), some (zi_i l1), some (zi_i l2), none, none, none, none] [] g (zi_Q Q)
  | 0, _, _, h => False.elim h
  | f + 1, l2, g, h => by
    refine zi_iload_n (pc' := 33) rfl rfl rfl ?_
    refine zi_bipush (pc' := 35) rfl rfl (by decide) ?_
    obtain ⟨o9, h⟩ := h
    refine zi_icmp_ge (x := 139) (pc' := 38) rfl rfl o9 (by decide) (fun c33 => ?_) (fun c33 => ?_)
    · replace h := h.1 c33
      exact zi_wk (hK139 _ h) (And.intro rfl (And.intro rfl trivial))
    · replace h := h.2 c33
      refine zi_aload_n (pc' := 39) rfl rfl rfl ?_
      refine zi_getr (pc' := 42) rfl rfl rfl rfl rfl ?_
      refine zi_iload_n (pc' := 43) rfl rfl rfl ?_
      obtain ⟨o10, h⟩ := h
      refine zi_iald (pc' := 44) rfl rfl rfl o10 ?_
      obtain ⟨o11, h⟩ := h
      refine zi_if_ne (x := 50) (pc' := 47) rfl rfl o11  (fun c32 => ?_) (fun c32 => ?_)
      · replace h := h.1 c32
        refine zi_aload_n (pc' := 51) rfl rfl rfl ?_
        refine zi_iload_n (pc' := 52) rfl rfl rfl ?_
        refine zi_iload_n (pc' := 53) rfl rfl rfl ?_
        refine zi_callV (d' := 1) (as := [_, _]) (pc' := 56) rfl rfl rfl rfl (Nat.lt_of_lt_of_le (by decide) hd) (s_M_seatsOf (Nat.le_refl _) h) (zi_ki (fun v12 g13 h => ?_))
        refine zi_istore_n (pc' := 57) [some _, some _, some _, some _, none, none, none] rfl rfl rfl ?_
        refine zi_sipush (pc' := 60) rfl rfl (by decide) ?_
        refine zi_istore (pc' := 62) [some _, some _, some _, some _, some _, none, none] rfl rfl rfl ?_
        refine zi_wk (s_M_waysWith_l62 hd h (fun g30 h => ?_)) (And.intro rfl (And.intro rfl (And.intro rfl (And.intro rfl (And.intro rfl trivial)))))
        refine zi_iinc (pc' := 136) [some _, some _, some _, some _, none, none, none] rfl rfl rfl rfl ?_
        refine zi_goto (x := 32) rfl ?_
        exact zi_wk (s_M_waysWith_l32_r hd hK139 f h) (And.intro rfl (And.intro rfl (And.intro rfl trivial)))
      · replace h := h.2 c32
        refine zi_goto (x := 133) rfl ?_
        refine zi_iinc (pc' := 136) [some _, some _, some _, none, none, none, none] rfl rfl rfl rfl ?_
        refine zi_goto (x := 32) rfl ?_
        exact zi_wk (s_M_waysWith_l32_r hd hK139 f h) (And.intro rfl (And.intro rfl (And.intro rfl trivial)))
set_option maxRecDepth 100000 in
theorem s_M_waysWith_l32 {E : sx_E} {d : Nat} (hd : 2 ≤ d) {l1 : Int} {K139 : zi_M → Prop} {Q : Int → zi_M → Prop} {l2 : Int} {g : zi_M} (h : ∃ f, w_M_waysWith_l32 l1 K139 Q f l2 g) (hK139 : ∀ (g : zi_M), K139 g → zi_W E d 285 139 [some (.ref 214), some (zi_i l1), none, none, none, none, none] [] g (zi_Q Q)) : zi_W E d 285 32 [some (.ref 214), some (zi_i l1), some (zi_i l2), none, none, none, none] [] g (zi_Q Q) := by
  obtain ⟨f, h⟩ := h
  exact s_M_waysWith_l32_r hd hK139 f h
set_option maxRecDepth 100000 in
theorem s_M_waysWith_l143_r {E : sx_E} {d : Nat} (hd : 2 ≤ d) {K165 : Int → zi_M → Prop} {Q : Int → zi_M → Prop} (hK165 : ∀ (k2 : Int) (g : zi_M), K165 k2 g → zi_W E d 285 165 [some (.ref 214), none, some (zi_i k2), none, none, none, none] [] g (zi_Q Q)) : ∀ (f : Nat) {l2 : Int} {l3 : Int} {g : zi_M}, w_M_waysWith_l143 K165 Q f l2 l3 g → zi_W E d 285 143 [some (.ref 214), none, some (zi_i l2), some (zi_i l3), none, none, none] [] g (zi_Q Q)
  | 0, _, _, _, h => False.elim h
  | f + 1, l2, l3, g, h => by
    refine zi_iload_n (pc' := 144) rfl rfl rfl ?_
    refine zi_sipush (pc' := 147) rfl rfl (by decide) ?_
    obtain ⟨o35, h⟩ := h
    refine zi_icmp_ge (x := 165) (pc' := 150) rfl rfl o35 (by decide) (fun c37 => ?_) (fun c37 => ?_)
    · replace h := h.1 c37
      exact zi_wk (hK165 _ _ h) (And.intro rfl (And.intro rfl trivial))
    · replace h := h.2 c37
      refine zi_iload_n (pc' := 151) rfl rfl rfl ?_
      refine zi_aload_n (pc' := 152) rfl rfl rfl ?_
      refine zi_getr (pc' := 155) rfl rfl rfl rfl rfl ?_
      refine zi_iload_n (pc' := 156) rfl rfl rfl ?_
      obtain ⟨o36, h⟩ := h
      refine zi_iald (pc' := 157) rfl rfl rfl o36 ?_
      refine zi_iadd (pc' := 158) rfl rfl ?_
      refine zi_wrap ?_
      refine zi_istore_n (pc' := 159) [some _, none, some _, some _, none, none, none] rfl rfl rfl ?_
      refine zi_iinc (pc' := 162) [some _, none, some _, some _, none, none, none] rfl rfl rfl rfl ?_
      refine zi_goto (x := 143) rfl ?_
      exact zi_wk (s_M_waysWith_l143_r hd hK165 f h) (And.intro rfl (And.intro rfl (And.intro rfl trivial)))
set_option maxRecDepth 100000 in
theorem s_M_waysWith_l143 {E : sx_E} {d : Nat} (hd : 2 ≤ d) {K165 : Int → zi_M → Prop} {Q : Int → zi_M → Prop} {l2 : Int} {l3 : Int} {g : zi_M} (h : ∃ f, w_M_waysWith_l143 K165 Q f l2 l3 g) (hK165 : ∀ (k2 : Int) (g : zi_M), K165 k2 g → zi_W E d 285 165 [some (.ref 214), none, some (zi_i k2), none, none, none, none] [] g (zi_Q Q)) : zi_W E d 285 143 [some (.ref 214), none, some (zi_i l2), some (zi_i l3), none, none, none] [] g (zi_Q Q) := by
  obtain ⟨f, h⟩ := h
  exact s_M_waysWith_l143_r hd hK165 f h
set_option maxRecDepth 100000 in
theorem s_M_waysWith {E : sx_E} {d : Nat} (hd : 2 ≤ d) {l1 : Int} {g : zi_M} {Q : Int → zi_M → Prop} (h : w_M_waysWith l1 g Q) : zi_S E d 285 [.ref 214, zi_i l1] g (zi_Q Q) := by
  refine zi_Sof jf_285 [some (.ref 214), some (zi_i l1), none, none, none, none, none] rfl (And.intro rfl (And.intro rfl trivial)) ?_
  unfold w_M_waysWith at h
  refine zi_iconst (pc' := 1) rfl rfl ?_
  refine zi_istore_n (pc' := 2) [some _, some _, some _, none, none, none, none] rfl rfl rfl ?_
  refine zi_wk (s_M_waysWith_l2 hd h (fun g8 h => ?_)) (And.intro rfl (And.intro rfl (And.intro rfl trivial)))
  refine zi_iconst (pc' := 31) rfl rfl ?_
  refine zi_istore_n (pc' := 32) [some _, some _, some _, none, none, none, none] rfl rfl rfl ?_
  refine zi_wk (s_M_waysWith_l32 hd h (fun g34 h => ?_)) (And.intro rfl (And.intro rfl (And.intro rfl trivial)))
  refine zi_iconst (pc' := 140) rfl rfl ?_
  refine zi_istore_n (pc' := 141) [some _, some _, some _, none, none, none, none] rfl rfl rfl ?_
  refine zi_iconst (pc' := 142) rfl rfl ?_
  refine zi_istore_n (pc' := 143) [some _, some _, some _, some _, none, none, none] rfl rfl rfl ?_
  refine zi_wk (s_M_waysWith_l143 hd h (fun k38 g39 h => ?_)) (And.intro rfl (And.intro rfl (And.intro rfl trivial)))
  refine zi_iload_n (pc' := 166) rfl rfl rfl ?_
  exact zi_iret rfl rfl h
-- SpoutNewsModel.isFirstTold(I)Z
noncomputable def w_M_isFirstTold_l2 (l1 : Int) (K22 : zi_M → Prop) (K30 : zi_M → Prop) (Q : Int → zi_M → Prop) : Nat → Int → zi_M → Prop
  | 0, _, _ => False
  | f + 1, l2, g => (zi_r l2 ∧ zi_r l1 ∧ ((l1 ≤ l2 → K30 g) ∧ (l2 < l1 → ((0 ≤ l2 ∧ l2 < 12) ∧ ((0 ≤ l1 ∧ l1 < 12) ∧ (zi_r (g 240 l2) ∧ zi_r (g 240 l1) ∧ ((¬ (g 240 l2) = (g 240 l1) → w_M_isFirstTold_l2 l1 K22 K30 Q f (l2 + 1) g) ∧ ((g 240 l2) = (g 240 l1) → K22 g))))))))
noncomputable def w_M_isFirstTold (l1 : Int) (g : zi_M) (Q : Int → zi_M → Prop) : Prop := (∃ f11, w_M_isFirstTold_l2 l1 (fun g9 => Q 0 g9) (fun g10 => Q 1 g10) Q f11 0 g)
set_option maxRecDepth 100000 in
theorem s_M_isFirstTold_l2_r {E : sx_E} {d : Nat} (hd : 1 ≤ d) {l1 : Int} {K22 : zi_M → Prop} {K30 : zi_M → Prop} {Q : Int → zi_M → Prop} (hK22 : ∀ (g : zi_M), K22 g → zi_W E d 288 22 [some (.ref 214), some (zi_i l1), none] [] g (zi_Qb Q)) (hK30 : ∀ (g : zi_M), K30 g → zi_W E d 288 30 [some (.ref 214), some (zi_i l1), none] [] g (zi_Qb Q)) : ∀ (f : Nat) {l2 : Int} {g : zi_M}, w_M_isFirstTold_l2 l1 K22 K30 Q f l2 g → zi_W E d 288 2 [some (.ref 214), some (zi_i l1), some (zi_i l2)] [] g (zi_Qb Q)
  | 0, _, _, h => False.elim h
  | f + 1, l2, g, h => by
    refine zi_iload_n (pc' := 3) rfl rfl rfl ?_
    refine zi_iload_n (pc' := 4) rfl rfl rfl ?_
    obtain ⟨o1, o2, h⟩ := h
    refine zi_icmp_ge (x := 30) (pc' := 7) rfl rfl o1 o2 (fun c8 => ?_) (fun c8 => ?_)
    · replace h := h.1 c8
      exact zi_wk (hK30 _ h) (And.intro rfl (And.intro rfl trivial))
    · replace h := h.2 c8
      refine zi_aload_n (pc' := 8) rfl rfl rfl ?_
      refine zi_getr (pc' := 11) rfl rfl rfl rfl rfl ?_
      refine zi_iload_n (pc' := 12) rfl rfl rfl ?_
      obtain ⟨o3, h⟩ := h
      refine zi_iald (pc' := 13) rfl rfl rfl o3 ?_
      refine zi_aload_n (pc' := 14) rfl rfl rfl ?_
      refine zi_getr (pc' := 17) rfl rfl rfl rfl rfl ?_
      refine zi_iload_n (pc' := 18) rfl rfl rfl ?_
      obtain ⟨o4, h⟩ := h
      refine zi_iald (pc' := 19) rfl rfl rfl o4 ?_
      obtain ⟨o5, o6, h⟩ := h
      refine zi_icmp_ne (x := 24) (pc' := 22) rfl rfl o5 o6 (fun c7 => ?_) (fun c7 => ?_)
      · replace h := h.1 c7
        refine zi_iinc (pc' := 27) [some _, some _, some _] rfl rfl rfl rfl ?_
        refine zi_goto (x := 2) rfl ?_
        exact zi_wk (s_M_isFirstTold_l2_r hd hK22 hK30 f h) (And.intro rfl (And.intro rfl (And.intro rfl trivial)))
      · replace h := h.2 c7
        exact zi_wk (hK22 _ h) (And.intro rfl (And.intro rfl trivial))
set_option maxRecDepth 100000 in
theorem s_M_isFirstTold_l2 {E : sx_E} {d : Nat} (hd : 1 ≤ d) {l1 : Int} {K22 : zi_M → Prop} {K30 : zi_M → Prop} {Q : Int → zi_M → Prop} {l2 : Int} {g : zi_M} (h : ∃ f, w_M_isFirstTold_l2 l1 K22 K30 Q f l2 g) (hK22 : ∀ (g : zi_M), K22 g → zi_W E d 288 22 [some (.ref 214), some (zi_i l1), none] [] g (zi_Qb Q)) (hK30 : ∀ (g : zi_M), K30 g → zi_W E d 288 30 [some (.ref 214), some (zi_i l1), none] [] g (zi_Qb Q)) : zi_W E d 288 2 [some (.ref 214), some (zi_i l1), some (zi_i l2)] [] g (zi_Qb Q) := by
  obtain ⟨f, h⟩ := h
  exact s_M_isFirstTold_l2_r hd hK22 hK30 f h
set_option maxRecDepth 100000 in
theorem s_M_isFirstTold {E : sx_E} {d : Nat} (hd : 1 ≤ d) {l1 : Int} {g : zi_M} {Q : Int → zi_M → Prop} (h : w_M_isFirstTold l1 g Q) : zi_S E d 288 [.ref 214, zi_i l1] g (zi_Qb Q) := by
  refine zi_Sof jf_288 [some (.ref 214), some (zi_i l1), none] rfl (And.intro rfl (And.intro rfl trivial)) ?_
  unfold w_M_isFirstTold at h
  refine zi_iconst (pc' := 1) rfl rfl ?_
  refine zi_istore_n (pc' := 2) [some _, some _, some _] rfl rfl rfl ?_
  refine zi_wk (s_M_isFirstTold_l2 hd h (fun g9 h => ?_) (fun g10 h => ?_)) (And.intro rfl (And.intro rfl (And.intro rfl trivial)))
  · refine zi_iconst (pc' := 23) rfl rfl ?_
    exact zi_zret rfl rfl (Or.inl rfl) h
  · refine zi_iconst (pc' := 31) rfl rfl ?_
    exact zi_zret rfl rfl (Or.inr rfl) h
-- SpoutNewsModel.greater(II)I
noncomputable def w_M_greater (l1 : Int) (l2 : Int) (g : zi_M) (Q : Int → zi_M → Prop) : Prop := (zi_r l1 ∧ zi_r l2 ∧ ((l1 ≤ l2 → Q l2 g) ∧ (l2 < l1 → Q l1 g)))
set_option maxRecDepth 100000 in
theorem s_M_greater {E : sx_E} {d : Nat} (hd : 1 ≤ d) {l1 : Int} {l2 : Int} {g : zi_M} {Q : Int → zi_M → Prop} (h : w_M_greater l1 l2 g Q) : zi_S E d 287 [.ref 214, zi_i l1, zi_i l2] g (zi_Q Q) := by
  refine zi_Sof jf_287 [some (.ref 214), some (zi_i l1), some (zi_i l2)] rfl (And.intro rfl (And.intro rfl (And.intro rfl trivial))) ?_
  unfold w_M_greater at h
  refine zi_iload_n (pc' := 1) rfl rfl rfl ?_
  refine zi_iload_n (pc' := 2) rfl rfl rfl ?_
  obtain ⟨o1, o2, h⟩ := h
  refine zi_icmp_le (x := 9) (pc' := 5) rfl rfl o1 o2 (fun c3 => ?_) (fun c3 => ?_)
  · replace h := h.1 c3
    refine zi_iload_n (pc' := 10) rfl rfl rfl ?_
    exact zi_iret rfl rfl h
  · replace h := h.2 c3
    refine zi_iload_n (pc' := 6) rfl rfl rfl ?_
    refine zi_goto (x := 10) rfl ?_
    exact zi_iret rfl rfl h
-- SpoutNewsModel.askedBest()I
noncomputable def w_M_askedBest_l32 (l3 : Int) (K79 : Int → zi_M → Prop) (Q : Int → zi_M → Prop) : Nat → Int → Int → zi_M → Prop
  | 0, _, _, _ => False
  | f + 1, l4, l5, g => (zi_r l5 ∧ ((10 ≤ l5 → K79 l4 g) ∧ (l5 < 10 → ((0 ≤ l3 ∧ l3 < 8) ∧ w_M_has (g 239 l3) l5 g (fun v6 g7 => ((v6 = 0 → w_M_askedBest_l32 l3 K79 Q f l4 (l5 + 1) g7) ∧ (¬ v6 = 0 → w_M_waysWith ((10 * l3) + l5) g7 (fun v9 g10 => w_M_greater l4 v9 g10 (fun v12 g13 => w_M_askedBest_l32 l3 K79 Q f v12 (l5 + 1) g13)))))))))
noncomputable def w_M_askedBest_l8 (K105 : Int → zi_M → Prop) (Q : Int → zi_M → Prop) : Nat → Int → Int → Int → zi_M → Prop
  | 0, _, _, _, _ => False
  | f + 1, l1, l2, l3, g => (zi_r l3 ∧ ((8 ≤ l3 → K105 l1 g) ∧ (l3 < 8 → ((0 ≤ l3 ∧ l3 < 8) ∧ (zi_r (g 239 l3) ∧ ((¬ (g 239 l3) = 0 → (∃ f28, w_M_askedBest_l32 l3 (fun k17 g18 => (zi_r k17 ∧ zi_r l2 ∧ ((l2 ≤ k17 → w_M_lesser l2 k17 g18 (fun v21 g22 => w_M_askedBest_l8 K105 Q f l1 v21 (l3 + 1) g22)) ∧ (k17 < l2 → w_M_lesser l2 k17 g18 (fun v24 g25 => w_M_askedBest_l8 K105 Q f l3 v24 (l3 + 1) g25))))) Q f28 0 0 g)) ∧ ((g 239 l3) = 0 → w_M_askedBest_l8 K105 Q f l1 l2 (l3 + 1) g)))))))
noncomputable def w_M_askedBest (g : zi_M) (Q : Int → zi_M → Prop) : Prop := (∃ f33, w_M_askedBest_l8 (fun k31 g32 => Q k31 g32) Q f33 (-1) 100000000 0 g)
set_option maxRecDepth 100000 in
theorem s_M_askedBest_l32_r {E : sx_E} {d : Nat} (hd : 3 ≤ d) {l3 : Int} {x1 : Int} {x2 : Int} {K79 : Int → zi_M → Prop} {Q : Int → zi_M → Prop} (hK79 : ∀ (k4 : Int) (g : zi_M), K79 k4 g → zi_W E d 284 79 [some (.ref 214), some (zi_i x1), some (zi_i x2), some (zi_i l3), some (zi_i k4), none] [] g (zi_Q Q)) : ∀ (f : Nat) {l4 : Int} {l5 : Int} {g : zi_M}, w_M_askedBest_l32 l3 K79 Q f l4 l5 g → zi_W E d 284 32 [some (.ref 214), some (zi_i x1), some (zi_i x2), some (zi_i l3), some (zi_i l4), some (zi_i l5)] [] g (zi_Q Q)
  | 0, _, _, _, h => False.elim h
  | f + 1, l4, l5, g, h => by
    refine zi_iload (pc' := 34) rfl rfl rfl ?_
    refine zi_bipush (pc' := 36) rfl rfl (by decide) ?_
    obtain ⟨o4, h⟩ := h
    refine zi_icmp_ge (x := 79) (pc' := 39) rfl rfl o4 (by decide) (fun c16 => ?_) (fun c16 => ?_)
    · replace h := h.1 c16
      exact zi_wk (hK79 _ _ h) (And.intro rfl (And.intro rfl (And.intro rfl (And.intro rfl (And.intro rfl trivial)))))
    · replace h := h.2 c16
      refine zi_aload_n (pc' := 40) rfl rfl rfl ?_
      refine zi_aload_n (pc' := 41) rfl rfl rfl ?_
      refine zi_getr (pc' := 44) rfl rfl rfl rfl rfl ?_
      refine zi_iload_n (pc' := 45) rfl rfl rfl ?_
      obtain ⟨o5, h⟩ := h
      refine zi_iald (pc' := 46) rfl rfl rfl o5 ?_
      refine zi_iload (pc' := 48) rfl rfl rfl ?_
      refine zi_callV (d' := 1) (as := [_, _]) (pc' := 51) rfl rfl rfl rfl (Nat.lt_of_lt_of_le (by decide) hd) (s_M_has (Nat.le_refl _) h) (zi_kb (fun v6 g7 b8 h => ?_))
      refine zi_if_eq (x := 73) (pc' := 54) rfl rfl (zi_r_bit b8)  (fun c15 => ?_) (fun c15 => ?_)
      · replace h := h.1 c15
        refine zi_iinc (pc' := 76) [some _, some _, some _, some _, some _, some _] rfl rfl rfl rfl ?_
        refine zi_goto (x := 32) rfl ?_
        exact zi_wk (s_M_askedBest_l32_r hd hK79 f h) (And.intro rfl (And.intro rfl (And.intro rfl (And.intro rfl (And.intro rfl (And.intro rfl trivial))))))
      · replace h := h.2 c15
        refine zi_aload_n (pc' := 55) rfl rfl rfl ?_
        refine zi_iload (pc' := 57) rfl rfl rfl ?_
        refine zi_aload_n (pc' := 58) rfl rfl rfl ?_
        refine zi_bipush (pc' := 60) rfl rfl (by decide) ?_
        refine zi_iload_n (pc' := 61) rfl rfl rfl ?_
        refine zi_imul (pc' := 62) rfl rfl ?_
        refine zi_iload (pc' := 64) rfl rfl rfl ?_
        refine zi_iadd (pc' := 65) rfl rfl ?_
        refine zi_callV (d' := 2) (as := [_]) (pc' := 68) rfl rfl rfl rfl (Nat.lt_of_lt_of_le (by decide) hd) (s_M_waysWith (Nat.le_refl _) h) (zi_ki (fun v9 g10 h => ?_))
        refine zi_callV (d' := 1) (as := [_, _]) (pc' := 71) rfl rfl rfl rfl (Nat.lt_of_lt_of_le (by decide) hd) (s_M_greater (Nat.le_refl _) h) (zi_ki (fun v12 g13 h => ?_))
        refine zi_istore (pc' := 73) [some _, some _, some _, some _, some _, some _] rfl rfl rfl ?_
        refine zi_iinc (pc' := 76) [some _, some _, some _, some _, some _, some _] rfl rfl rfl rfl ?_
        refine zi_goto (x := 32) rfl ?_
        exact zi_wk (s_M_askedBest_l32_r hd hK79 f h) (And.intro rfl (And.intro rfl (And.intro rfl (And.intro rfl (And.intro rfl (And.intro rfl trivial))))))
set_option maxRecDepth 100000 in
theorem s_M_askedBest_l32 {E : sx_E} {d : Nat} (hd : 3 ≤ d) {l3 : Int} {x1 : Int} {x2 : Int} {K79 : Int → zi_M → Prop} {Q : Int → zi_M → Prop} {l4 : Int} {l5 : Int} {g : zi_M} (h : ∃ f, w_M_askedBest_l32 l3 K79 Q f l4 l5 g) (hK79 : ∀ (k4 : Int) (g : zi_M), K79 k4 g → zi_W E d 284 79 [some (.ref 214), some (zi_i x1), some (zi_i x2), some (zi_i l3), some (zi_i k4), none] [] g (zi_Q Q)) : zi_W E d 284 32 [some (.ref 214), some (zi_i x1), some (zi_i x2), some (zi_i l3), some (zi_i l4), some (zi_i l5)] [] g (zi_Q Q) := by
  obtain ⟨f, h⟩ := h
  exact s_M_askedBest_l32_r hd hK79 f h
set_option maxRecDepth 100000 in
theorem s_M_askedBest_l8_r {E : sx_E} {d : Nat} (hd : 3 ≤ d) {K105 : Int → zi_M → Prop} {Q : Int → zi_M → Prop} (hK105 : ∀ (k1 : Int) (g : zi_M), K105 k1 g → zi_W E d 284 105 [some (.ref 214), some (zi_i k1), none, none, none, none] [] g (zi_Q Q)) : ∀ (f : Nat) {l1 : Int} {l2 : Int} {l3 : Int} {g : zi_M}, w_M_askedBest_l8 K105 Q f l1 l2 l3 g → zi_W E d 284 8 [some (.ref 214), some (zi_i l1), some (zi_i l2), some (zi_i l3), none, none] [] g (zi_Q Q)
  | 0, _, _, _, _, h => False.elim h
  | f + 1, l1, l2, l3, g, h => by
    refine zi_iload_n (pc' := 9) rfl rfl rfl ?_
    refine zi_bipush (pc' := 11) rfl rfl (by decide) ?_
    obtain ⟨o1, h⟩ := h
    refine zi_icmp_ge (x := 105) (pc' := 14) rfl rfl o1 (by decide) (fun c30 => ?_) (fun c30 => ?_)
    · replace h := h.1 c30
      exact zi_wk (hK105 _ _ h) (And.intro rfl (And.intro rfl trivial))
    · replace h := h.2 c30
      refine zi_aload_n (pc' := 15) rfl rfl rfl ?_
      refine zi_getr (pc' := 18) rfl rfl rfl rfl rfl ?_
      refine zi_iload_n (pc' := 19) rfl rfl rfl ?_
      obtain ⟨o2, h⟩ := h
      refine zi_iald (pc' := 20) rfl rfl rfl o2 ?_
      obtain ⟨o3, h⟩ := h
      refine zi_if_ne (x := 26) (pc' := 23) rfl rfl o3  (fun c29 => ?_) (fun c29 => ?_)
      · replace h := h.1 c29
        refine zi_iconst (pc' := 27) rfl rfl ?_
        refine zi_istore (pc' := 29) [some _, some _, some _, some _, some _, none] rfl rfl rfl ?_
        refine zi_iconst (pc' := 30) rfl rfl ?_
        refine zi_istore (pc' := 32) [some _, some _, some _, some _, some _, some _] rfl rfl rfl ?_
        refine zi_wk (s_M_askedBest_l32 hd h (fun k17 g18 h => ?_)) (And.intro rfl (And.intro rfl (And.intro rfl (And.intro rfl (And.intro rfl (And.intro rfl trivial))))))
        refine zi_iload (pc' := 81) rfl rfl rfl ?_
        refine zi_iload_n (pc' := 82) rfl rfl rfl ?_
        obtain ⟨o19, o20, h⟩ := h
        refine zi_icmp_ge (x := 89) (pc' := 85) rfl rfl o19 o20 (fun c27 => ?_) (fun c27 => ?_)
        · replace h := h.1 c27
          refine zi_iload_n (pc' := 90) rfl rfl rfl ?_
          refine zi_istore_n (pc' := 91) [some _, some _, some _, some _, some _, none] rfl rfl rfl ?_
          refine zi_aload_n (pc' := 92) rfl rfl rfl ?_
          refine zi_iload_n (pc' := 93) rfl rfl rfl ?_
          refine zi_iload (pc' := 95) rfl rfl rfl ?_
          refine zi_callV (d' := 1) (as := [_, _]) (pc' := 98) rfl rfl rfl rfl (Nat.lt_of_lt_of_le (by decide) hd) (s_M_lesser (Nat.le_refl _) h) (zi_ki (fun v21 g22 h => ?_))
          refine zi_istore_n (pc' := 99) [some _, some _, some _, some _, some _, none] rfl rfl rfl ?_
          refine zi_iinc (pc' := 102) [some _, some _, some _, some _, some _, none] rfl rfl rfl rfl ?_
          refine zi_goto (x := 8) rfl ?_
          exact zi_wk (s_M_askedBest_l8_r hd hK105 f h) (And.intro rfl (And.intro rfl (And.intro rfl (And.intro rfl trivial))))
        · replace h := h.2 c27
          refine zi_iload_n (pc' := 86) rfl rfl rfl ?_
          refine zi_goto (x := 90) rfl ?_
          refine zi_istore_n (pc' := 91) [some _, some _, some _, some _, some _, none] rfl rfl rfl ?_
          refine zi_aload_n (pc' := 92) rfl rfl rfl ?_
          refine zi_iload_n (pc' := 93) rfl rfl rfl ?_
          refine zi_iload (pc' := 95) rfl rfl rfl ?_
          refine zi_callV (d' := 1) (as := [_, _]) (pc' := 98) rfl rfl rfl rfl (Nat.lt_of_lt_of_le (by decide) hd) (s_M_lesser (Nat.le_refl _) h) (zi_ki (fun v24 g25 h => ?_))
          refine zi_istore_n (pc' := 99) [some _, some _, some _, some _, some _, none] rfl rfl rfl ?_
          refine zi_iinc (pc' := 102) [some _, some _, some _, some _, some _, none] rfl rfl rfl rfl ?_
          refine zi_goto (x := 8) rfl ?_
          exact zi_wk (s_M_askedBest_l8_r hd hK105 f h) (And.intro rfl (And.intro rfl (And.intro rfl (And.intro rfl trivial))))
      · replace h := h.2 c29
        refine zi_goto (x := 99) rfl ?_
        refine zi_iinc (pc' := 102) [some _, some _, some _, some _, none, none] rfl rfl rfl rfl ?_
        refine zi_goto (x := 8) rfl ?_
        exact zi_wk (s_M_askedBest_l8_r hd hK105 f h) (And.intro rfl (And.intro rfl (And.intro rfl (And.intro rfl trivial))))
set_option maxRecDepth 100000 in
theorem s_M_askedBest_l8 {E : sx_E} {d : Nat} (hd : 3 ≤ d) {K105 : Int → zi_M → Prop} {Q : Int → zi_M → Prop} {l1 : Int} {l2 : Int} {l3 : Int} {g : zi_M} (h : ∃ f, w_M_askedBest_l8 K105 Q f l1 l2 l3 g) (hK105 : ∀ (k1 : Int) (g : zi_M), K105 k1 g → zi_W E d 284 105 [some (.ref 214), some (zi_i k1), none, none, none, none] [] g (zi_Q Q)) : zi_W E d 284 8 [some (.ref 214), some (zi_i l1), some (zi_i l2), some (zi_i l3), none, none] [] g (zi_Q Q) := by
  obtain ⟨f, h⟩ := h
  exact s_M_askedBest_l8_r hd hK105 f h
set_option maxRecDepth 100000 in
theorem s_M_askedBest {E : sx_E} {d : Nat} (hd : 3 ≤ d) {g : zi_M} {Q : Int → zi_M → Prop} (h : w_M_askedBest g Q) : zi_S E d 284 [.ref 214] g (zi_Q Q) := by
  refine zi_Sof jf_284 [some (.ref 214), none, none, none, none, none] rfl (And.intro rfl trivial) ?_
  unfold w_M_askedBest at h
  refine zi_iconst (pc' := 1) rfl rfl ?_
  refine zi_istore_n (pc' := 2) [some _, some _, none, none, none, none] rfl rfl rfl ?_
  refine zi_ldcw (v := 100000000) (pc' := 5) rfl rfl (by decide +kernel) ?_
  refine zi_istore_n (pc' := 6) [some _, some _, some _, none, none, none] rfl rfl rfl ?_
  refine zi_iconst (pc' := 7) rfl rfl ?_
  refine zi_istore_n (pc' := 8) [some _, some _, some _, some _, none, none] rfl rfl rfl ?_
  refine zi_wk (s_M_askedBest_l8 hd h (fun k31 g32 h => ?_)) (And.intro rfl (And.intro rfl (And.intro rfl (And.intro rfl trivial))))
  refine zi_iload_n (pc' := 106) rfl rfl rfl ?_
  exact zi_iret rfl rfl h
-- SpoutNewsModel.ways(I)I
noncomputable def w_M_ways_l44 (l2 : Int) (K91 : Int → zi_M → Prop) (Q : Int → zi_M → Prop) : Nat → Int → Int → zi_M → Prop
  | 0, _, _, _ => False
  | f + 1, l3, l4, g => (zi_r l4 ∧ zi_r (g 214 46) ∧ (((g 214 46) ≤ l4 → K91 l3 g) ∧ (l4 < (g 214 46) → (zi_r l2 ∧ ((l2 ≤ 0 → K91 l3 g) ∧ (0 < l2 → w_M_isFirstTold l4 g (fun v12 g13 => ((v12 = 0 → w_M_ways_l44 l2 K91 Q f l3 (l4 + 1) g13) ∧ (¬ v12 = 0 → ((0 ≤ l4 ∧ l4 < 12) ∧ w_M_waysWith (g13 240 l4) g13 (fun v16 g17 => (zi_r v16 ∧ ((¬ v16 = l2 → w_M_ways_l44 l2 K91 Q f l3 (l4 + 1) g17) ∧ (v16 = l2 → w_M_ways_l44 l2 K91 Q f (l3 + 1) (l4 + 1) g17))))))))))))))
noncomputable def w_M_ways (l1 : Int) (g : zi_M) (Q : Int → zi_M → Prop) : Prop := (∀ g1, g1 = zi_u g 214 0 0 → w_M_isIn l1 0 2 g1 (fun v2 g3 => ((¬ v2 = 0 → (zi_r l1 ∧ ((¬ l1 = 2 → w_M_waysWith (-1) g3 (fun v6 g7 => ((¬ l1 = 0 → (∃ f26, w_M_ways_l44 v6 (fun k24 g25 => Q k24 g25) Q f26 0 0 g7)) ∧ (l1 = 0 → Q v6 g7)))) ∧ (l1 = 2 → w_M_askedBest g3 (fun v28 g29 => Q v28 g29))))) ∧ (v2 = 0 → Q (-1) g3))))
set_option maxRecDepth 100000 in
theorem s_M_ways_l44_r {E : sx_E} {d : Nat} (hd : 4 ≤ d) {l2 : Int} {K91 : Int → zi_M → Prop} {Q : Int → zi_M → Prop} (hK91 : ∀ (k3 : Int) (g : zi_M), K91 k3 g → zi_W E d 283 91 [some (.ref 214), none, some (zi_i l2), some (zi_i k3), none] [] g (zi_Q Q)) : ∀ (f : Nat) {l3 : Int} {l4 : Int} {g : zi_M}, w_M_ways_l44 l2 K91 Q f l3 l4 g → zi_W E d 283 44 [some (.ref 214), none, some (zi_i l2), some (zi_i l3), some (zi_i l4)] [] g (zi_Q Q)
  | 0, _, _, _, h => False.elim h
  | f + 1, l3, l4, g, h => by
    refine zi_iload (pc' := 46) rfl rfl rfl ?_
    refine zi_aload_n (pc' := 47) rfl rfl rfl ?_
    refine zi_geti (pc' := 50) 46 rfl rfl rfl rfl rfl rfl ?_
    obtain ⟨o9, o10, h⟩ := h
    refine zi_icmp_ge (x := 91) (pc' := 53) rfl rfl o9 o10 (fun c23 => ?_) (fun c23 => ?_)
    · replace h := h.1 c23
      exact zi_wk (hK91 _ _ h) (And.intro rfl (And.intro rfl (And.intro rfl trivial)))
    · replace h := h.2 c23
      refine zi_iload_n (pc' := 54) rfl rfl rfl ?_
      obtain ⟨o11, h⟩ := h
      refine zi_if_le (x := 91) (pc' := 57) rfl rfl o11  (fun c22 => ?_) (fun c22 => ?_)
      · replace h := h.1 c22
        exact zi_wk (hK91 _ _ h) (And.intro rfl (And.intro rfl (And.intro rfl trivial)))
      · replace h := h.2 c22
        refine zi_aload_n (pc' := 58) rfl rfl rfl ?_
        refine zi_iload (pc' := 60) rfl rfl rfl ?_
        refine zi_callV (d' := 1) (as := [_]) (pc' := 63) rfl rfl rfl rfl (Nat.lt_of_lt_of_le (by decide) hd) (s_M_isFirstTold (Nat.le_refl _) h) (zi_kb (fun v12 g13 b14 h => ?_))
        refine zi_if_eq (x := 85) (pc' := 66) rfl rfl (zi_r_bit b14)  (fun c21 => ?_) (fun c21 => ?_)
        · replace h := h.1 c21
          refine zi_iinc (pc' := 88) [some _, none, some _, some _, some _] rfl rfl rfl rfl ?_
          refine zi_goto (x := 44) rfl ?_
          exact zi_wk (s_M_ways_l44_r hd hK91 f h) (And.intro rfl (And.intro rfl (And.intro rfl (And.intro rfl trivial))))
        · replace h := h.2 c21
          refine zi_aload_n (pc' := 67) rfl rfl rfl ?_
          refine zi_aload_n (pc' := 68) rfl rfl rfl ?_
          refine zi_getr (pc' := 71) rfl rfl rfl rfl rfl ?_
          refine zi_iload (pc' := 73) rfl rfl rfl ?_
          obtain ⟨o15, h⟩ := h
          refine zi_iald (pc' := 74) rfl rfl rfl o15 ?_
          refine zi_callV (d' := 2) (as := [_]) (pc' := 77) rfl rfl rfl rfl (Nat.lt_of_lt_of_le (by decide) hd) (s_M_waysWith (Nat.le_refl _) h) (zi_ki (fun v16 g17 h => ?_))
          refine zi_iload_n (pc' := 78) rfl rfl rfl ?_
          obtain ⟨o19, h⟩ := h
          refine zi_icmp_ne (x := 85) (pc' := 81) rfl rfl o19 o11 (fun c20 => ?_) (fun c20 => ?_)
          · replace h := h.1 c20
            refine zi_iinc (pc' := 88) [some _, none, some _, some _, some _] rfl rfl rfl rfl ?_
            refine zi_goto (x := 44) rfl ?_
            exact zi_wk (s_M_ways_l44_r hd hK91 f h) (And.intro rfl (And.intro rfl (And.intro rfl (And.intro rfl trivial))))
          · replace h := h.2 c20
            refine zi_iload_n (pc' := 82) rfl rfl rfl ?_
            refine zi_iconst (pc' := 83) rfl rfl ?_
            refine zi_iadd (pc' := 84) rfl rfl ?_
            refine zi_istore_n (pc' := 85) [some _, none, some _, some _, some _] rfl rfl rfl ?_
            refine zi_iinc (pc' := 88) [some _, none, some _, some _, some _] rfl rfl rfl rfl ?_
            refine zi_goto (x := 44) rfl ?_
            exact zi_wk (s_M_ways_l44_r hd hK91 f h) (And.intro rfl (And.intro rfl (And.intro rfl (And.intro rfl trivial))))
set_option maxRecDepth 100000 in
theorem s_M_ways_l44 {E : sx_E} {d : Nat} (hd : 4 ≤ d) {l2 : Int} {K91 : Int → zi_M → Prop} {Q : Int → zi_M → Prop} {l3 : Int} {l4 : Int} {g : zi_M} (h : ∃ f, w_M_ways_l44 l2 K91 Q f l3 l4 g) (hK91 : ∀ (k3 : Int) (g : zi_M), K91 k3 g → zi_W E d 283 91 [some (.ref 214), none, some (zi_i l2), some (zi_i k3), none] [] g (zi_Q Q)) : zi_W E d 283 44 [some (.ref 214), none, some (zi_i l2), some (zi_i l3), some (zi_i l4)] [] g (zi_Q Q) := by
  obtain ⟨f, h⟩ := h
  exact s_M_ways_l44_r hd hK91 f h
set_option maxRecDepth 100000 in
theorem s_M_ways {E : sx_E} {d : Nat} (hd : 4 ≤ d) {l1 : Int} {g : zi_M} {Q : Int → zi_M → Prop} (h : w_M_ways l1 g Q) : zi_S E d 283 [.ref 214, zi_i l1] g (zi_Q Q) := by
  refine zi_Sof jf_283 [some (.ref 214), some (zi_i l1), none, none, none] rfl (And.intro rfl (And.intro rfl trivial)) ?_
  unfold w_M_ways at h
  refine zi_aload_n (pc' := 1) rfl rfl rfl ?_
  refine zi_iconst (pc' := 2) rfl rfl ?_
  refine zi_puti (pc' := 5) 0 rfl rfl rfl rfl rfl  ?_
  replace h := h _ rfl
  refine zi_aload_n (pc' := 6) rfl rfl rfl ?_
  refine zi_iload_n (pc' := 7) rfl rfl rfl ?_
  refine zi_iconst (pc' := 8) rfl rfl ?_
  refine zi_iconst (pc' := 9) rfl rfl ?_
  refine zi_callV (d' := 1) (as := [_, _, _]) (pc' := 12) rfl rfl rfl rfl (Nat.lt_of_lt_of_le (by decide) hd) (s_M_isIn (Nat.le_refl _) h) (zi_kb (fun v2 g3 b4 h => ?_))
  refine zi_if_ne (x := 17) (pc' := 15) rfl rfl (zi_r_bit b4)  (fun c32 => ?_) (fun c32 => ?_)
  · replace h := h.1 c32
    refine zi_iload_n (pc' := 18) rfl rfl rfl ?_
    refine zi_iconst (pc' := 19) rfl rfl ?_
    obtain ⟨o5, h⟩ := h
    refine zi_icmp_ne (x := 27) (pc' := 22) rfl rfl o5 (by decide) (fun c31 => ?_) (fun c31 => ?_)
    · replace h := h.1 c31
      refine zi_aload_n (pc' := 28) rfl rfl rfl ?_
      refine zi_iconst (pc' := 29) rfl rfl ?_
      refine zi_callV (d' := 2) (as := [_]) (pc' := 32) rfl rfl rfl rfl (Nat.lt_of_lt_of_le (by decide) hd) (s_M_waysWith (Nat.le_refl _) h) (zi_ki (fun v6 g7 h => ?_))
      refine zi_istore_n (pc' := 33) [some _, some _, some _, none, none] rfl rfl rfl ?_
      refine zi_iload_n (pc' := 34) rfl rfl rfl ?_
      refine zi_if_ne (x := 39) (pc' := 37) rfl rfl o5  (fun c27 => ?_) (fun c27 => ?_)
      · replace h := h.1 c27
        refine zi_iconst (pc' := 40) rfl rfl ?_
        refine zi_istore_n (pc' := 41) [some _, some _, some _, some _, none] rfl rfl rfl ?_
        refine zi_iconst (pc' := 42) rfl rfl ?_
        refine zi_istore (pc' := 44) [some _, some _, some _, some _, some _] rfl rfl rfl ?_
        refine zi_wk (s_M_ways_l44 hd h (fun k24 g25 h => ?_)) (And.intro rfl (And.intro rfl (And.intro rfl (And.intro rfl trivial))))
        refine zi_iload_n (pc' := 92) rfl rfl rfl ?_
        exact zi_iret rfl rfl h
      · replace h := h.2 c27
        refine zi_iload_n (pc' := 38) rfl rfl rfl ?_
        exact zi_iret rfl rfl h
    · replace h := h.2 c31
      refine zi_aload_n (pc' := 23) rfl rfl rfl ?_
      refine zi_callV (d' := 3) (as := []) (pc' := 26) rfl rfl rfl rfl (Nat.lt_of_lt_of_le (by decide) hd) (s_M_askedBest (Nat.le_refl _) h) (zi_ki (fun v28 g29 h => ?_))
      exact zi_iret rfl rfl h
  · replace h := h.2 c32
    refine zi_iconst (pc' := 16) rfl rfl ?_
    exact zi_iret rfl rfl h
-- SpoutNews.quarrel(II)I
noncomputable def w_S_quarrel (l1 : Int) (l2 : Int) (g : zi_M) (Q : Int → zi_M → Prop) : Prop := (zi_r l1 ∧ ((¬ l1 = (-1) → ((l1 < 0 → Q (-1) g) ∧ (0 ≤ l1 → ((10 ≤ l1 → Q (-1) g) ∧ (l1 < 10 → (zi_r l2 ∧ ((l2 < 0 → Q (-1) g) ∧ (0 ≤ l2 → ((10 ≤ l2 → Q (-1) g) ∧ (l2 < 10 → ((l1 = l2 → Q (-1) g) ∧ (¬ l1 = l2 → (zi_r (g 36 5) ∧ (((g 36 5) < 14 → ((0 ≤ (g 36 5) ∧ (g 36 5) < 14) ∧ (∀ g5, g5 = zi_u g 39 (g 36 5) l1 → ((0 ≤ (g5 36 5) ∧ (g5 36 5) < 14) ∧ (∀ g7, g7 = zi_u g5 40 (g5 36 5) l2 → (∀ g8, g8 = zi_u g7 36 5 ((g7 36 5) + 1) → Q (g8 36 5) g8)))))) ∧ (14 ≤ (g 36 5) → Q (-1) g))))))))))))))) ∧ (l1 = (-1) → (∀ g15, g15 = zi_u g 36 5 0 → Q 0 g15))))
set_option maxRecDepth 100000 in
theorem s_S_quarrel {E : sx_E} {d : Nat} (hd : 1 ≤ d) {l1 : Int} {l2 : Int} {g : zi_M} {Q : Int → zi_M → Prop} (h : w_S_quarrel l1 l2 g Q) : zi_S E d 140 [.ref 0, zi_i l1, zi_i l2] g (zi_Q Q) := by
  refine zi_Sof jf_140 [some (.ref 0), some (zi_i l1), some (zi_i l2), none] rfl (And.intro rfl (And.intro rfl (And.intro rfl trivial))) ?_
  unfold w_S_quarrel at h
  refine zi_aload_n (pc' := 1) rfl rfl rfl ?_
  refine zi_getr (pc' := 4) rfl rfl rfl rfl rfl ?_
  refine zi_getr (pc' := 7) rfl rfl rfl rfl rfl ?_
  refine zi_astore_n (pc' := 8) [some _, some _, some _, some _] rfl rfl rfl ?_
  refine zi_iload_n (pc' := 9) rfl rfl rfl ?_
  refine zi_iconst (pc' := 10) rfl rfl ?_
  obtain ⟨o1, h⟩ := h
  refine zi_icmp_ne (x := 20) (pc' := 13) rfl rfl o1 (by decide) (fun c16 => ?_) (fun c16 => ?_)
  · replace h := h.1 c16
    refine zi_iload_n (pc' := 21) rfl rfl rfl ?_
    refine zi_if_lt (x := 54) (pc' := 24) rfl rfl o1  (fun c14 => ?_) (fun c14 => ?_)
    · replace h := h.1 c14
      refine zi_iconst (pc' := 55) rfl rfl ?_
      exact zi_iret rfl rfl h
    · replace h := h.2 c14
      refine zi_iload_n (pc' := 25) rfl rfl rfl ?_
      refine zi_bipush (pc' := 27) rfl rfl (by decide) ?_
      refine zi_icmp_ge (x := 54) (pc' := 30) rfl rfl o1 (by decide) (fun c13 => ?_) (fun c13 => ?_)
      · replace h := h.1 c13
        refine zi_iconst (pc' := 55) rfl rfl ?_
        exact zi_iret rfl rfl h
      · replace h := h.2 c13
        refine zi_iload_n (pc' := 31) rfl rfl rfl ?_
        obtain ⟨o2, h⟩ := h
        refine zi_if_lt (x := 54) (pc' := 34) rfl rfl o2  (fun c12 => ?_) (fun c12 => ?_)
        · replace h := h.1 c12
          refine zi_iconst (pc' := 55) rfl rfl ?_
          exact zi_iret rfl rfl h
        · replace h := h.2 c12
          refine zi_iload_n (pc' := 35) rfl rfl rfl ?_
          refine zi_bipush (pc' := 37) rfl rfl (by decide) ?_
          refine zi_icmp_ge (x := 54) (pc' := 40) rfl rfl o2 (by decide) (fun c11 => ?_) (fun c11 => ?_)
          · replace h := h.1 c11
            refine zi_iconst (pc' := 55) rfl rfl ?_
            exact zi_iret rfl rfl h
          · replace h := h.2 c11
            refine zi_iload_n (pc' := 41) rfl rfl rfl ?_
            refine zi_iload_n (pc' := 42) rfl rfl rfl ?_
            refine zi_icmp_eq (x := 54) (pc' := 45) rfl rfl o1 o2 (fun c10 => ?_) (fun c10 => ?_)
            · replace h := h.1 c10
              refine zi_iconst (pc' := 55) rfl rfl ?_
              exact zi_iret rfl rfl h
            · replace h := h.2 c10
              refine zi_aload_n (pc' := 46) rfl rfl rfl ?_
              refine zi_geti (pc' := 49) 5 rfl rfl rfl rfl rfl rfl ?_
              refine zi_bipush (pc' := 51) rfl rfl (by decide) ?_
              obtain ⟨o3, h⟩ := h
              refine zi_icmp_lt (x := 56) (pc' := 54) rfl rfl o3 (by decide) (fun c9 => ?_) (fun c9 => ?_)
              · replace h := h.1 c9
                refine zi_aload_n (pc' := 57) rfl rfl rfl ?_
                refine zi_getr (pc' := 60) rfl rfl rfl rfl rfl ?_
                refine zi_aload_n (pc' := 61) rfl rfl rfl ?_
                refine zi_geti (pc' := 64) 5 rfl rfl rfl rfl rfl rfl ?_
                refine zi_iload_n (pc' := 65) rfl rfl rfl ?_
                obtain ⟨o4, h⟩ := h
                refine zi_iast (pc' := 66) rfl rfl rfl o4 ?_
                replace h := h _ rfl
                refine zi_aload_n (pc' := 67) rfl rfl rfl ?_
                refine zi_getr (pc' := 70) rfl rfl rfl rfl rfl ?_
                refine zi_aload_n (pc' := 71) rfl rfl rfl ?_
                refine zi_geti (pc' := 74) 5 rfl rfl rfl rfl rfl rfl ?_
                refine zi_iload_n (pc' := 75) rfl rfl rfl ?_
                obtain ⟨o6, h⟩ := h
                refine zi_iast (pc' := 76) rfl rfl rfl o6 ?_
                replace h := h _ rfl
                refine zi_aload_n (pc' := 77) rfl rfl rfl ?_
                refine zi_dup (pc' := 78) rfl rfl rfl ?_
                refine zi_geti (pc' := 81) 5 rfl rfl rfl rfl rfl rfl ?_
                refine zi_iconst (pc' := 82) rfl rfl ?_
                refine zi_iadd (pc' := 83) rfl rfl ?_
                refine zi_puti (pc' := 86) 5 rfl rfl rfl rfl rfl  ?_
                replace h := h _ rfl
                refine zi_aload_n (pc' := 87) rfl rfl rfl ?_
                refine zi_geti (pc' := 90) 5 rfl rfl rfl rfl rfl rfl ?_
                exact zi_iret rfl rfl h
              · replace h := h.2 c9
                refine zi_iconst (pc' := 55) rfl rfl ?_
                exact zi_iret rfl rfl h
  · replace h := h.2 c16
    refine zi_aload_n (pc' := 14) rfl rfl rfl ?_
    refine zi_iconst (pc' := 15) rfl rfl ?_
    refine zi_puti (pc' := 18) 5 rfl rfl rfl rfl rfl  ?_
    replace h := h _ rfl
    refine zi_iconst (pc' := 19) rfl rfl ?_
    exact zi_iret rfl rfl h
-- SpoutNewsModel.quarrel(II)I
noncomputable def w_M_quarrel_l17 (K36 : zi_M → Prop) (Q : Int → zi_M → Prop) : Nat → Int → zi_M → Prop
  | 0, _, _ => False
  | f + 1, l3, g => (zi_r l3 ∧ ((10 ≤ l3 → K36 g) ∧ (l3 < 10 → ((0 ≤ l3 ∧ l3 < 10) ∧ (∀ g23, g23 = zi_u g 242 l3 0 → w_M_quarrel_l17 K36 Q f (l3 + 1) g23)))))
noncomputable def w_M_quarrel (l1 : Int) (l2 : Int) (g : zi_M) (Q : Int → zi_M → Prop) : Prop := (∀ g1, g1 = zi_u g 214 0 0 → (zi_r l1 ∧ ((¬ l1 = (-1) → w_M_isIn l1 0 9 g1 (fun v3 g4 => ((v3 = 0 → Q (-1) g4) ∧ (¬ v3 = 0 → w_M_isIn l2 0 9 g4 (fun v6 g7 => ((v6 = 0 → Q (-1) g7) ∧ (¬ v6 = 0 → (zi_r l2 ∧ ((l1 = l2 → Q (-1) g7) ∧ (¬ l1 = l2 → (zi_r (g7 214 50) ∧ ((¬ (g7 214 50) = 14 → ((0 ≤ l1 ∧ l1 < 10) ∧ (∀ g12, g12 = zi_u g7 242 l1 (zi_or (g7 242 l1) (zi_shl 1 l2)) → ((0 ≤ l2 ∧ l2 < 10) ∧ (∀ g14, g14 = zi_u g12 242 l2 (zi_or (g12 242 l2) (zi_shl 1 l1)) → (∀ g15, g15 = zi_u g14 214 50 ((g14 214 50) + 1) → Q (g15 214 50) g15)))))) ∧ ((g7 214 50) = 14 → Q (-1) g7))))))))))))) ∧ (l1 = (-1) → (∀ g20, g20 = zi_u g1 214 50 0 → (∃ f26, w_M_quarrel_l17 (fun g25 => Q 0 g25) Q f26 0 g20))))))
set_option maxRecDepth 100000 in
theorem s_M_quarrel_l17_r {E : sx_E} {d : Nat} (hd : 2 ≤ d) {K36 : zi_M → Prop} {Q : Int → zi_M → Prop} (hK36 : ∀ (g : zi_M), K36 g → zi_W E d 289 36 [some (.ref 214), none, none, none] [] g (zi_Q Q)) : ∀ (f : Nat) {l3 : Int} {g : zi_M}, w_M_quarrel_l17 K36 Q f l3 g → zi_W E d 289 17 [some (.ref 214), none, none, some (zi_i l3)] [] g (zi_Q Q)
  | 0, _, _, h => False.elim h
  | f + 1, l3, g, h => by
    refine zi_iload_n (pc' := 18) rfl rfl rfl ?_
    refine zi_bipush (pc' := 20) rfl rfl (by decide) ?_
    obtain ⟨o21, h⟩ := h
    refine zi_icmp_ge (x := 36) (pc' := 23) rfl rfl o21 (by decide) (fun c24 => ?_) (fun c24 => ?_)
    · replace h := h.1 c24
      exact zi_wk (hK36 _ h) (And.intro rfl trivial)
    · replace h := h.2 c24
      refine zi_aload_n (pc' := 24) rfl rfl rfl ?_
      refine zi_getr (pc' := 27) rfl rfl rfl rfl rfl ?_
      refine zi_iload_n (pc' := 28) rfl rfl rfl ?_
      refine zi_iconst (pc' := 29) rfl rfl ?_
      obtain ⟨o22, h⟩ := h
      refine zi_iast (pc' := 30) rfl rfl rfl o22 ?_
      replace h := h _ rfl
      refine zi_iinc (pc' := 33) [some _, none, none, some _] rfl rfl rfl rfl ?_
      refine zi_goto (x := 17) rfl ?_
      exact zi_wk (s_M_quarrel_l17_r hd hK36 f h) (And.intro rfl (And.intro rfl trivial))
set_option maxRecDepth 100000 in
theorem s_M_quarrel_l17 {E : sx_E} {d : Nat} (hd : 2 ≤ d) {K36 : zi_M → Prop} {Q : Int → zi_M → Prop} {l3 : Int} {g : zi_M} (h : ∃ f, w_M_quarrel_l17 K36 Q f l3 g) (hK36 : ∀ (g : zi_M), K36 g → zi_W E d 289 36 [some (.ref 214), none, none, none] [] g (zi_Q Q)) : zi_W E d 289 17 [some (.ref 214), none, none, some (zi_i l3)] [] g (zi_Q Q) := by
  obtain ⟨f, h⟩ := h
  exact s_M_quarrel_l17_r hd hK36 f h
set_option maxRecDepth 100000 in
theorem s_M_quarrel {E : sx_E} {d : Nat} (hd : 2 ≤ d) {l1 : Int} {l2 : Int} {g : zi_M} {Q : Int → zi_M → Prop} (h : w_M_quarrel l1 l2 g Q) : zi_S E d 289 [.ref 214, zi_i l1, zi_i l2] g (zi_Q Q) := by
  refine zi_Sof jf_289 [some (.ref 214), some (zi_i l1), some (zi_i l2), none] rfl (And.intro rfl (And.intro rfl (And.intro rfl trivial))) ?_
  unfold w_M_quarrel at h
  refine zi_aload_n (pc' := 1) rfl rfl rfl ?_
  refine zi_iconst (pc' := 2) rfl rfl ?_
  refine zi_puti (pc' := 5) 0 rfl rfl rfl rfl rfl  ?_
  replace h := h _ rfl
  refine zi_iload_n (pc' := 6) rfl rfl rfl ?_
  refine zi_iconst (pc' := 7) rfl rfl ?_
  obtain ⟨o2, h⟩ := h
  refine zi_icmp_ne (x := 38) (pc' := 10) rfl rfl o2 (by decide) (fun c27 => ?_) (fun c27 => ?_)
  · replace h := h.1 c27
    refine zi_aload_n (pc' := 39) rfl rfl rfl ?_
    refine zi_iload_n (pc' := 40) rfl rfl rfl ?_
    refine zi_iconst (pc' := 41) rfl rfl ?_
    refine zi_bipush (pc' := 43) rfl rfl (by decide) ?_
    refine zi_callV (d' := 1) (as := [_, _, _]) (pc' := 46) rfl rfl rfl rfl (Nat.lt_of_lt_of_le (by decide) hd) (s_M_isIn (Nat.le_refl _) h) (zi_kb (fun v3 g4 b5 h => ?_))
    refine zi_if_eq (x := 74) (pc' := 49) rfl rfl (zi_r_bit b5)  (fun c19 => ?_) (fun c19 => ?_)
    · replace h := h.1 c19
      refine zi_iconst (pc' := 75) rfl rfl ?_
      exact zi_iret rfl rfl h
    · replace h := h.2 c19
      refine zi_aload_n (pc' := 50) rfl rfl rfl ?_
      refine zi_iload_n (pc' := 51) rfl rfl rfl ?_
      refine zi_iconst (pc' := 52) rfl rfl ?_
      refine zi_bipush (pc' := 54) rfl rfl (by decide) ?_
      refine zi_callV (d' := 1) (as := [_, _, _]) (pc' := 57) rfl rfl rfl rfl (Nat.lt_of_lt_of_le (by decide) hd) (s_M_isIn (Nat.le_refl _) h) (zi_kb (fun v6 g7 b8 h => ?_))
      refine zi_if_eq (x := 74) (pc' := 60) rfl rfl (zi_r_bit b8)  (fun c18 => ?_) (fun c18 => ?_)
      · replace h := h.1 c18
        refine zi_iconst (pc' := 75) rfl rfl ?_
        exact zi_iret rfl rfl h
      · replace h := h.2 c18
        refine zi_iload_n (pc' := 61) rfl rfl rfl ?_
        refine zi_iload_n (pc' := 62) rfl rfl rfl ?_
        obtain ⟨o9, h⟩ := h
        refine zi_icmp_eq (x := 74) (pc' := 65) rfl rfl o2 o9 (fun c17 => ?_) (fun c17 => ?_)
        · replace h := h.1 c17
          refine zi_iconst (pc' := 75) rfl rfl ?_
          exact zi_iret rfl rfl h
        · replace h := h.2 c17
          refine zi_aload_n (pc' := 66) rfl rfl rfl ?_
          refine zi_geti (pc' := 69) 50 rfl rfl rfl rfl rfl rfl ?_
          refine zi_bipush (pc' := 71) rfl rfl (by decide) ?_
          obtain ⟨o10, h⟩ := h
          refine zi_icmp_ne (x := 76) (pc' := 74) rfl rfl o10 (by decide) (fun c16 => ?_) (fun c16 => ?_)
          · replace h := h.1 c16
            refine zi_aload_n (pc' := 77) rfl rfl rfl ?_
            refine zi_getr (pc' := 80) rfl rfl rfl rfl rfl ?_
            refine zi_iload_n (pc' := 81) rfl rfl rfl ?_
            refine zi_aload_n (pc' := 82) rfl rfl rfl ?_
            refine zi_getr (pc' := 85) rfl rfl rfl rfl rfl ?_
            refine zi_iload_n (pc' := 86) rfl rfl rfl ?_
            obtain ⟨o11, h⟩ := h
            refine zi_iald (pc' := 87) rfl rfl rfl o11 ?_
            refine zi_iconst (pc' := 88) rfl rfl ?_
            refine zi_iload_n (pc' := 89) rfl rfl rfl ?_
            refine zi_ishl (pc' := 90) rfl rfl ?_
            refine zi_ior (pc' := 91) rfl rfl ?_
            refine zi_iast (pc' := 92) rfl rfl rfl o11 ?_
            replace h := h _ rfl
            refine zi_aload_n (pc' := 93) rfl rfl rfl ?_
            refine zi_getr (pc' := 96) rfl rfl rfl rfl rfl ?_
            refine zi_iload_n (pc' := 97) rfl rfl rfl ?_
            refine zi_aload_n (pc' := 98) rfl rfl rfl ?_
            refine zi_getr (pc' := 101) rfl rfl rfl rfl rfl ?_
            refine zi_iload_n (pc' := 102) rfl rfl rfl ?_
            obtain ⟨o13, h⟩ := h
            refine zi_iald (pc' := 103) rfl rfl rfl o13 ?_
            refine zi_iconst (pc' := 104) rfl rfl ?_
            refine zi_iload_n (pc' := 105) rfl rfl rfl ?_
            refine zi_ishl (pc' := 106) rfl rfl ?_
            refine zi_ior (pc' := 107) rfl rfl ?_
            refine zi_iast (pc' := 108) rfl rfl rfl o13 ?_
            replace h := h _ rfl
            refine zi_aload_n (pc' := 109) rfl rfl rfl ?_
            refine zi_aload_n (pc' := 110) rfl rfl rfl ?_
            refine zi_geti (pc' := 113) 50 rfl rfl rfl rfl rfl rfl ?_
            refine zi_iconst (pc' := 114) rfl rfl ?_
            refine zi_iadd (pc' := 115) rfl rfl ?_
            refine zi_puti (pc' := 118) 50 rfl rfl rfl rfl rfl  ?_
            replace h := h _ rfl
            refine zi_aload_n (pc' := 119) rfl rfl rfl ?_
            refine zi_geti (pc' := 122) 50 rfl rfl rfl rfl rfl rfl ?_
            exact zi_iret rfl rfl h
          · replace h := h.2 c16
            refine zi_iconst (pc' := 75) rfl rfl ?_
            exact zi_iret rfl rfl h
  · replace h := h.2 c27
    refine zi_aload_n (pc' := 11) rfl rfl rfl ?_
    refine zi_iconst (pc' := 12) rfl rfl ?_
    refine zi_puti (pc' := 15) 50 rfl rfl rfl rfl rfl  ?_
    replace h := h _ rfl
    refine zi_iconst (pc' := 16) rfl rfl ?_
    refine zi_istore_n (pc' := 17) [some _, some _, some _, some _] rfl rfl rfl ?_
    refine zi_wk (s_M_quarrel_l17 hd h (fun g25 h => ?_)) (And.intro rfl (And.intro rfl trivial))
    refine zi_iconst (pc' := 37) rfl rfl ?_
    exact zi_iret rfl rfl h
-- SpoutNews$Thought.spread(LSpoutNews$Told;)V
noncomputable def w_Thought_spread_b75 (l3 : Int) (l4 : Int) (l5 : Int) (g : zi_M) (H : Int → zi_M → Prop) (K119 : zi_M → Prop) (Q : Int → zi_M → Prop) : Prop := ((0 ≤ l4 ∧ l4 < 10) ∧ (zi_r (g 184 l4) ∧ ((¬ (g 184 l4) = (-1) → H (l3 + 1) g) ∧ ((g 184 l4) = (-1) → ((0 ≤ l5 ∧ l5 < 10) ∧ (zi_r (g 184 l5) ∧ (((g 184 l5) = (-1) → H (l3 + 1) g) ∧ (¬ (g 184 l5) = (-1) → (∀ g11, g11 = zi_u g 184 l4 (zi_xor (g 184 l5) 1) → H (l3 + 1) g11)))))))))
noncomputable def w_Thought_spread_l10 (K119 : zi_M → Prop) (Q : Int → zi_M → Prop) : Nat → Int → zi_M → Prop
  | 0, _, _ => False
  | f + 1, l3, g => (zi_r l3 ∧ zi_r (g 36 5) ∧ (((g 36 5) ≤ l3 → K119 g) ∧ (l3 < (g 36 5) → ((0 ≤ l3 ∧ l3 < 14) ∧ ((0 ≤ (g 39 l3) ∧ (g 39 l3) < 10) ∧ (zi_r (g 184 (g 39 l3)) ∧ (((g 184 (g 39 l3)) = (-1) → w_Thought_spread_b75 l3 (g 39 l3) (g 40 l3) g (w_Thought_spread_l10 K119 Q f) K119 Q) ∧ (¬ (g 184 (g 39 l3)) = (-1) → ((0 ≤ (g 40 l3) ∧ (g 40 l3) < 10) ∧ (zi_r (g 184 (g 40 l3)) ∧ ((¬ (g 184 (g 40 l3)) = (-1) → w_Thought_spread_b75 l3 (g 39 l3) (g 40 l3) g (w_Thought_spread_l10 K119 Q f) K119 Q) ∧ ((g 184 (g 40 l3)) = (-1) → (∀ g16, g16 = zi_u g 184 (g 40 l3) (zi_xor (g 184 (g 39 l3)) 1) → w_Thought_spread_l10 K119 Q f (l3 + 1) g16)))))))))))))
noncomputable def w_Thought_spread_l2 (K125 : zi_M → Prop) (Q : Int → zi_M → Prop) : Nat → Int → zi_M → Prop
  | 0, _, _ => False
  | f + 1, l2, g => (zi_r l2 ∧ ((10 ≤ l2 → K125 g) ∧ (l2 < 10 → (∃ f21, w_Thought_spread_l10 (fun g20 => w_Thought_spread_l2 K125 Q f (l2 + 1) g20) Q f21 0 g))))
noncomputable def w_Thought_spread (g : zi_M) (Q : Int → zi_M → Prop) : Prop := (∃ f24, w_Thought_spread_l2 (fun g23 => Q 0 g23) Q f24 0 g)
set_option maxRecDepth 100000 in
theorem s_Thought_spread_b75 {E : sx_E} {d : Nat} (hd : 1 ≤ d) {l3 : Int} {l4 : Int} {l5 : Int} {x2 : Int} {H : Int → zi_M → Prop} {K119 : zi_M → Prop} {Q : Int → zi_M → Prop} {g : zi_M} (h : w_Thought_spread_b75 l3 l4 l5 g H K119 Q) (hH : ∀ (m3 : Int) (g : zi_M), H m3 g → zi_W E d 143 10 [some (.ref 180), some (.ref 36), some (zi_i x2), some (zi_i m3), none, none] [] g (zi_Qv Q)) (hK119 : ∀ (g : zi_M), K119 g → zi_W E d 143 119 [some (.ref 180), some (.ref 36), some (zi_i x2), none, none, none] [] g (zi_Qv Q)) : zi_W E d 143 75 [some (.ref 180), some (.ref 36), some (zi_i x2), some (zi_i l3), some (zi_i l4), some (zi_i l5)] [] g (zi_Qv Q) := by
  unfold w_Thought_spread_b75 at h
  refine zi_aload_n (pc' := 76) rfl rfl rfl ?_
  refine zi_getr (pc' := 79) rfl rfl rfl rfl rfl ?_
  refine zi_iload (pc' := 81) rfl rfl rfl ?_
  obtain ⟨o7, h⟩ := h
  refine zi_iald (pc' := 82) rfl rfl rfl o7 ?_
  refine zi_iconst (pc' := 83) rfl rfl ?_
  obtain ⟨o8, h⟩ := h
  refine zi_icmp_ne (x := 113) (pc' := 86) rfl rfl o8 (by decide) (fun c13 => ?_) (fun c13 => ?_)
  · replace h := h.1 c13
    refine zi_iinc (pc' := 116) [some _, some _, some _, some _, some _, some _] rfl rfl rfl rfl ?_
    refine zi_goto (x := 10) rfl ?_
    exact zi_wk (hH _ _ h) (And.intro rfl (And.intro rfl (And.intro rfl (And.intro rfl trivial))))
  · replace h := h.2 c13
    refine zi_aload_n (pc' := 87) rfl rfl rfl ?_
    refine zi_getr (pc' := 90) rfl rfl rfl rfl rfl ?_
    refine zi_iload (pc' := 92) rfl rfl rfl ?_
    obtain ⟨o9, h⟩ := h
    refine zi_iald (pc' := 93) rfl rfl rfl o9 ?_
    refine zi_iconst (pc' := 94) rfl rfl ?_
    obtain ⟨o10, h⟩ := h
    refine zi_icmp_eq (x := 113) (pc' := 97) rfl rfl o10 (by decide) (fun c12 => ?_) (fun c12 => ?_)
    · replace h := h.1 c12
      refine zi_iinc (pc' := 116) [some _, some _, some _, some _, some _, some _] rfl rfl rfl rfl ?_
      refine zi_goto (x := 10) rfl ?_
      exact zi_wk (hH _ _ h) (And.intro rfl (And.intro rfl (And.intro rfl (And.intro rfl trivial))))
    · replace h := h.2 c12
      refine zi_aload_n (pc' := 98) rfl rfl rfl ?_
      refine zi_getr (pc' := 101) rfl rfl rfl rfl rfl ?_
      refine zi_iload (pc' := 103) rfl rfl rfl ?_
      refine zi_aload_n (pc' := 104) rfl rfl rfl ?_
      refine zi_getr (pc' := 107) rfl rfl rfl rfl rfl ?_
      refine zi_iload (pc' := 109) rfl rfl rfl ?_
      refine zi_iald (pc' := 110) rfl rfl rfl o9 ?_
      refine zi_iconst (pc' := 111) rfl rfl ?_
      refine zi_ixor (pc' := 112) rfl rfl ?_
      refine zi_iast (pc' := 113) rfl rfl rfl o7 ?_
      replace h := h _ rfl
      refine zi_iinc (pc' := 116) [some _, some _, some _, some _, some _, some _] rfl rfl rfl rfl ?_
      refine zi_goto (x := 10) rfl ?_
      exact zi_wk (hH _ _ h) (And.intro rfl (And.intro rfl (And.intro rfl (And.intro rfl trivial))))
set_option maxRecDepth 100000 in
theorem s_Thought_spread_l10_r {E : sx_E} {d : Nat} (hd : 1 ≤ d) {x2 : Int} {K119 : zi_M → Prop} {Q : Int → zi_M → Prop} (hK119 : ∀ (g : zi_M), K119 g → zi_W E d 143 119 [some (.ref 180), some (.ref 36), some (zi_i x2), none, none, none] [] g (zi_Qv Q)) : ∀ (f : Nat) {l3 : Int} {g : zi_M}, w_Thought_spread_l10 K119 Q f l3 g → zi_W E d 143 10 [some (.ref 180), some (.ref 36), some (zi_i x2), some (zi_i l3), none, none] [] g (zi_Qv Q)
  | 0, _, _, h => False.elim h
  | f + 1, l3, g, h => by
    refine zi_iload_n (pc' := 11) rfl rfl rfl ?_
    refine zi_aload_n (pc' := 12) rfl rfl rfl ?_
    refine zi_geti (pc' := 15) 5 rfl rfl rfl rfl rfl rfl ?_
    obtain ⟨o2, o3, h⟩ := h
    refine zi_icmp_ge (x := 119) (pc' := 18) rfl rfl o2 o3 (fun c19 => ?_) (fun c19 => ?_)
    · replace h := h.1 c19
      exact zi_wk (hK119 _ h) (And.intro rfl (And.intro rfl (And.intro rfl trivial)))
    · replace h := h.2 c19
      refine zi_aload_n (pc' := 19) rfl rfl rfl ?_
      refine zi_getr (pc' := 22) rfl rfl rfl rfl rfl ?_
      refine zi_iload_n (pc' := 23) rfl rfl rfl ?_
      obtain ⟨o4, h⟩ := h
      refine zi_iald (pc' := 24) rfl rfl rfl o4 ?_
      refine zi_istore (pc' := 26) [some _, some _, some _, some _, some _, none] rfl rfl rfl ?_
      refine zi_aload_n (pc' := 27) rfl rfl rfl ?_
      refine zi_getr (pc' := 30) rfl rfl rfl rfl rfl ?_
      refine zi_iload_n (pc' := 31) rfl rfl rfl ?_
      refine zi_iald (pc' := 32) rfl rfl rfl o4 ?_
      refine zi_istore (pc' := 34) [some _, some _, some _, some _, some _, some _] rfl rfl rfl ?_
      refine zi_aload_n (pc' := 35) rfl rfl rfl ?_
      refine zi_getr (pc' := 38) rfl rfl rfl rfl rfl ?_
      refine zi_iload (pc' := 40) rfl rfl rfl ?_
      obtain ⟨o5, h⟩ := h
      refine zi_iald (pc' := 41) rfl rfl rfl o5 ?_
      refine zi_iconst (pc' := 42) rfl rfl ?_
      obtain ⟨o6, h⟩ := h
      refine zi_icmp_eq (x := 75) (pc' := 45) rfl rfl o6 (by decide) (fun c18 => ?_) (fun c18 => ?_)
      · replace h := h.1 c18
        exact zi_wk (s_Thought_spread_b75 hd h (fun _ _ h => s_Thought_spread_l10_r hd hK119 f h) hK119) (And.intro rfl (And.intro rfl (And.intro rfl (And.intro rfl (And.intro rfl (And.intro rfl trivial))))))
      · replace h := h.2 c18
        refine zi_aload_n (pc' := 46) rfl rfl rfl ?_
        refine zi_getr (pc' := 49) rfl rfl rfl rfl rfl ?_
        refine zi_iload (pc' := 51) rfl rfl rfl ?_
        obtain ⟨o14, h⟩ := h
        refine zi_iald (pc' := 52) rfl rfl rfl o14 ?_
        refine zi_iconst (pc' := 53) rfl rfl ?_
        obtain ⟨o15, h⟩ := h
        refine zi_icmp_ne (x := 75) (pc' := 56) rfl rfl o15 (by decide) (fun c17 => ?_) (fun c17 => ?_)
        · replace h := h.1 c17
          exact zi_wk (s_Thought_spread_b75 hd h (fun _ _ h => s_Thought_spread_l10_r hd hK119 f h) hK119) (And.intro rfl (And.intro rfl (And.intro rfl (And.intro rfl (And.intro rfl (And.intro rfl trivial))))))
        · replace h := h.2 c17
          refine zi_aload_n (pc' := 57) rfl rfl rfl ?_
          refine zi_getr (pc' := 60) rfl rfl rfl rfl rfl ?_
          refine zi_iload (pc' := 62) rfl rfl rfl ?_
          refine zi_aload_n (pc' := 63) rfl rfl rfl ?_
          refine zi_getr (pc' := 66) rfl rfl rfl rfl rfl ?_
          refine zi_iload (pc' := 68) rfl rfl rfl ?_
          refine zi_iald (pc' := 69) rfl rfl rfl o5 ?_
          refine zi_iconst (pc' := 70) rfl rfl ?_
          refine zi_ixor (pc' := 71) rfl rfl ?_
          refine zi_iast (pc' := 72) rfl rfl rfl o14 ?_
          replace h := h _ rfl
          refine zi_goto (x := 113) rfl ?_
          refine zi_iinc (pc' := 116) [some _, some _, some _, some _, some _, some _] rfl rfl rfl rfl ?_
          refine zi_goto (x := 10) rfl ?_
          exact zi_wk (s_Thought_spread_l10_r hd hK119 f h) (And.intro rfl (And.intro rfl (And.intro rfl (And.intro rfl trivial))))
set_option maxRecDepth 100000 in
theorem s_Thought_spread_l10 {E : sx_E} {d : Nat} (hd : 1 ≤ d) {x2 : Int} {K119 : zi_M → Prop} {Q : Int → zi_M → Prop} {l3 : Int} {g : zi_M} (h : ∃ f, w_Thought_spread_l10 K119 Q f l3 g) (hK119 : ∀ (g : zi_M), K119 g → zi_W E d 143 119 [some (.ref 180), some (.ref 36), some (zi_i x2), none, none, none] [] g (zi_Qv Q)) : zi_W E d 143 10 [some (.ref 180), some (.ref 36), some (zi_i x2), some (zi_i l3), none, none] [] g (zi_Qv Q) := by
  obtain ⟨f, h⟩ := h
  exact s_Thought_spread_l10_r hd hK119 f h
set_option maxRecDepth 100000 in
theorem s_Thought_spread_l2_r {E : sx_E} {d : Nat} (hd : 1 ≤ d) {K125 : zi_M → Prop} {Q : Int → zi_M → Prop} (hK125 : ∀ (g : zi_M), K125 g → zi_W E d 143 125 [some (.ref 180), some (.ref 36), none, none, none, none] [] g (zi_Qv Q)) : ∀ (f : Nat) {l2 : Int} {g : zi_M}, w_Thought_spread_l2 K125 Q f l2 g → zi_W E d 143 2 [some (.ref 180), some (.ref 36), some (zi_i l2), none, none, none] [] g (zi_Qv Q)
  | 0, _, _, h => False.elim h
  | f + 1, l2, g, h => by
    refine zi_iload_n (pc' := 3) rfl rfl rfl ?_
    refine zi_bipush (pc' := 5) rfl rfl (by decide) ?_
    obtain ⟨o1, h⟩ := h
    refine zi_icmp_ge (x := 125) (pc' := 8) rfl rfl o1 (by decide) (fun c22 => ?_) (fun c22 => ?_)
    · replace h := h.1 c22
      exact zi_wk (hK125 _ h) (And.intro rfl (And.intro rfl trivial))
    · replace h := h.2 c22
      refine zi_iconst (pc' := 9) rfl rfl ?_
      refine zi_istore_n (pc' := 10) [some _, some _, some _, some _, none, none] rfl rfl rfl ?_
      refine zi_wk (s_Thought_spread_l10 hd h (fun g20 h => ?_)) (And.intro rfl (And.intro rfl (And.intro rfl (And.intro rfl trivial))))
      refine zi_iinc (pc' := 122) [some _, some _, some _, none, none, none] rfl rfl rfl rfl ?_
      refine zi_goto (x := 2) rfl ?_
      exact zi_wk (s_Thought_spread_l2_r hd hK125 f h) (And.intro rfl (And.intro rfl (And.intro rfl trivial)))
set_option maxRecDepth 100000 in
theorem s_Thought_spread_l2 {E : sx_E} {d : Nat} (hd : 1 ≤ d) {K125 : zi_M → Prop} {Q : Int → zi_M → Prop} {l2 : Int} {g : zi_M} (h : ∃ f, w_Thought_spread_l2 K125 Q f l2 g) (hK125 : ∀ (g : zi_M), K125 g → zi_W E d 143 125 [some (.ref 180), some (.ref 36), none, none, none, none] [] g (zi_Qv Q)) : zi_W E d 143 2 [some (.ref 180), some (.ref 36), some (zi_i l2), none, none, none] [] g (zi_Qv Q) := by
  obtain ⟨f, h⟩ := h
  exact s_Thought_spread_l2_r hd hK125 f h
set_option maxRecDepth 100000 in
theorem s_Thought_spread {E : sx_E} {d : Nat} (hd : 1 ≤ d) {g : zi_M} {Q : Int → zi_M → Prop} (h : w_Thought_spread g Q) : zi_S E d 143 [.ref 180, .ref 36] g (zi_Qv Q) := by
  refine zi_Sof jf_143 [some (.ref 180), some (.ref 36), none, none, none, none] rfl (And.intro rfl (And.intro rfl trivial)) ?_
  unfold w_Thought_spread at h
  refine zi_iconst (pc' := 1) rfl rfl ?_
  refine zi_istore_n (pc' := 2) [some _, some _, some _, none, none, none] rfl rfl rfl ?_
  refine zi_wk (s_Thought_spread_l2 hd h (fun g23 h => ?_)) (And.intro rfl (And.intro rfl (And.intro rfl trivial)))
  exact zi_vret rfl rfl h
-- SpoutNews$Thought.countColour(I)I
noncomputable def w_Thought_countColour_l4 (l1 : Int) (K29 : Int → zi_M → Prop) (Q : Int → zi_M → Prop) : Nat → Int → Int → zi_M → Prop
  | 0, _, _, _ => False
  | f + 1, l2, l3, g => (zi_r l3 ∧ ((10 ≤ l3 → K29 l2 g) ∧ (l3 < 10 → ((0 ≤ l3 ∧ l3 < 10) ∧ (zi_r (g 184 l3) ∧ zi_r l1 ∧ ((¬ (g 184 l3) = l1 → w_Thought_countColour_l4 l1 K29 Q f l2 (l3 + 1) g) ∧ ((g 184 l3) = l1 → w_Thought_countColour_l4 l1 K29 Q f (l2 + 1) (l3 + 1) g)))))))
noncomputable def w_Thought_countColour (l1 : Int) (g : zi_M) (Q : Int → zi_M → Prop) : Prop := (∃ f9, w_Thought_countColour_l4 l1 (fun k7 g8 => Q k7 g8) Q f9 0 0 g)
set_option maxRecDepth 100000 in
theorem s_Thought_countColour_l4_r {E : sx_E} {d : Nat} (hd : 1 ≤ d) {l1 : Int} {K29 : Int → zi_M → Prop} {Q : Int → zi_M → Prop} (hK29 : ∀ (k2 : Int) (g : zi_M), K29 k2 g → zi_W E d 144 29 [some (.ref 180), some (zi_i l1), some (zi_i k2), none] [] g (zi_Q Q)) : ∀ (f : Nat) {l2 : Int} {l3 : Int} {g : zi_M}, w_Thought_countColour_l4 l1 K29 Q f l2 l3 g → zi_W E d 144 4 [some (.ref 180), some (zi_i l1), some (zi_i l2), some (zi_i l3)] [] g (zi_Q Q)
  | 0, _, _, _, h => False.elim h
  | f + 1, l2, l3, g, h => by
    refine zi_iload_n (pc' := 5) rfl rfl rfl ?_
    refine zi_bipush (pc' := 7) rfl rfl (by decide) ?_
    obtain ⟨o1, h⟩ := h
    refine zi_icmp_ge (x := 29) (pc' := 10) rfl rfl o1 (by decide) (fun c6 => ?_) (fun c6 => ?_)
    · replace h := h.1 c6
      exact zi_wk (hK29 _ _ h) (And.intro rfl (And.intro rfl (And.intro rfl trivial)))
    · replace h := h.2 c6
      refine zi_aload_n (pc' := 11) rfl rfl rfl ?_
      refine zi_getr (pc' := 14) rfl rfl rfl rfl rfl ?_
      refine zi_iload_n (pc' := 15) rfl rfl rfl ?_
      obtain ⟨o2, h⟩ := h
      refine zi_iald (pc' := 16) rfl rfl rfl o2 ?_
      refine zi_iload_n (pc' := 17) rfl rfl rfl ?_
      obtain ⟨o3, o4, h⟩ := h
      refine zi_icmp_ne (x := 23) (pc' := 20) rfl rfl o3 o4 (fun c5 => ?_) (fun c5 => ?_)
      · replace h := h.1 c5
        refine zi_iinc (pc' := 26) [some _, some _, some _, some _] rfl rfl rfl rfl ?_
        refine zi_goto (x := 4) rfl ?_
        exact zi_wk (s_Thought_countColour_l4_r hd hK29 f h) (And.intro rfl (And.intro rfl (And.intro rfl (And.intro rfl trivial))))
      · replace h := h.2 c5
        refine zi_iinc (pc' := 23) [some _, some _, some _, some _] rfl rfl rfl rfl ?_
        refine zi_iinc (pc' := 26) [some _, some _, some _, some _] rfl rfl rfl rfl ?_
        refine zi_goto (x := 4) rfl ?_
        exact zi_wk (s_Thought_countColour_l4_r hd hK29 f h) (And.intro rfl (And.intro rfl (And.intro rfl (And.intro rfl trivial))))
set_option maxRecDepth 100000 in
theorem s_Thought_countColour_l4 {E : sx_E} {d : Nat} (hd : 1 ≤ d) {l1 : Int} {K29 : Int → zi_M → Prop} {Q : Int → zi_M → Prop} {l2 : Int} {l3 : Int} {g : zi_M} (h : ∃ f, w_Thought_countColour_l4 l1 K29 Q f l2 l3 g) (hK29 : ∀ (k2 : Int) (g : zi_M), K29 k2 g → zi_W E d 144 29 [some (.ref 180), some (zi_i l1), some (zi_i k2), none] [] g (zi_Q Q)) : zi_W E d 144 4 [some (.ref 180), some (zi_i l1), some (zi_i l2), some (zi_i l3)] [] g (zi_Q Q) := by
  obtain ⟨f, h⟩ := h
  exact s_Thought_countColour_l4_r hd hK29 f h
set_option maxRecDepth 100000 in
theorem s_Thought_countColour {E : sx_E} {d : Nat} (hd : 1 ≤ d) {l1 : Int} {g : zi_M} {Q : Int → zi_M → Prop} (h : w_Thought_countColour l1 g Q) : zi_S E d 144 [.ref 180, zi_i l1] g (zi_Q Q) := by
  refine zi_Sof jf_144 [some (.ref 180), some (zi_i l1), none, none] rfl (And.intro rfl (And.intro rfl trivial)) ?_
  unfold w_Thought_countColour at h
  refine zi_iconst (pc' := 1) rfl rfl ?_
  refine zi_istore_n (pc' := 2) [some _, some _, some _, none] rfl rfl rfl ?_
  refine zi_iconst (pc' := 3) rfl rfl ?_
  refine zi_istore_n (pc' := 4) [some _, some _, some _, some _] rfl rfl rfl ?_
  refine zi_wk (s_Thought_countColour_l4 hd h (fun k7 g8 h => ?_)) (And.intro rfl (And.intro rfl (And.intro rfl (And.intro rfl trivial))))
  refine zi_iload_n (pc' := 30) rfl rfl rfl ?_
  exact zi_iret rfl rfl h
-- SpoutNews$Thought.partGroups(LSpoutNews$Told;)V
noncomputable def w_Thought_partGroups_l20 (K112 : zi_M → Prop) (Q : Int → zi_M → Prop) : Nat → Int → zi_M → Prop
  | 0, _, _ => False
  | f + 1, l2, g => (zi_r l2 ∧ zi_r (g 36 5) ∧ (((g 36 5) ≤ l2 → K112 g) ∧ (l2 < (g 36 5) → ((0 ≤ l2 ∧ l2 < 14) ∧ ((0 ≤ (g 39 l2) ∧ (g 39 l2) < 10) ∧ (zi_r (g 184 (g 39 l2)) ∧ ((¬ (g 184 (g 39 l2)) = (-1) → w_Thought_partGroups_l20 K112 Q f (l2 + 1) g) ∧ ((g 184 (g 39 l2)) = (-1) → (∀ g9, g9 = zi_u g 184 (g 39 l2) (2 * (g 180 5)) → w_Thought_spread g9 (fun _ g11 => w_Thought_countColour (2 * (g11 180 5)) g11 (fun v13 g14 => w_Thought_countColour ((2 * (g14 180 5)) + 1) g14 (fun v16 g17 => (zi_r v13 ∧ zi_r v16 ∧ (∀ g21, g21 = zi_u g17 180 6 ((g11 180 6) + (max v13 v16)) → (∀ g22, g22 = zi_u g21 180 5 ((g21 180 5) + 1) → w_Thought_partGroups_l20 K112 Q f (l2 + 1) g22)))))))))))))))
noncomputable def w_Thought_partGroups_l114 (K158 : zi_M → Prop) (Q : Int → zi_M → Prop) : Nat → Int → zi_M → Prop
  | 0, _, _ => False
  | f + 1, l2, g => (zi_r l2 ∧ zi_r (g 36 5) ∧ (((g 36 5) ≤ l2 → K158 g) ∧ (l2 < (g 36 5) → ((0 ≤ l2 ∧ l2 < 14) ∧ ((0 ≤ (g 39 l2) ∧ (g 39 l2) < 10) ∧ ((0 ≤ (g 40 l2) ∧ (g 40 l2) < 10) ∧ (zi_r (g 184 (g 39 l2)) ∧ zi_r (g 184 (g 40 l2)) ∧ ((¬ (g 184 (g 39 l2)) = (g 184 (g 40 l2)) → w_Thought_partGroups_l114 K158 Q f (l2 + 1) g) ∧ ((g 184 (g 39 l2)) = (g 184 (g 40 l2)) → (∀ g33, g33 = zi_u g 180 6 (-1) → w_Thought_partGroups_l114 K158 Q f (l2 + 1) g33))))))))))
noncomputable def w_Thought_partGroups (g : zi_M) (Q : Int → zi_M → Prop) : Prop := (∀ g1, g1 = zi_fl g 184 10 (-1) → (∀ g2, g2 = zi_u g1 180 5 0 → (∀ g3, g3 = zi_u g2 180 6 0 → (∃ f38, w_Thought_partGroups_l20 (fun g25 => (∃ f37, w_Thought_partGroups_l114 (fun g36 => Q 0 g36) Q f37 0 g25)) Q f38 0 g3))))
set_option maxRecDepth 100000 in
theorem s_Thought_partGroups_l20_r {E : sx_E} {d : Nat} (hd : 3 ≤ d) {K112 : zi_M → Prop} {Q : Int → zi_M → Prop} (hK112 : ∀ (g : zi_M), K112 g → zi_W E d 142 112 [some (.ref 180), some (.ref 36), none, none] [] g (zi_Qv Q)) : ∀ (f : Nat) {l2 : Int} {g : zi_M}, w_Thought_partGroups_l20 K112 Q f l2 g → zi_W E d 142 20 [some (.ref 180), some (.ref 36), some (zi_i l2), none] [] g (zi_Qv Q)
  | 0, _, _, h => False.elim h
  | f + 1, l2, g, h => by
    refine zi_iload_n (pc' := 21) rfl rfl rfl ?_
    refine zi_aload_n (pc' := 22) rfl rfl rfl ?_
    refine zi_geti (pc' := 25) 5 rfl rfl rfl rfl rfl rfl ?_
    obtain ⟨o4, o5, h⟩ := h
    refine zi_icmp_ge (x := 112) (pc' := 28) rfl rfl o4 o5 (fun c24 => ?_) (fun c24 => ?_)
    · replace h := h.1 c24
      exact zi_wk (hK112 _ h) (And.intro rfl (And.intro rfl trivial))
    · replace h := h.2 c24
      refine zi_aload_n (pc' := 29) rfl rfl rfl ?_
      refine zi_getr (pc' := 32) rfl rfl rfl rfl rfl ?_
      refine zi_iload_n (pc' := 33) rfl rfl rfl ?_
      obtain ⟨o6, h⟩ := h
      refine zi_iald (pc' := 34) rfl rfl rfl o6 ?_
      refine zi_istore_n (pc' := 35) [some _, some _, some _, some _] rfl rfl rfl ?_
      refine zi_aload_n (pc' := 36) rfl rfl rfl ?_
      refine zi_getr (pc' := 39) rfl rfl rfl rfl rfl ?_
      refine zi_iload_n (pc' := 40) rfl rfl rfl ?_
      obtain ⟨o7, h⟩ := h
      refine zi_iald (pc' := 41) rfl rfl rfl o7 ?_
      refine zi_iconst (pc' := 42) rfl rfl ?_
      obtain ⟨o8, h⟩ := h
      refine zi_icmp_ne (x := 106) (pc' := 45) rfl rfl o8 (by decide) (fun c23 => ?_) (fun c23 => ?_)
      · replace h := h.1 c23
        refine zi_iinc (pc' := 109) [some _, some _, some _, some _] rfl rfl rfl rfl ?_
        refine zi_goto (x := 20) rfl ?_
        exact zi_wk (s_Thought_partGroups_l20_r hd hK112 f h) (And.intro rfl (And.intro rfl (And.intro rfl trivial)))
      · replace h := h.2 c23
        refine zi_aload_n (pc' := 46) rfl rfl rfl ?_
        refine zi_getr (pc' := 49) rfl rfl rfl rfl rfl ?_
        refine zi_iload_n (pc' := 50) rfl rfl rfl ?_
        refine zi_iconst (pc' := 51) rfl rfl ?_
        refine zi_aload_n (pc' := 52) rfl rfl rfl ?_
        refine zi_geti (pc' := 55) 5 rfl rfl rfl rfl rfl rfl ?_
        refine zi_imul (pc' := 56) rfl rfl ?_
        refine zi_iast (pc' := 57) rfl rfl rfl o7 ?_
        replace h := h _ rfl
        refine zi_aload_n (pc' := 58) rfl rfl rfl ?_
        refine zi_aload_n (pc' := 59) rfl rfl rfl ?_
        refine zi_callV (d' := 1) (as := [_]) (pc' := 62) rfl rfl rfl rfl (Nat.lt_of_lt_of_le (by decide) hd) (s_Thought_spread (Nat.le_refl _) h) (zi_kv (fun g11 h => ?_))
        refine zi_aload_n (pc' := 63) rfl rfl rfl ?_
        refine zi_dup (pc' := 64) rfl rfl rfl ?_
        refine zi_geti (pc' := 67) 6 rfl rfl rfl rfl rfl rfl ?_
        refine zi_aload_n (pc' := 68) rfl rfl rfl ?_
        refine zi_iconst (pc' := 69) rfl rfl ?_
        refine zi_aload_n (pc' := 70) rfl rfl rfl ?_
        refine zi_geti (pc' := 73) 5 rfl rfl rfl rfl rfl rfl ?_
        refine zi_imul (pc' := 74) rfl rfl ?_
        refine zi_callV (d' := 1) (as := [_]) (pc' := 77) rfl rfl rfl rfl (Nat.lt_of_lt_of_le (by decide) hd) (s_Thought_countColour (Nat.le_refl _) h) (zi_ki (fun v13 g14 h => ?_))
        refine zi_aload_n (pc' := 78) rfl rfl rfl ?_
        refine zi_iconst (pc' := 79) rfl rfl ?_
        refine zi_aload_n (pc' := 80) rfl rfl rfl ?_
        refine zi_geti (pc' := 83) 5 rfl rfl rfl rfl rfl rfl ?_
        refine zi_imul (pc' := 84) rfl rfl ?_
        refine zi_iconst (pc' := 85) rfl rfl ?_
        refine zi_iadd (pc' := 86) rfl rfl ?_
        refine zi_callV (d' := 1) (as := [_]) (pc' := 89) rfl rfl rfl rfl (Nat.lt_of_lt_of_le (by decide) hd) (s_Thought_countColour (Nat.le_refl _) h) (zi_ki (fun v16 g17 h => ?_))
        obtain ⟨o19, o20, h⟩ := h
        refine zi_max (pc' := 92) rfl rfl o19 o20 (Nat.le_trans (by decide) hd) rfl ?_
        refine zi_iadd (pc' := 93) rfl rfl ?_
        refine zi_puti (pc' := 96) 6 rfl rfl rfl rfl rfl  ?_
        replace h := h _ rfl
        refine zi_aload_n (pc' := 97) rfl rfl rfl ?_
        refine zi_dup (pc' := 98) rfl rfl rfl ?_
        refine zi_geti (pc' := 101) 5 rfl rfl rfl rfl rfl rfl ?_
        refine zi_iconst (pc' := 102) rfl rfl ?_
        refine zi_iadd (pc' := 103) rfl rfl ?_
        refine zi_puti (pc' := 106) 5 rfl rfl rfl rfl rfl  ?_
        replace h := h _ rfl
        refine zi_iinc (pc' := 109) [some _, some _, some _, some _] rfl rfl rfl rfl ?_
        refine zi_goto (x := 20) rfl ?_
        exact zi_wk (s_Thought_partGroups_l20_r hd hK112 f h) (And.intro rfl (And.intro rfl (And.intro rfl trivial)))
set_option maxRecDepth 100000 in
theorem s_Thought_partGroups_l20 {E : sx_E} {d : Nat} (hd : 3 ≤ d) {K112 : zi_M → Prop} {Q : Int → zi_M → Prop} {l2 : Int} {g : zi_M} (h : ∃ f, w_Thought_partGroups_l20 K112 Q f l2 g) (hK112 : ∀ (g : zi_M), K112 g → zi_W E d 142 112 [some (.ref 180), some (.ref 36), none, none] [] g (zi_Qv Q)) : zi_W E d 142 20 [some (.ref 180), some (.ref 36), some (zi_i l2), none] [] g (zi_Qv Q) := by
  obtain ⟨f, h⟩ := h
  exact s_Thought_partGroups_l20_r hd hK112 f h
set_option maxRecDepth 100000 in
theorem s_Thought_partGroups_l114_r {E : sx_E} {d : Nat} (hd : 3 ≤ d) {K158 : zi_M → Prop} {Q : Int → zi_M → Prop} (hK158 : ∀ (g : zi_M), K158 g → zi_W E d 142 158 [some (.ref 180), some (.ref 36), none, none] [] g (zi_Qv Q)) : ∀ (f : Nat) {l2 : Int} {g : zi_M}, w_Thought_partGroups_l114 K158 Q f l2 g → zi_W E d 142 114 [some (.ref 180), some (.ref 36), some (zi_i l2), none] [] g (zi_Qv Q)
  | 0, _, _, h => False.elim h
  | f + 1, l2, g, h => by
    refine zi_iload_n (pc' := 115) rfl rfl rfl ?_
    refine zi_aload_n (pc' := 116) rfl rfl rfl ?_
    refine zi_geti (pc' := 119) 5 rfl rfl rfl rfl rfl rfl ?_
    obtain ⟨o26, o27, h⟩ := h
    refine zi_icmp_ge (x := 158) (pc' := 122) rfl rfl o26 o27 (fun c35 => ?_) (fun c35 => ?_)
    · replace h := h.1 c35
      exact zi_wk (hK158 _ h) (And.intro rfl (And.intro rfl trivial))
    · replace h := h.2 c35
      refine zi_aload_n (pc' := 123) rfl rfl rfl ?_
      refine zi_getr (pc' := 126) rfl rfl rfl rfl rfl ?_
      refine zi_aload_n (pc' := 127) rfl rfl rfl ?_
      refine zi_getr (pc' := 130) rfl rfl rfl rfl rfl ?_
      refine zi_iload_n (pc' := 131) rfl rfl rfl ?_
      obtain ⟨o28, h⟩ := h
      refine zi_iald (pc' := 132) rfl rfl rfl o28 ?_
      obtain ⟨o29, h⟩ := h
      refine zi_iald (pc' := 133) rfl rfl rfl o29 ?_
      refine zi_aload_n (pc' := 134) rfl rfl rfl ?_
      refine zi_getr (pc' := 137) rfl rfl rfl rfl rfl ?_
      refine zi_aload_n (pc' := 138) rfl rfl rfl ?_
      refine zi_getr (pc' := 141) rfl rfl rfl rfl rfl ?_
      refine zi_iload_n (pc' := 142) rfl rfl rfl ?_
      refine zi_iald (pc' := 143) rfl rfl rfl o28 ?_
      obtain ⟨o30, h⟩ := h
      refine zi_iald (pc' := 144) rfl rfl rfl o30 ?_
      obtain ⟨o31, o32, h⟩ := h
      refine zi_icmp_ne (x := 152) (pc' := 147) rfl rfl o31 o32 (fun c34 => ?_) (fun c34 => ?_)
      · replace h := h.1 c34
        refine zi_iinc (pc' := 155) [some _, some _, some _, none] rfl rfl rfl rfl ?_
        refine zi_goto (x := 114) rfl ?_
        exact zi_wk (s_Thought_partGroups_l114_r hd hK158 f h) (And.intro rfl (And.intro rfl (And.intro rfl trivial)))
      · replace h := h.2 c34
        refine zi_aload_n (pc' := 148) rfl rfl rfl ?_
        refine zi_iconst (pc' := 149) rfl rfl ?_
        refine zi_puti (pc' := 152) 6 rfl rfl rfl rfl rfl  ?_
        replace h := h _ rfl
        refine zi_iinc (pc' := 155) [some _, some _, some _, none] rfl rfl rfl rfl ?_
        refine zi_goto (x := 114) rfl ?_
        exact zi_wk (s_Thought_partGroups_l114_r hd hK158 f h) (And.intro rfl (And.intro rfl (And.intro rfl trivial)))
set_option maxRecDepth 100000 in
theorem s_Thought_partGroups_l114 {E : sx_E} {d : Nat} (hd : 3 ≤ d) {K158 : zi_M → Prop} {Q : Int → zi_M → Prop} {l2 : Int} {g : zi_M} (h : ∃ f, w_Thought_partGroups_l114 K158 Q f l2 g) (hK158 : ∀ (g : zi_M), K158 g → zi_W E d 142 158 [some (.ref 180), some (.ref 36), none, none] [] g (zi_Qv Q)) : zi_W E d 142 114 [some (.ref 180), some (.ref 36), some (zi_i l2), none] [] g (zi_Qv Q) := by
  obtain ⟨f, h⟩ := h
  exact s_Thought_partGroups_l114_r hd hK158 f h
set_option maxRecDepth 100000 in
theorem s_Thought_partGroups {E : sx_E} {d : Nat} (hd : 3 ≤ d) {g : zi_M} {Q : Int → zi_M → Prop} (h : w_Thought_partGroups g Q) : zi_S E d 142 [.ref 180, .ref 36] g (zi_Qv Q) := by
  refine zi_Sof jf_142 [some (.ref 180), some (.ref 36), none, none] rfl (And.intro rfl (And.intro rfl trivial)) ?_
  unfold w_Thought_partGroups at h
  refine zi_aload_n (pc' := 1) rfl rfl rfl ?_
  refine zi_getr (pc' := 4) rfl rfl rfl rfl rfl ?_
  refine zi_iconst (pc' := 5) rfl rfl ?_
  refine zi_callS (d' := 2) (as := [_, _]) (pc' := 8) rfl rfl rfl (Nat.lt_of_lt_of_le (by decide) hd) (zi_fill (n := 10) rfl rfl) (zi_kv (fun g' h' => ?_))
  subst h'
  replace h := h _ rfl
  refine zi_aload_n (pc' := 9) rfl rfl rfl ?_
  refine zi_iconst (pc' := 10) rfl rfl ?_
  refine zi_puti (pc' := 13) 5 rfl rfl rfl rfl rfl  ?_
  replace h := h _ rfl
  refine zi_aload_n (pc' := 14) rfl rfl rfl ?_
  refine zi_iconst (pc' := 15) rfl rfl ?_
  refine zi_puti (pc' := 18) 6 rfl rfl rfl rfl rfl  ?_
  replace h := h _ rfl
  refine zi_iconst (pc' := 19) rfl rfl ?_
  refine zi_istore_n (pc' := 20) [some _, some _, some _, none] rfl rfl rfl ?_
  refine zi_wk (s_Thought_partGroups_l20 hd h (fun g25 h => ?_)) (And.intro rfl (And.intro rfl (And.intro rfl trivial)))
  refine zi_iconst (pc' := 113) rfl rfl ?_
  refine zi_istore_n (pc' := 114) [some _, some _, some _, none] rfl rfl rfl ?_
  refine zi_wk (s_Thought_partGroups_l114 hd h (fun g36 h => ?_)) (And.intro rfl (And.intro rfl (And.intro rfl trivial)))
  exact zi_vret rfl rfl h
