-- by program (wip/gen/mkz.py)
-- SpoutNews$Law.addLine(III)V
noncomputable def w_Law_addLine (l1 : Int) (l2 : Int) (l3 : Int) (g : zi_M) (Q : Int → zi_M → Prop) : Prop := (zi_r (g 196 7) ∧ ((16 ≤ (g 196 7) → Q 0 g) ∧ ((g 196 7) < 16 → ((0 ≤ (g 196 7) ∧ (g 196 7) < 16) ∧ (∀ g3, g3 = zi_u g 199 (g 196 7) l1 → ((0 ≤ (g3 196 7) ∧ (g3 196 7) < 16) ∧ (∀ g5, g5 = zi_u g3 200 (g3 196 7) l2 → ((0 ≤ (g5 196 7) ∧ (g5 196 7) < 16) ∧ (∀ g7, g7 = zi_u g5 201 (g5 196 7) l3 → ((0 ≤ (g7 196 7) ∧ (g7 196 7) < 16) ∧ (∀ g9, g9 = zi_u g7 202 (g7 196 7) (g7 196 2) → (∀ g10, g10 = zi_u g9 196 7 ((g9 196 7) + 1) → Q 0 g10))))))))))))
set_option maxRecDepth 100000 in
theorem s_Law_addLine {E : sx_E} {d : Nat} (hd : 1 ≤ d) {l1 : Int} {l2 : Int} {l3 : Int} {g : zi_M} {Q : Int → zi_M → Prop} (h : w_Law_addLine l1 l2 l3 g Q) : zi_S E d 101 [.ref 196, zi_i l1, zi_i l2, zi_i l3] g (zi_Qv Q) := by
  refine zi_Sof jf_101 [some (.ref 196), some (zi_i l1), some (zi_i l2), some (zi_i l3)] rfl (And.intro rfl (And.intro rfl (And.intro rfl (And.intro rfl trivial)))) ?_
  unfold w_Law_addLine at h
  refine zi_aload_n (pc' := 1) rfl rfl rfl ?_
  refine zi_geti (pc' := 4) 7 rfl rfl rfl rfl rfl rfl ?_
  refine zi_bipush (pc' := 6) rfl rfl (by decide) ?_
  obtain ⟨o1, h⟩ := h
  refine zi_icmp_ge (x := 62) (pc' := 9) rfl rfl o1 (by decide) (fun c11 => ?_) (fun c11 => ?_)
  · replace h := h.1 c11
    exact zi_vret rfl rfl h
  · replace h := h.2 c11
    refine zi_aload_n (pc' := 10) rfl rfl rfl ?_
    refine zi_getr (pc' := 13) rfl rfl rfl rfl rfl ?_
    refine zi_aload_n (pc' := 14) rfl rfl rfl ?_
    refine zi_geti (pc' := 17) 7 rfl rfl rfl rfl rfl rfl ?_
    refine zi_iload_n (pc' := 18) rfl rfl rfl ?_
    obtain ⟨o2, h⟩ := h
    refine zi_iast (pc' := 19) rfl rfl rfl o2 ?_
    replace h := h _ rfl
    refine zi_aload_n (pc' := 20) rfl rfl rfl ?_
    refine zi_getr (pc' := 23) rfl rfl rfl rfl rfl ?_
    refine zi_aload_n (pc' := 24) rfl rfl rfl ?_
    refine zi_geti (pc' := 27) 7 rfl rfl rfl rfl rfl rfl ?_
    refine zi_iload_n (pc' := 28) rfl rfl rfl ?_
    obtain ⟨o4, h⟩ := h
    refine zi_iast (pc' := 29) rfl rfl rfl o4 ?_
    replace h := h _ rfl
    refine zi_aload_n (pc' := 30) rfl rfl rfl ?_
    refine zi_getr (pc' := 33) rfl rfl rfl rfl rfl ?_
    refine zi_aload_n (pc' := 34) rfl rfl rfl ?_
    refine zi_geti (pc' := 37) 7 rfl rfl rfl rfl rfl rfl ?_
    refine zi_iload_n (pc' := 38) rfl rfl rfl ?_
    obtain ⟨o6, h⟩ := h
    refine zi_iast (pc' := 39) rfl rfl rfl o6 ?_
    replace h := h _ rfl
    refine zi_aload_n (pc' := 40) rfl rfl rfl ?_
    refine zi_getr (pc' := 43) rfl rfl rfl rfl rfl ?_
    refine zi_aload_n (pc' := 44) rfl rfl rfl ?_
    refine zi_geti (pc' := 47) 7 rfl rfl rfl rfl rfl rfl ?_
    refine zi_aload_n (pc' := 48) rfl rfl rfl ?_
    refine zi_geti (pc' := 51) 2 rfl rfl rfl rfl rfl rfl ?_
    obtain ⟨o8, h⟩ := h
    refine zi_iast (pc' := 52) rfl rfl rfl o8 ?_
    replace h := h _ rfl
    refine zi_aload_n (pc' := 53) rfl rfl rfl ?_
    refine zi_dup (pc' := 54) rfl rfl rfl ?_
    refine zi_geti (pc' := 57) 7 rfl rfl rfl rfl rfl rfl ?_
    refine zi_iconst (pc' := 58) rfl rfl ?_
    refine zi_iadd (pc' := 59) rfl rfl ?_
    refine zi_puti (pc' := 62) 7 rfl rfl rfl rfl rfl  ?_
    replace h := h _ rfl
    exact zi_vret rfl rfl h
-- SpoutNews$LawReader.push(I)V
noncomputable def w_LawReader_push (l1 : Int) (g : zi_M) (Q : Int → zi_M → Prop) : Prop := (zi_r (g 212 1) ∧ ((40 ≤ (g 212 1) → Q 0 g) ∧ ((g 212 1) < 40 → ((0 ≤ (g 212 1) ∧ (g 212 1) < 40) ∧ (∀ g3, g3 = zi_u g 213 (g 212 1) l1 → (∀ g4, g4 = zi_u g3 212 1 ((g3 212 1) + 1) → Q 0 g4))))))
set_option maxRecDepth 100000 in
theorem s_LawReader_push {E : sx_E} {d : Nat} (hd : 1 ≤ d) {l1 : Int} {g : zi_M} {Q : Int → zi_M → Prop} (h : w_LawReader_push l1 g Q) : zi_S E d 96 [.ref 212, zi_i l1] g (zi_Qv Q) := by
  refine zi_Sof jf_96 [some (.ref 212), some (zi_i l1)] rfl (And.intro rfl (And.intro rfl trivial)) ?_
  unfold w_LawReader_push at h
  refine zi_aload_n (pc' := 1) rfl rfl rfl ?_
  refine zi_geti (pc' := 4) 1 rfl rfl rfl rfl rfl rfl ?_
  refine zi_bipush (pc' := 6) rfl rfl (by decide) ?_
  obtain ⟨o1, h⟩ := h
  refine zi_icmp_ge (x := 29) (pc' := 9) rfl rfl o1 (by decide) (fun c5 => ?_) (fun c5 => ?_)
  · replace h := h.1 c5
    exact zi_vret rfl rfl h
  · replace h := h.2 c5
    refine zi_aload_n (pc' := 10) rfl rfl rfl ?_
    refine zi_getr (pc' := 13) rfl rfl rfl rfl rfl ?_
    refine zi_aload_n (pc' := 14) rfl rfl rfl ?_
    refine zi_geti (pc' := 17) 1 rfl rfl rfl rfl rfl rfl ?_
    refine zi_iload_n (pc' := 18) rfl rfl rfl ?_
    obtain ⟨o2, h⟩ := h
    refine zi_iast (pc' := 19) rfl rfl rfl o2 ?_
    replace h := h _ rfl
    refine zi_aload_n (pc' := 20) rfl rfl rfl ?_
    refine zi_dup (pc' := 21) rfl rfl rfl ?_
    refine zi_geti (pc' := 24) 1 rfl rfl rfl rfl rfl rfl ?_
    refine zi_iconst (pc' := 25) rfl rfl ?_
    refine zi_iadd (pc' := 26) rfl rfl ?_
    refine zi_puti (pc' := 29) 1 rfl rfl rfl rfl rfl  ?_
    replace h := h _ rfl
    exact zi_vret rfl rfl h
-- SpoutNews$LawReader.openAll(LSpoutNews$Tokens;)Z
noncomputable def w_LawReader_openAll_b70 (l2 : Int) (l3 : Int) (g : zi_M) (H : Int → zi_M → Prop) (K29 : zi_M → Prop) (K40 : zi_M → Prop) (K94 : zi_M → Prop) (Q : Int → zi_M → Prop) : Prop := (zi_r l3 ∧ ((l3 = 0 → w_LawReader_push 6 g (fun _ g10 => w_Tokens_step g10 (fun _ g13 => H (l2 + 1) g13))) ∧ (¬ l3 = 0 → w_LawReader_push 0 g (fun _ g16 => w_Tokens_step g16 (fun _ g19 => H (l2 + 1) g19)))))
noncomputable def w_LawReader_openAll_b31 (l2 : Int) (l3 : Int) (g : zi_M) (H : Int → zi_M → Prop) (K29 : zi_M → Prop) (K40 : zi_M → Prop) (K94 : zi_M → Prop) (Q : Int → zi_M → Prop) : Prop := (zi_r (g 212 2) ∧ (((g 212 2) < 8 → (∀ g6, g6 = zi_u g 212 2 ((g 212 2) + 1) → (zi_r l3 ∧ ((l3 = 0 → w_LawReader_openAll_b70 l2 l3 g6 H K29 K40 K94 Q) ∧ (¬ l3 = 0 → (∀ g22, g22 = zi_u g6 212 3 ((g6 212 3) + 1) → w_LawReader_openAll_b70 l2 l3 g22 H K29 K40 K94 Q)))))) ∧ (8 ≤ (g 212 2) → K40 g)))
noncomputable def w_LawReader_openAll_l2 (K29 : zi_M → Prop) (K40 : zi_M → Prop) (K94 : zi_M → Prop) (Q : Int → zi_M → Prop) : Nat → Int → zi_M → Prop
  | 0, _, _ => False
  | f + 1, l2, g => (zi_r l2 ∧ ((8 < l2 → K94 g) ∧ (l2 ≤ 8 → w_Tokens_isAt 3 40 g (fun v2 g3 => ((¬ v2 = 0 → w_LawReader_openAll_b31 l2 v2 g3 (w_LawReader_openAll_l2 K29 K40 K94 Q f) K29 K40 K94 Q) ∧ (v2 = 0 → w_Tokens_keyword g3 (fun v25 g26 => (zi_r v25 ∧ ((v25 = 6 → w_LawReader_openAll_b31 l2 v2 g26 (w_LawReader_openAll_l2 K29 K40 K94 Q f) K29 K40 K94 Q) ∧ (¬ v25 = 6 → K29 g26))))))))))
noncomputable def w_LawReader_openAll (g : zi_M) (Q : Int → zi_M → Prop) : Prop := (∃ f38, w_LawReader_openAll_l2 (fun g32 => Q 1 g32) (fun g33 => w_Tokens_refuse 3 g33 (fun v34 g35 => Q v34 g35)) (fun g37 => Q 1 g37) Q f38 0 g)
set_option maxRecDepth 100000 in
theorem s_LawReader_openAll_b70 {E : sx_E} {d : Nat} (hd : 2 ≤ d) {l2 : Int} {l3 : Int} {H : Int → zi_M → Prop} {K29 : zi_M → Prop} {K40 : zi_M → Prop} {K94 : zi_M → Prop} {Q : Int → zi_M → Prop} {g : zi_M} (h : w_LawReader_openAll_b70 l2 l3 g H K29 K40 K94 Q) (hH : ∀ (m2 : Int) (g : zi_M), H m2 g → zi_W E d 95 2 [some (.ref 212), some (.ref 191), some (zi_i m2), none] [] g (zi_Qb Q)) (hK29 : ∀ (g : zi_M), K29 g → zi_W E d 95 29 [some (.ref 212), some (.ref 191), none, none] [] g (zi_Qb Q)) (hK40 : ∀ (g : zi_M), K40 g → zi_W E d 95 40 [some (.ref 212), some (.ref 191), none, none] [] g (zi_Qb Q)) (hK94 : ∀ (g : zi_M), K94 g → zi_W E d 95 94 [some (.ref 212), some (.ref 191), none, none] [] g (zi_Qb Q)) : zi_W E d 95 70 [some (.ref 212), some (.ref 191), some (zi_i l2), some (zi_i l3)] [] g (zi_Qb Q) := by
  unfold w_LawReader_openAll_b70 at h
  refine zi_aload_n (pc' := 71) rfl rfl rfl ?_
  refine zi_iload_n (pc' := 72) rfl rfl rfl ?_
  obtain ⟨o8, h⟩ := h
  refine zi_if_eq (x := 79) (pc' := 75) rfl rfl o8  (fun c21 => ?_) (fun c21 => ?_)
  · replace h := h.1 c21
    refine zi_bipush (pc' := 81) rfl rfl (by decide) ?_
    refine zi_callV (d' := 1) (as := [_]) (pc' := 84) rfl rfl rfl rfl (Nat.lt_of_lt_of_le (by decide) hd) (s_LawReader_push (Nat.le_refl _) h) (zi_kv (fun g10 h => ?_))
    refine zi_aload_n (pc' := 85) rfl rfl rfl ?_
    refine zi_callV (d' := 1) (as := []) (pc' := 88) rfl rfl rfl rfl (Nat.lt_of_lt_of_le (by decide) hd) (s_Tokens_step (Nat.le_refl _) h) (zi_kv (fun g13 h => ?_))
    refine zi_iinc (pc' := 91) [some _, some _, some _, some _] rfl rfl rfl rfl ?_
    refine zi_goto (x := 2) rfl ?_
    exact zi_wk (hH _ _ h) (And.intro rfl (And.intro rfl (And.intro rfl trivial)))
  · replace h := h.2 c21
    refine zi_iconst (pc' := 76) rfl rfl ?_
    refine zi_goto (x := 81) rfl ?_
    refine zi_callV (d' := 1) (as := [_]) (pc' := 84) rfl rfl rfl rfl (Nat.lt_of_lt_of_le (by decide) hd) (s_LawReader_push (Nat.le_refl _) h) (zi_kv (fun g16 h => ?_))
    refine zi_aload_n (pc' := 85) rfl rfl rfl ?_
    refine zi_callV (d' := 1) (as := []) (pc' := 88) rfl rfl rfl rfl (Nat.lt_of_lt_of_le (by decide) hd) (s_Tokens_step (Nat.le_refl _) h) (zi_kv (fun g19 h => ?_))
    refine zi_iinc (pc' := 91) [some _, some _, some _, some _] rfl rfl rfl rfl ?_
    refine zi_goto (x := 2) rfl ?_
    exact zi_wk (hH _ _ h) (And.intro rfl (And.intro rfl (And.intro rfl trivial)))
set_option maxRecDepth 100000 in
theorem s_LawReader_openAll_b31 {E : sx_E} {d : Nat} (hd : 2 ≤ d) {l2 : Int} {l3 : Int} {H : Int → zi_M → Prop} {K29 : zi_M → Prop} {K40 : zi_M → Prop} {K94 : zi_M → Prop} {Q : Int → zi_M → Prop} {g : zi_M} (h : w_LawReader_openAll_b31 l2 l3 g H K29 K40 K94 Q) (hH : ∀ (m2 : Int) (g : zi_M), H m2 g → zi_W E d 95 2 [some (.ref 212), some (.ref 191), some (zi_i m2), none] [] g (zi_Qb Q)) (hK29 : ∀ (g : zi_M), K29 g → zi_W E d 95 29 [some (.ref 212), some (.ref 191), none, none] [] g (zi_Qb Q)) (hK40 : ∀ (g : zi_M), K40 g → zi_W E d 95 40 [some (.ref 212), some (.ref 191), none, none] [] g (zi_Qb Q)) (hK94 : ∀ (g : zi_M), K94 g → zi_W E d 95 94 [some (.ref 212), some (.ref 191), none, none] [] g (zi_Qb Q)) : zi_W E d 95 31 [some (.ref 212), some (.ref 191), some (zi_i l2), some (zi_i l3)] [] g (zi_Qb Q) := by
  unfold w_LawReader_openAll_b31 at h
  refine zi_aload_n (pc' := 32) rfl rfl rfl ?_
  refine zi_geti (pc' := 35) 2 rfl rfl rfl rfl rfl rfl ?_
  refine zi_bipush (pc' := 37) rfl rfl (by decide) ?_
  obtain ⟨o5, h⟩ := h
  refine zi_icmp_lt (x := 46) (pc' := 40) rfl rfl o5 (by decide) (fun c24 => ?_) (fun c24 => ?_)
  · replace h := h.1 c24
    refine zi_aload_n (pc' := 47) rfl rfl rfl ?_
    refine zi_dup (pc' := 48) rfl rfl rfl ?_
    refine zi_geti (pc' := 51) 2 rfl rfl rfl rfl rfl rfl ?_
    refine zi_iconst (pc' := 52) rfl rfl ?_
    refine zi_iadd (pc' := 53) rfl rfl ?_
    refine zi_puti (pc' := 56) 2 rfl rfl rfl rfl rfl  ?_
    replace h := h _ rfl
    refine zi_iload_n (pc' := 57) rfl rfl rfl ?_
    obtain ⟨o7, h⟩ := h
    refine zi_if_eq (x := 70) (pc' := 60) rfl rfl o7  (fun c23 => ?_) (fun c23 => ?_)
    · replace h := h.1 c23
      exact zi_wk (s_LawReader_openAll_b70 hd h hH hK29 hK40 hK94) (And.intro rfl (And.intro rfl (And.intro rfl (And.intro rfl trivial))))
    · replace h := h.2 c23
      refine zi_aload_n (pc' := 61) rfl rfl rfl ?_
      refine zi_dup (pc' := 62) rfl rfl rfl ?_
      refine zi_geti (pc' := 65) 3 rfl rfl rfl rfl rfl rfl ?_
      refine zi_iconst (pc' := 66) rfl rfl ?_
      refine zi_iadd (pc' := 67) rfl rfl ?_
      refine zi_puti (pc' := 70) 3 rfl rfl rfl rfl rfl  ?_
      replace h := h _ rfl
      exact zi_wk (s_LawReader_openAll_b70 hd h hH hK29 hK40 hK94) (And.intro rfl (And.intro rfl (And.intro rfl (And.intro rfl trivial))))
  · replace h := h.2 c24
    exact zi_wk (hK40 _ h) (And.intro rfl (And.intro rfl trivial))
set_option maxRecDepth 100000 in
theorem s_LawReader_openAll_l2_r {E : sx_E} {d : Nat} (hd : 2 ≤ d) {K29 : zi_M → Prop} {K40 : zi_M → Prop} {K94 : zi_M → Prop} {Q : Int → zi_M → Prop} (hK29 : ∀ (g : zi_M), K29 g → zi_W E d 95 29 [some (.ref 212), some (.ref 191), none, none] [] g (zi_Qb Q)) (hK40 : ∀ (g : zi_M), K40 g → zi_W E d 95 40 [some (.ref 212), some (.ref 191), none, none] [] g (zi_Qb Q)) (hK94 : ∀ (g : zi_M), K94 g → zi_W E d 95 94 [some (.ref 212), some (.ref 191), none, none] [] g (zi_Qb Q)) : ∀ (f : Nat) {l2 : Int} {g : zi_M}, w_LawReader_openAll_l2 K29 K40 K94 Q f l2 g → zi_W E d 95 2 [some (.ref 212), some (.ref 191), some (zi_i l2), none] [] g (zi_Qb Q)
  | 0, _, _, h => False.elim h
  | f + 1, l2, g, h => by
    refine zi_iload_n (pc' := 3) rfl rfl rfl ?_
    refine zi_bipush (pc' := 5) rfl rfl (by decide) ?_
    obtain ⟨o1, h⟩ := h
    refine zi_icmp_gt (x := 94) (pc' := 8) rfl rfl o1 (by decide) (fun c31 => ?_) (fun c31 => ?_)
    · replace h := h.1 c31
      exact zi_wk (hK94 _ h) (And.intro rfl (And.intro rfl trivial))
    · replace h := h.2 c31
      refine zi_aload_n (pc' := 9) rfl rfl rfl ?_
      refine zi_iconst (pc' := 10) rfl rfl ?_
      refine zi_bipush (pc' := 12) rfl rfl (by decide) ?_
      refine zi_callV (d' := 1) (as := [_, _]) (pc' := 15) rfl rfl rfl rfl (Nat.lt_of_lt_of_le (by decide) hd) (s_Tokens_isAt (Nat.le_refl _) h) (zi_kb (fun v2 g3 b4 h => ?_))
      refine zi_istore_n (pc' := 16) [some _, some _, some _, some _] rfl rfl rfl ?_
      refine zi_iload_n (pc' := 17) rfl rfl rfl ?_
      refine zi_if_ne (x := 31) (pc' := 20) rfl rfl (zi_r_bit b4)  (fun c30 => ?_) (fun c30 => ?_)
      · replace h := h.1 c30
        exact zi_wk (s_LawReader_openAll_b31 hd h (fun _ _ h => s_LawReader_openAll_l2_r hd hK29 hK40 hK94 f h) hK29 hK40 hK94) (And.intro rfl (And.intro rfl (And.intro rfl (And.intro rfl trivial))))
      · replace h := h.2 c30
        refine zi_aload_n (pc' := 21) rfl rfl rfl ?_
        refine zi_callV (d' := 1) (as := []) (pc' := 24) rfl rfl rfl rfl (Nat.lt_of_lt_of_le (by decide) hd) (s_Tokens_keyword (Nat.le_refl _) h) (zi_ki (fun v25 g26 h => ?_))
        refine zi_bipush (pc' := 26) rfl rfl (by decide) ?_
        obtain ⟨o28, h⟩ := h
        refine zi_icmp_eq (x := 31) (pc' := 29) rfl rfl o28 (by decide) (fun c29 => ?_) (fun c29 => ?_)
        · replace h := h.1 c29
          exact zi_wk (s_LawReader_openAll_b31 hd h (fun _ _ h => s_LawReader_openAll_l2_r hd hK29 hK40 hK94 f h) hK29 hK40 hK94) (And.intro rfl (And.intro rfl (And.intro rfl (And.intro rfl trivial))))
        · replace h := h.2 c29
          exact zi_wk (hK29 _ h) (And.intro rfl (And.intro rfl trivial))
set_option maxRecDepth 100000 in
theorem s_LawReader_openAll_l2 {E : sx_E} {d : Nat} (hd : 2 ≤ d) {K29 : zi_M → Prop} {K40 : zi_M → Prop} {K94 : zi_M → Prop} {Q : Int → zi_M → Prop} {l2 : Int} {g : zi_M} (h : ∃ f, w_LawReader_openAll_l2 K29 K40 K94 Q f l2 g) (hK29 : ∀ (g : zi_M), K29 g → zi_W E d 95 29 [some (.ref 212), some (.ref 191), none, none] [] g (zi_Qb Q)) (hK40 : ∀ (g : zi_M), K40 g → zi_W E d 95 40 [some (.ref 212), some (.ref 191), none, none] [] g (zi_Qb Q)) (hK94 : ∀ (g : zi_M), K94 g → zi_W E d 95 94 [some (.ref 212), some (.ref 191), none, none] [] g (zi_Qb Q)) : zi_W E d 95 2 [some (.ref 212), some (.ref 191), some (zi_i l2), none] [] g (zi_Qb Q) := by
  obtain ⟨f, h⟩ := h
  exact s_LawReader_openAll_l2_r hd hK29 hK40 hK94 f h
set_option maxRecDepth 100000 in
theorem s_LawReader_openAll {E : sx_E} {d : Nat} (hd : 2 ≤ d) {g : zi_M} {Q : Int → zi_M → Prop} (h : w_LawReader_openAll g Q) : zi_S E d 95 [.ref 212, .ref 191] g (zi_Qb Q) := by
  refine zi_Sof jf_95 [some (.ref 212), some (.ref 191), none, none] rfl (And.intro rfl (And.intro rfl trivial)) ?_
  unfold w_LawReader_openAll at h
  refine zi_iconst (pc' := 1) rfl rfl ?_
  refine zi_istore_n (pc' := 2) [some _, some _, some _, none] rfl rfl rfl ?_
  refine zi_wk (s_LawReader_openAll_l2 hd h (fun g32 h => ?_) (fun g33 h => ?_) (fun g37 h => ?_)) (And.intro rfl (And.intro rfl (And.intro rfl trivial)))
  · refine zi_iconst (pc' := 30) rfl rfl ?_
    exact zi_zret rfl rfl (Or.inr rfl) h
  · refine zi_aload_n (pc' := 41) rfl rfl rfl ?_
    refine zi_iconst (pc' := 42) rfl rfl ?_
    refine zi_callV (d' := 1) (as := [_]) (pc' := 45) rfl rfl rfl rfl (Nat.lt_of_lt_of_le (by decide) hd) (s_Tokens_refuse (Nat.le_refl _) h) (zi_kb (fun v34 g35 b36 h => ?_))
    exact zi_zret rfl rfl b36 h
  · refine zi_iconst (pc' := 95) rfl rfl ?_
    exact zi_zret rfl rfl (Or.inr rfl) h
-- SpoutNews$LawReader.comparison(LSpoutNews$Tokens;LSpoutNews$Law;)Z
noncomputable def w_LawReader_comparison_b57 (s0 : Int) (g : zi_M) (Q : Int → zi_M → Prop) : Prop := (zi_r s0 ∧ ((¬ s0 = (-1) → w_Tokens_step g (fun _ g15 => w_LawReader_sum g15 (fun v17 g18 => ((¬ v17 = 0 → w_Law_add s0 0 g18 (fun _ g21 => Q 1 g21)) ∧ (v17 = 0 → Q 0 g18))))) ∧ (s0 = (-1) → w_Tokens_refuse 1 g (fun v24 g25 => Q v24 g25))))
noncomputable def w_LawReader_comparison (g : zi_M) (Q : Int → zi_M → Prop) : Prop := w_LawReader_sum g (fun v1 g2 => ((¬ v1 = 0 → w_Tokens_isAt 3 60 g2 (fun v4 g5 => ((v4 = 0 → w_Tokens_isAt 3 61 g5 (fun v7 g8 => ((v7 = 0 → w_Tokens_isAt 3 62 g8 (fun v10 g11 => ((v10 = 0 → w_LawReader_comparison_b57 (-1) g11 Q) ∧ (¬ v10 = 0 → w_LawReader_comparison_b57 8 g11 Q)))) ∧ (¬ v7 = 0 → w_LawReader_comparison_b57 7 g8 Q)))) ∧ (¬ v4 = 0 → w_LawReader_comparison_b57 6 g5 Q)))) ∧ (v1 = 0 → Q 0 g2)))
set_option maxRecDepth 100000 in
theorem s_LawReader_comparison_b57 {E : sx_E} {d : Nat} (hd : 4 ≤ d) {s0 : Int} {Q : Int → zi_M → Prop} {g : zi_M} (h : w_LawReader_comparison_b57 s0 g Q) : zi_W E d 97 57 [some (.ref 212), some (.ref 191), some (.ref 196), none] [zi_i s0] g (zi_Qb Q) := by
  unfold w_LawReader_comparison_b57 at h
  refine zi_istore_n (pc' := 58) [some _, some _, some _, some _] rfl rfl rfl ?_
  refine zi_iload_n (pc' := 59) rfl rfl rfl ?_
  refine zi_iconst (pc' := 60) rfl rfl ?_
  obtain ⟨o13, h⟩ := h
  refine zi_icmp_ne (x := 69) (pc' := 63) rfl rfl o13 (by decide) (fun c27 => ?_) (fun c27 => ?_)
  · replace h := h.1 c27
    refine zi_aload_n (pc' := 70) rfl rfl rfl ?_
    refine zi_callV (d' := 1) (as := []) (pc' := 73) rfl rfl rfl rfl (Nat.lt_of_lt_of_le (by decide) hd) (s_Tokens_step (Nat.le_refl _) h) (zi_kv (fun g15 h => ?_))
    refine zi_aload_n (pc' := 74) rfl rfl rfl ?_
    refine zi_aload_n (pc' := 75) rfl rfl rfl ?_
    refine zi_aload_n (pc' := 76) rfl rfl rfl ?_
    refine zi_callV (d' := 3) (as := [_, _]) (pc' := 79) rfl rfl rfl rfl (Nat.lt_of_lt_of_le (by decide) hd) (s_LawReader_sum (Nat.le_refl _) h) (zi_kb (fun v17 g18 b19 h => ?_))
    refine zi_if_ne (x := 84) (pc' := 82) rfl rfl (zi_r_bit b19)  (fun c23 => ?_) (fun c23 => ?_)
    · replace h := h.1 c23
      refine zi_aload_n (pc' := 85) rfl rfl rfl ?_
      refine zi_iload_n (pc' := 86) rfl rfl rfl ?_
      refine zi_iconst (pc' := 87) rfl rfl ?_
      refine zi_callV (d' := 1) (as := [_, _]) (pc' := 90) rfl rfl rfl rfl (Nat.lt_of_lt_of_le (by decide) hd) (s_Law_add (Nat.le_refl _) h) (zi_kv (fun g21 h => ?_))
      refine zi_iconst (pc' := 91) rfl rfl ?_
      exact zi_zret rfl rfl (Or.inr rfl) h
    · replace h := h.2 c23
      refine zi_iconst (pc' := 83) rfl rfl ?_
      exact zi_zret rfl rfl (Or.inl rfl) h
  · replace h := h.2 c27
    refine zi_aload_n (pc' := 64) rfl rfl rfl ?_
    refine zi_iconst (pc' := 65) rfl rfl ?_
    refine zi_callV (d' := 1) (as := [_]) (pc' := 68) rfl rfl rfl rfl (Nat.lt_of_lt_of_le (by decide) hd) (s_Tokens_refuse (Nat.le_refl _) h) (zi_kb (fun v24 g25 b26 h => ?_))
    exact zi_zret rfl rfl b26 h
set_option maxRecDepth 100000 in
theorem s_LawReader_comparison {E : sx_E} {d : Nat} (hd : 4 ≤ d) {g : zi_M} {Q : Int → zi_M → Prop} (h : w_LawReader_comparison g Q) : zi_S E d 97 [.ref 212, .ref 191, .ref 196] g (zi_Qb Q) := by
  refine zi_Sof jf_97 [some (.ref 212), some (.ref 191), some (.ref 196), none] rfl (And.intro rfl (And.intro rfl (And.intro rfl trivial))) ?_
  unfold w_LawReader_comparison at h
  refine zi_aload_n (pc' := 1) rfl rfl rfl ?_
  refine zi_aload_n (pc' := 2) rfl rfl rfl ?_
  refine zi_aload_n (pc' := 3) rfl rfl rfl ?_
  refine zi_callV (d' := 3) (as := [_, _]) (pc' := 6) rfl rfl rfl rfl (Nat.lt_of_lt_of_le (by decide) hd) (s_LawReader_sum (Nat.le_refl _) h) (zi_kb (fun v1 g2 b3 h => ?_))
  refine zi_if_ne (x := 11) (pc' := 9) rfl rfl (zi_r_bit b3)  (fun c31 => ?_) (fun c31 => ?_)
  · replace h := h.1 c31
    refine zi_aload_n (pc' := 12) rfl rfl rfl ?_
    refine zi_iconst (pc' := 13) rfl rfl ?_
    refine zi_bipush (pc' := 15) rfl rfl (by decide) ?_
    refine zi_callV (d' := 1) (as := [_, _]) (pc' := 18) rfl rfl rfl rfl (Nat.lt_of_lt_of_le (by decide) hd) (s_Tokens_isAt (Nat.le_refl _) h) (zi_kb (fun v4 g5 b6 h => ?_))
    refine zi_if_eq (x := 26) (pc' := 21) rfl rfl (zi_r_bit b6)  (fun c30 => ?_) (fun c30 => ?_)
    · replace h := h.1 c30
      refine zi_aload_n (pc' := 27) rfl rfl rfl ?_
      refine zi_iconst (pc' := 28) rfl rfl ?_
      refine zi_bipush (pc' := 30) rfl rfl (by decide) ?_
      refine zi_callV (d' := 1) (as := [_, _]) (pc' := 33) rfl rfl rfl rfl (Nat.lt_of_lt_of_le (by decide) hd) (s_Tokens_isAt (Nat.le_refl _) h) (zi_kb (fun v7 g8 b9 h => ?_))
      refine zi_if_eq (x := 41) (pc' := 36) rfl rfl (zi_r_bit b9)  (fun c29 => ?_) (fun c29 => ?_)
      · replace h := h.1 c29
        refine zi_aload_n (pc' := 42) rfl rfl rfl ?_
        refine zi_iconst (pc' := 43) rfl rfl ?_
        refine zi_bipush (pc' := 45) rfl rfl (by decide) ?_
        refine zi_callV (d' := 1) (as := [_, _]) (pc' := 48) rfl rfl rfl rfl (Nat.lt_of_lt_of_le (by decide) hd) (s_Tokens_isAt (Nat.le_refl _) h) (zi_kb (fun v10 g11 b12 h => ?_))
        refine zi_if_eq (x := 56) (pc' := 51) rfl rfl (zi_r_bit b12)  (fun c28 => ?_) (fun c28 => ?_)
        · replace h := h.1 c28
          refine zi_iconst (pc' := 57) rfl rfl ?_
          exact zi_wk (s_LawReader_comparison_b57 hd h) (And.intro rfl (And.intro rfl (And.intro rfl trivial)))
        · replace h := h.2 c28
          refine zi_bipush (pc' := 53) rfl rfl (by decide) ?_
          refine zi_goto (x := 57) rfl ?_
          exact zi_wk (s_LawReader_comparison_b57 hd h) (And.intro rfl (And.intro rfl (And.intro rfl trivial)))
      · replace h := h.2 c29
        refine zi_bipush (pc' := 38) rfl rfl (by decide) ?_
        refine zi_goto (x := 57) rfl ?_
        exact zi_wk (s_LawReader_comparison_b57 hd h) (And.intro rfl (And.intro rfl (And.intro rfl trivial)))
    · replace h := h.2 c30
      refine zi_bipush (pc' := 23) rfl rfl (by decide) ?_
      refine zi_goto (x := 57) rfl ?_
      exact zi_wk (s_LawReader_comparison_b57 hd h) (And.intro rfl (And.intro rfl (And.intro rfl trivial)))
  · replace h := h.2 c31
    refine zi_iconst (pc' := 10) rfl rfl ?_
    exact zi_zret rfl rfl (Or.inl rfl) h
-- SpoutNews$LawReader.settleNots(LSpoutNews$Law;)V
noncomputable def w_LawReader_settleNots_l2 (K64 : zi_M → Prop) (Q : Int → zi_M → Prop) : Nat → Int → zi_M → Prop
  | 0, _, _ => False
  | f + 1, l2, g => (zi_r l2 ∧ ((8 ≤ l2 → K64 g) ∧ (l2 < 8 → (zi_r (g 212 1) ∧ (((g 212 1) ≤ 0 → K64 g) ∧ (0 < (g 212 1) → ((0 ≤ ((g 212 1) - 1) ∧ ((g 212 1) - 1) < 40) ∧ (zi_r (g 213 ((g 212 1) - 1)) ∧ ((¬ (g 213 ((g 212 1) - 1)) = 6 → K64 g) ∧ ((g 213 ((g 212 1) - 1)) = 6 → w_Law_add 9 0 g (fun _ g6 => (∀ g8, g8 = zi_u g6 212 1 ((g6 212 1) - 1) → (∀ g9, g9 = zi_u g8 212 2 ((g8 212 2) - 1) → w_LawReader_settleNots_l2 K64 Q f (l2 + 1) g9)))))))))))))
noncomputable def w_LawReader_settleNots (g : zi_M) (Q : Int → zi_M → Prop) : Prop := (∃ f14, w_LawReader_settleNots_l2 (fun g13 => Q 0 g13) Q f14 0 g)
set_option maxRecDepth 100000 in
theorem s_LawReader_settleNots_l2_r {E : sx_E} {d : Nat} (hd : 2 ≤ d) {K64 : zi_M → Prop} {Q : Int → zi_M → Prop} (hK64 : ∀ (g : zi_M), K64 g → zi_W E d 99 64 [some (.ref 212), some (.ref 196), none] [] g (zi_Qv Q)) : ∀ (f : Nat) {l2 : Int} {g : zi_M}, w_LawReader_settleNots_l2 K64 Q f l2 g → zi_W E d 99 2 [some (.ref 212), some (.ref 196), some (zi_i l2)] [] g (zi_Qv Q)
  | 0, _, _, h => False.elim h
  | f + 1, l2, g, h => by
    refine zi_iload_n (pc' := 3) rfl rfl rfl ?_
    refine zi_bipush (pc' := 5) rfl rfl (by decide) ?_
    obtain ⟨o1, h⟩ := h
    refine zi_icmp_ge (x := 64) (pc' := 8) rfl rfl o1 (by decide) (fun c12 => ?_) (fun c12 => ?_)
    · replace h := h.1 c12
      exact zi_wk (hK64 _ h) (And.intro rfl (And.intro rfl trivial))
    · replace h := h.2 c12
      refine zi_aload_n (pc' := 9) rfl rfl rfl ?_
      refine zi_geti (pc' := 12) 1 rfl rfl rfl rfl rfl rfl ?_
      obtain ⟨o2, h⟩ := h
      refine zi_if_le (x := 64) (pc' := 15) rfl rfl o2  (fun c11 => ?_) (fun c11 => ?_)
      · replace h := h.1 c11
        exact zi_wk (hK64 _ h) (And.intro rfl (And.intro rfl trivial))
      · replace h := h.2 c11
        refine zi_aload_n (pc' := 16) rfl rfl rfl ?_
        refine zi_getr (pc' := 19) rfl rfl rfl rfl rfl ?_
        refine zi_aload_n (pc' := 20) rfl rfl rfl ?_
        refine zi_geti (pc' := 23) 1 rfl rfl rfl rfl rfl rfl ?_
        refine zi_iconst (pc' := 24) rfl rfl ?_
        refine zi_isub (pc' := 25) rfl rfl ?_
        obtain ⟨o3, h⟩ := h
        refine zi_iald (pc' := 26) rfl rfl rfl o3 ?_
        refine zi_bipush (pc' := 28) rfl rfl (by decide) ?_
        obtain ⟨o4, h⟩ := h
        refine zi_icmp_ne (x := 64) (pc' := 31) rfl rfl o4 (by decide) (fun c10 => ?_) (fun c10 => ?_)
        · replace h := h.1 c10
          exact zi_wk (hK64 _ h) (And.intro rfl (And.intro rfl trivial))
        · replace h := h.2 c10
          refine zi_aload_n (pc' := 32) rfl rfl rfl ?_
          refine zi_bipush (pc' := 34) rfl rfl (by decide) ?_
          refine zi_iconst (pc' := 35) rfl rfl ?_
          refine zi_callV (d' := 1) (as := [_, _]) (pc' := 38) rfl rfl rfl rfl (Nat.lt_of_lt_of_le (by decide) hd) (s_Law_add (Nat.le_refl _) h) (zi_kv (fun g6 h => ?_))
          refine zi_aload_n (pc' := 39) rfl rfl rfl ?_
          refine zi_dup (pc' := 40) rfl rfl rfl ?_
          refine zi_geti (pc' := 43) 1 rfl rfl rfl rfl rfl rfl ?_
          refine zi_iconst (pc' := 44) rfl rfl ?_
          refine zi_isub (pc' := 45) rfl rfl ?_
          refine zi_puti (pc' := 48) 1 rfl rfl rfl rfl rfl  ?_
          replace h := h _ rfl
          refine zi_aload_n (pc' := 49) rfl rfl rfl ?_
          refine zi_dup (pc' := 50) rfl rfl rfl ?_
          refine zi_geti (pc' := 53) 2 rfl rfl rfl rfl rfl rfl ?_
          refine zi_iconst (pc' := 54) rfl rfl ?_
          refine zi_isub (pc' := 55) rfl rfl ?_
          refine zi_puti (pc' := 58) 2 rfl rfl rfl rfl rfl  ?_
          replace h := h _ rfl
          refine zi_iinc (pc' := 61) [some _, some _, some _] rfl rfl rfl rfl ?_
          refine zi_goto (x := 2) rfl ?_
          exact zi_wk (s_LawReader_settleNots_l2_r hd hK64 f h) (And.intro rfl (And.intro rfl (And.intro rfl trivial)))
set_option maxRecDepth 100000 in
theorem s_LawReader_settleNots_l2 {E : sx_E} {d : Nat} (hd : 2 ≤ d) {K64 : zi_M → Prop} {Q : Int → zi_M → Prop} {l2 : Int} {g : zi_M} (h : ∃ f, w_LawReader_settleNots_l2 K64 Q f l2 g) (hK64 : ∀ (g : zi_M), K64 g → zi_W E d 99 64 [some (.ref 212), some (.ref 196), none] [] g (zi_Qv Q)) : zi_W E d 99 2 [some (.ref 212), some (.ref 196), some (zi_i l2)] [] g (zi_Qv Q) := by
  obtain ⟨f, h⟩ := h
  exact s_LawReader_settleNots_l2_r hd hK64 f h
set_option maxRecDepth 100000 in
theorem s_LawReader_settleNots {E : sx_E} {d : Nat} (hd : 2 ≤ d) {g : zi_M} {Q : Int → zi_M → Prop} (h : w_LawReader_settleNots g Q) : zi_S E d 99 [.ref 212, .ref 196] g (zi_Qv Q) := by
  refine zi_Sof jf_99 [some (.ref 212), some (.ref 196), none] rfl (And.intro rfl (And.intro rfl trivial)) ?_
  unfold w_LawReader_settleNots at h
  refine zi_iconst (pc' := 1) rfl rfl ?_
  refine zi_istore_n (pc' := 2) [some _, some _, some _] rfl rfl rfl ?_
  refine zi_wk (s_LawReader_settleNots_l2 hd h (fun g13 h => ?_)) (And.intro rfl (And.intro rfl (And.intro rfl trivial)))
  exact zi_vret rfl rfl h
-- SpoutNews$LawReader.settleBinary(LSpoutNews$Law;I)V
noncomputable def w_LawReader_settleBinary_b48 (l2 : Int) (l3 : Int) (l4 : Int) (g : zi_M) (H : Int → zi_M → Prop) (K45 : zi_M → Prop) (K82 : zi_M → Prop) (Q : Int → zi_M → Prop) : Prop := (zi_r l4 ∧ ((¬ l4 = 5 → w_Law_add 11 0 g (fun _ g7 => (∀ g9, g9 = zi_u g7 212 1 ((g7 212 1) - 1) → H (l3 + 1) g9))) ∧ (l4 = 5 → w_Law_add 10 0 g (fun _ g11 => (∀ g13, g13 = zi_u g11 212 1 ((g11 212 1) - 1) → H (l3 + 1) g13)))))
noncomputable def w_LawReader_settleBinary_l2 (l2 : Int) (K45 : zi_M → Prop) (K82 : zi_M → Prop) (Q : Int → zi_M → Prop) : Nat → Int → zi_M → Prop
  | 0, _, _ => False
  | f + 1, l3, g => (zi_r l3 ∧ ((40 ≤ l3 → K82 g) ∧ (l3 < 40 → (zi_r (g 212 1) ∧ (((g 212 1) ≤ 0 → K82 g) ∧ (0 < (g 212 1) → ((0 ≤ ((g 212 1) - 1) ∧ ((g 212 1) - 1) < 40) ∧ (zi_r (g 213 ((g 212 1) - 1)) ∧ (((g 213 ((g 212 1) - 1)) = 5 → w_LawReader_settleBinary_b48 l2 l3 (g 213 ((g 212 1) - 1)) g (w_LawReader_settleBinary_l2 l2 K45 K82 Q f) K45 K82 Q) ∧ (¬ (g 213 ((g 212 1) - 1)) = 5 → ((¬ (g 213 ((g 212 1) - 1)) = 4 → K82 g) ∧ ((g 213 ((g 212 1) - 1)) = 4 → (zi_r l2 ∧ ((l2 = 4 → w_LawReader_settleBinary_b48 l2 l3 (g 213 ((g 212 1) - 1)) g (w_LawReader_settleBinary_l2 l2 K45 K82 Q f) K45 K82 Q) ∧ (¬ l2 = 4 → K45 g)))))))))))))))
noncomputable def w_LawReader_settleBinary (l2 : Int) (g : zi_M) (Q : Int → zi_M → Prop) : Prop := (∃ f23, w_LawReader_settleBinary_l2 l2 (fun g21 => Q 0 g21) (fun g22 => Q 0 g22) Q f23 0 g)
set_option maxRecDepth 100000 in
theorem s_LawReader_settleBinary_b48 {E : sx_E} {d : Nat} (hd : 2 ≤ d) {l2 : Int} {l3 : Int} {l4 : Int} {H : Int → zi_M → Prop} {K45 : zi_M → Prop} {K82 : zi_M → Prop} {Q : Int → zi_M → Prop} {g : zi_M} (h : w_LawReader_settleBinary_b48 l2 l3 l4 g H K45 K82 Q) (hH : ∀ (m3 : Int) (g : zi_M), H m3 g → zi_W E d 100 2 [some (.ref 212), some (.ref 196), some (zi_i l2), some (zi_i m3), none] [] g (zi_Qv Q)) (hK45 : ∀ (g : zi_M), K45 g → zi_W E d 100 45 [some (.ref 212), some (.ref 196), some (zi_i l2), none, none] [] g (zi_Qv Q)) (hK82 : ∀ (g : zi_M), K82 g → zi_W E d 100 82 [some (.ref 212), some (.ref 196), some (zi_i l2), none, none] [] g (zi_Qv Q)) : zi_W E d 100 48 [some (.ref 212), some (.ref 196), some (zi_i l2), some (zi_i l3), some (zi_i l4)] [] g (zi_Qv Q) := by
  unfold w_LawReader_settleBinary_b48 at h
  refine zi_aload_n (pc' := 49) rfl rfl rfl ?_
  refine zi_iload (pc' := 51) rfl rfl rfl ?_
  refine zi_iconst (pc' := 52) rfl rfl ?_
  obtain ⟨o5, h⟩ := h
  refine zi_icmp_ne (x := 60) (pc' := 55) rfl rfl o5 (by decide) (fun c14 => ?_) (fun c14 => ?_)
  · replace h := h.1 c14
    refine zi_bipush (pc' := 62) rfl rfl (by decide) ?_
    refine zi_iconst (pc' := 63) rfl rfl ?_
    refine zi_callV (d' := 1) (as := [_, _]) (pc' := 66) rfl rfl rfl rfl (Nat.lt_of_lt_of_le (by decide) hd) (s_Law_add (Nat.le_refl _) h) (zi_kv (fun g7 h => ?_))
    refine zi_aload_n (pc' := 67) rfl rfl rfl ?_
    refine zi_dup (pc' := 68) rfl rfl rfl ?_
    refine zi_geti (pc' := 71) 1 rfl rfl rfl rfl rfl rfl ?_
    refine zi_iconst (pc' := 72) rfl rfl ?_
    refine zi_isub (pc' := 73) rfl rfl ?_
    refine zi_puti (pc' := 76) 1 rfl rfl rfl rfl rfl  ?_
    replace h := h _ rfl
    refine zi_iinc (pc' := 79) [some _, some _, some _, some _, some _] rfl rfl rfl rfl ?_
    refine zi_goto (x := 2) rfl ?_
    exact zi_wk (hH _ _ h) (And.intro rfl (And.intro rfl (And.intro rfl (And.intro rfl trivial))))
  · replace h := h.2 c14
    refine zi_bipush (pc' := 57) rfl rfl (by decide) ?_
    refine zi_goto (x := 62) rfl ?_
    refine zi_iconst (pc' := 63) rfl rfl ?_
    refine zi_callV (d' := 1) (as := [_, _]) (pc' := 66) rfl rfl rfl rfl (Nat.lt_of_lt_of_le (by decide) hd) (s_Law_add (Nat.le_refl _) h) (zi_kv (fun g11 h => ?_))
    refine zi_aload_n (pc' := 67) rfl rfl rfl ?_
    refine zi_dup (pc' := 68) rfl rfl rfl ?_
    refine zi_geti (pc' := 71) 1 rfl rfl rfl rfl rfl rfl ?_
    refine zi_iconst (pc' := 72) rfl rfl ?_
    refine zi_isub (pc' := 73) rfl rfl ?_
    refine zi_puti (pc' := 76) 1 rfl rfl rfl rfl rfl  ?_
    replace h := h _ rfl
    refine zi_iinc (pc' := 79) [some _, some _, some _, some _, some _] rfl rfl rfl rfl ?_
    refine zi_goto (x := 2) rfl ?_
    exact zi_wk (hH _ _ h) (And.intro rfl (And.intro rfl (And.intro rfl (And.intro rfl trivial))))
set_option maxRecDepth 100000 in
theorem s_LawReader_settleBinary_l2_r {E : sx_E} {d : Nat} (hd : 2 ≤ d) {l2 : Int} {K45 : zi_M → Prop} {K82 : zi_M → Prop} {Q : Int → zi_M → Prop} (hK45 : ∀ (g : zi_M), K45 g → zi_W E d 100 45 [some (.ref 212), some (.ref 196), some (zi_i l2), none, none] [] g (zi_Qv Q)) (hK82 : ∀ (g : zi_M), K82 g → zi_W E d 100 82 [some (.ref 212), some (.ref 196), some (zi_i l2), none, none] [] g (zi_Qv Q)) : ∀ (f : Nat) {l3 : Int} {g : zi_M}, w_LawReader_settleBinary_l2 l2 K45 K82 Q f l3 g → zi_W E d 100 2 [some (.ref 212), some (.ref 196), some (zi_i l2), some (zi_i l3), none] [] g (zi_Qv Q)
  | 0, _, _, h => False.elim h
  | f + 1, l3, g, h => by
    refine zi_iload_n (pc' := 3) rfl rfl rfl ?_
    refine zi_bipush (pc' := 5) rfl rfl (by decide) ?_
    obtain ⟨o1, h⟩ := h
    refine zi_icmp_ge (x := 82) (pc' := 8) rfl rfl o1 (by decide) (fun c20 => ?_) (fun c20 => ?_)
    · replace h := h.1 c20
      exact zi_wk (hK82 _ h) (And.intro rfl (And.intro rfl (And.intro rfl trivial)))
    · replace h := h.2 c20
      refine zi_aload_n (pc' := 9) rfl rfl rfl ?_
      refine zi_geti (pc' := 12) 1 rfl rfl rfl rfl rfl rfl ?_
      obtain ⟨o2, h⟩ := h
      refine zi_if_le (x := 82) (pc' := 15) rfl rfl o2  (fun c19 => ?_) (fun c19 => ?_)
      · replace h := h.1 c19
        exact zi_wk (hK82 _ h) (And.intro rfl (And.intro rfl (And.intro rfl trivial)))
      · replace h := h.2 c19
        refine zi_aload_n (pc' := 16) rfl rfl rfl ?_
        refine zi_getr (pc' := 19) rfl rfl rfl rfl rfl ?_
        refine zi_aload_n (pc' := 20) rfl rfl rfl ?_
        refine zi_geti (pc' := 23) 1 rfl rfl rfl rfl rfl rfl ?_
        refine zi_iconst (pc' := 24) rfl rfl ?_
        refine zi_isub (pc' := 25) rfl rfl ?_
        obtain ⟨o3, h⟩ := h
        refine zi_iald (pc' := 26) rfl rfl rfl o3 ?_
        refine zi_istore (pc' := 28) [some _, some _, some _, some _, some _] rfl rfl rfl ?_
        refine zi_iload (pc' := 30) rfl rfl rfl ?_
        refine zi_iconst (pc' := 31) rfl rfl ?_
        obtain ⟨o4, h⟩ := h
        refine zi_icmp_eq (x := 48) (pc' := 34) rfl rfl o4 (by decide) (fun c18 => ?_) (fun c18 => ?_)
        · replace h := h.1 c18
          exact zi_wk (s_LawReader_settleBinary_b48 hd h (fun _ _ h => s_LawReader_settleBinary_l2_r hd hK45 hK82 f h) hK45 hK82) (And.intro rfl (And.intro rfl (And.intro rfl (And.intro rfl (And.intro rfl trivial)))))
        · replace h := h.2 c18
          refine zi_iload (pc' := 36) rfl rfl rfl ?_
          refine zi_iconst (pc' := 37) rfl rfl ?_
          refine zi_icmp_ne (x := 82) (pc' := 40) rfl rfl o4 (by decide) (fun c17 => ?_) (fun c17 => ?_)
          · replace h := h.1 c17
            exact zi_wk (hK82 _ h) (And.intro rfl (And.intro rfl (And.intro rfl trivial)))
          · replace h := h.2 c17
            refine zi_iload_n (pc' := 41) rfl rfl rfl ?_
            refine zi_iconst (pc' := 42) rfl rfl ?_
            obtain ⟨o15, h⟩ := h
            refine zi_icmp_eq (x := 48) (pc' := 45) rfl rfl o15 (by decide) (fun c16 => ?_) (fun c16 => ?_)
            · replace h := h.1 c16
              exact zi_wk (s_LawReader_settleBinary_b48 hd h (fun _ _ h => s_LawReader_settleBinary_l2_r hd hK45 hK82 f h) hK45 hK82) (And.intro rfl (And.intro rfl (And.intro rfl (And.intro rfl (And.intro rfl trivial)))))
            · replace h := h.2 c16
              exact zi_wk (hK45 _ h) (And.intro rfl (And.intro rfl (And.intro rfl trivial)))
set_option maxRecDepth 100000 in
theorem s_LawReader_settleBinary_l2 {E : sx_E} {d : Nat} (hd : 2 ≤ d) {l2 : Int} {K45 : zi_M → Prop} {K82 : zi_M → Prop} {Q : Int → zi_M → Prop} {l3 : Int} {g : zi_M} (h : ∃ f, w_LawReader_settleBinary_l2 l2 K45 K82 Q f l3 g) (hK45 : ∀ (g : zi_M), K45 g → zi_W E d 100 45 [some (.ref 212), some (.ref 196), some (zi_i l2), none, none] [] g (zi_Qv Q)) (hK82 : ∀ (g : zi_M), K82 g → zi_W E d 100 82 [some (.ref 212), some (.ref 196), some (zi_i l2), none, none] [] g (zi_Qv Q)) : zi_W E d 100 2 [some (.ref 212), some (.ref 196), some (zi_i l2), some (zi_i l3), none] [] g (zi_Qv Q) := by
  obtain ⟨f, h⟩ := h
  exact s_LawReader_settleBinary_l2_r hd hK45 hK82 f h
set_option maxRecDepth 100000 in
theorem s_LawReader_settleBinary {E : sx_E} {d : Nat} (hd : 2 ≤ d) {l2 : Int} {g : zi_M} {Q : Int → zi_M → Prop} (h : w_LawReader_settleBinary l2 g Q) : zi_S E d 100 [.ref 212, .ref 196, zi_i l2] g (zi_Qv Q) := by
  refine zi_Sof jf_100 [some (.ref 212), some (.ref 196), some (zi_i l2), none, none] rfl (And.intro rfl (And.intro rfl (And.intro rfl trivial))) ?_
  unfold w_LawReader_settleBinary at h
  refine zi_iconst (pc' := 1) rfl rfl ?_
  refine zi_istore_n (pc' := 2) [some _, some _, some _, some _, none] rfl rfl rfl ?_
  refine zi_wk (s_LawReader_settleBinary_l2 hd h (fun g21 h => ?_) (fun g22 h => ?_)) (And.intro rfl (And.intro rfl (And.intro rfl (And.intro rfl trivial))))
  · refine zi_goto (x := 82) rfl ?_
    exact zi_vret rfl rfl h
  · exact zi_vret rfl rfl h
-- SpoutNews$LawReader.closeAll(LSpoutNews$Tokens;LSpoutNews$Law;)V
noncomputable def w_LawReader_closeAll_l7 (K81 : zi_M → Prop) (Q : Int → zi_M → Prop) : Nat → Int → zi_M → Prop
  | 0, _, _ => False
  | f + 1, l3, g => (zi_r l3 ∧ ((8 ≤ l3 → K81 g) ∧ (l3 < 8 → (zi_r (g 212 3) ∧ (((g 212 3) ≤ 0 → K81 g) ∧ (0 < (g 212 3) → w_Tokens_isAt 3 41 g (fun v6 g7 => ((v6 = 0 → K81 g7) ∧ (¬ v6 = 0 → w_LawReader_settleBinary 4 g7 (fun _ g10 => (∀ g12, g12 = zi_u g10 212 1 ((g10 212 1) - 1) → (∀ g13, g13 = zi_u g12 212 3 ((g12 212 3) - 1) → (∀ g14, g14 = zi_u g13 212 2 ((g13 212 2) - 1) → w_Tokens_step g14 (fun _ g16 => w_LawReader_settleNots g16 (fun _ g19 => w_LawReader_closeAll_l7 K81 Q f (l3 + 1) g19)))))))))))))))
noncomputable def w_LawReader_closeAll (g : zi_M) (Q : Int → zi_M → Prop) : Prop := w_LawReader_settleNots g (fun _ g2 => (∃ f25, w_LawReader_closeAll_l7 (fun g24 => Q 0 g24) Q f25 0 g2))
set_option maxRecDepth 100000 in
theorem s_LawReader_closeAll_l7_r {E : sx_E} {d : Nat} (hd : 3 ≤ d) {K81 : zi_M → Prop} {Q : Int → zi_M → Prop} (hK81 : ∀ (g : zi_M), K81 g → zi_W E d 98 81 [some (.ref 212), some (.ref 191), some (.ref 196), none] [] g (zi_Qv Q)) : ∀ (f : Nat) {l3 : Int} {g : zi_M}, w_LawReader_closeAll_l7 K81 Q f l3 g → zi_W E d 98 7 [some (.ref 212), some (.ref 191), some (.ref 196), some (zi_i l3)] [] g (zi_Qv Q)
  | 0, _, _, h => False.elim h
  | f + 1, l3, g, h => by
    refine zi_iload_n (pc' := 8) rfl rfl rfl ?_
    refine zi_bipush (pc' := 10) rfl rfl (by decide) ?_
    obtain ⟨o4, h⟩ := h
    refine zi_icmp_ge (x := 81) (pc' := 13) rfl rfl o4 (by decide) (fun c23 => ?_) (fun c23 => ?_)
    · replace h := h.1 c23
      exact zi_wk (hK81 _ h) (And.intro rfl (And.intro rfl (And.intro rfl trivial)))
    · replace h := h.2 c23
      refine zi_aload_n (pc' := 14) rfl rfl rfl ?_
      refine zi_geti (pc' := 17) 3 rfl rfl rfl rfl rfl rfl ?_
      obtain ⟨o5, h⟩ := h
      refine zi_if_le (x := 81) (pc' := 20) rfl rfl o5  (fun c22 => ?_) (fun c22 => ?_)
      · replace h := h.1 c22
        exact zi_wk (hK81 _ h) (And.intro rfl (And.intro rfl (And.intro rfl trivial)))
      · replace h := h.2 c22
        refine zi_aload_n (pc' := 21) rfl rfl rfl ?_
        refine zi_iconst (pc' := 22) rfl rfl ?_
        refine zi_bipush (pc' := 24) rfl rfl (by decide) ?_
        refine zi_callV (d' := 1) (as := [_, _]) (pc' := 27) rfl rfl rfl rfl (Nat.lt_of_lt_of_le (by decide) hd) (s_Tokens_isAt (Nat.le_refl _) h) (zi_kb (fun v6 g7 b8 h => ?_))
        refine zi_if_eq (x := 81) (pc' := 30) rfl rfl (zi_r_bit b8)  (fun c21 => ?_) (fun c21 => ?_)
        · replace h := h.1 c21
          exact zi_wk (hK81 _ h) (And.intro rfl (And.intro rfl (And.intro rfl trivial)))
        · replace h := h.2 c21
          refine zi_aload_n (pc' := 31) rfl rfl rfl ?_
          refine zi_aload_n (pc' := 32) rfl rfl rfl ?_
          refine zi_iconst (pc' := 33) rfl rfl ?_
          refine zi_callV (d' := 2) (as := [_, _]) (pc' := 36) rfl rfl rfl rfl (Nat.lt_of_lt_of_le (by decide) hd) (s_LawReader_settleBinary (Nat.le_refl _) h) (zi_kv (fun g10 h => ?_))
          refine zi_aload_n (pc' := 37) rfl rfl rfl ?_
          refine zi_dup (pc' := 38) rfl rfl rfl ?_
          refine zi_geti (pc' := 41) 1 rfl rfl rfl rfl rfl rfl ?_
          refine zi_iconst (pc' := 42) rfl rfl ?_
          refine zi_isub (pc' := 43) rfl rfl ?_
          refine zi_puti (pc' := 46) 1 rfl rfl rfl rfl rfl  ?_
          replace h := h _ rfl
          refine zi_aload_n (pc' := 47) rfl rfl rfl ?_
          refine zi_dup (pc' := 48) rfl rfl rfl ?_
          refine zi_geti (pc' := 51) 3 rfl rfl rfl rfl rfl rfl ?_
          refine zi_iconst (pc' := 52) rfl rfl ?_
          refine zi_isub (pc' := 53) rfl rfl ?_
          refine zi_puti (pc' := 56) 3 rfl rfl rfl rfl rfl  ?_
          replace h := h _ rfl
          refine zi_aload_n (pc' := 57) rfl rfl rfl ?_
          refine zi_dup (pc' := 58) rfl rfl rfl ?_
          refine zi_geti (pc' := 61) 2 rfl rfl rfl rfl rfl rfl ?_
          refine zi_iconst (pc' := 62) rfl rfl ?_
          refine zi_isub (pc' := 63) rfl rfl ?_
          refine zi_puti (pc' := 66) 2 rfl rfl rfl rfl rfl  ?_
          replace h := h _ rfl
          refine zi_aload_n (pc' := 67) rfl rfl rfl ?_
          refine zi_callV (d' := 1) (as := []) (pc' := 70) rfl rfl rfl rfl (Nat.lt_of_lt_of_le (by decide) hd) (s_Tokens_step (Nat.le_refl _) h) (zi_kv (fun g16 h => ?_))
          refine zi_aload_n (pc' := 71) rfl rfl rfl ?_
          refine zi_aload_n (pc' := 72) rfl rfl rfl ?_
          refine zi_callV (d' := 2) (as := [_]) (pc' := 75) rfl rfl rfl rfl (Nat.lt_of_lt_of_le (by decide) hd) (s_LawReader_settleNots (Nat.le_refl _) h) (zi_kv (fun g19 h => ?_))
          refine zi_iinc (pc' := 78) [some _, some _, some _, some _] rfl rfl rfl rfl ?_
          refine zi_goto (x := 7) rfl ?_
          exact zi_wk (s_LawReader_closeAll_l7_r hd hK81 f h) (And.intro rfl (And.intro rfl (And.intro rfl (And.intro rfl trivial))))
set_option maxRecDepth 100000 in
theorem s_LawReader_closeAll_l7 {E : sx_E} {d : Nat} (hd : 3 ≤ d) {K81 : zi_M → Prop} {Q : Int → zi_M → Prop} {l3 : Int} {g : zi_M} (h : ∃ f, w_LawReader_closeAll_l7 K81 Q f l3 g) (hK81 : ∀ (g : zi_M), K81 g → zi_W E d 98 81 [some (.ref 212), some (.ref 191), some (.ref 196), none] [] g (zi_Qv Q)) : zi_W E d 98 7 [some (.ref 212), some (.ref 191), some (.ref 196), some (zi_i l3)] [] g (zi_Qv Q) := by
  obtain ⟨f, h⟩ := h
  exact s_LawReader_closeAll_l7_r hd hK81 f h
set_option maxRecDepth 100000 in
theorem s_LawReader_closeAll {E : sx_E} {d : Nat} (hd : 3 ≤ d) {g : zi_M} {Q : Int → zi_M → Prop} (h : w_LawReader_closeAll g Q) : zi_S E d 98 [.ref 212, .ref 191, .ref 196] g (zi_Qv Q) := by
  refine zi_Sof jf_98 [some (.ref 212), some (.ref 191), some (.ref 196), none] rfl (And.intro rfl (And.intro rfl (And.intro rfl trivial))) ?_
  unfold w_LawReader_closeAll at h
  refine zi_aload_n (pc' := 1) rfl rfl rfl ?_
  refine zi_aload_n (pc' := 2) rfl rfl rfl ?_
  refine zi_callV (d' := 2) (as := [_]) (pc' := 5) rfl rfl rfl rfl (Nat.lt_of_lt_of_le (by decide) hd) (s_LawReader_settleNots (Nat.le_refl _) h) (zi_kv (fun g2 h => ?_))
  refine zi_iconst (pc' := 6) rfl rfl ?_
  refine zi_istore_n (pc' := 7) [some _, some _, some _, some _] rfl rfl rfl ?_
  refine zi_wk (s_LawReader_closeAll_l7 hd h (fun g24 h => ?_)) (And.intro rfl (And.intro rfl (And.intro rfl (And.intro rfl trivial))))
  exact zi_vret rfl rfl h
-- SpoutNews$LawReader.conditions(LSpoutNews$Tokens;LSpoutNews$Law;)Z
noncomputable def w_LawReader_conditions_b68 (l3 : Int) (g : zi_M) (H : Int → zi_M → Prop) (K41 : zi_M → Prop) (K65 : zi_M → Prop) (K97 : zi_M → Prop) (Q : Int → zi_M → Prop) : Prop := w_Tokens_keyword g (fun v18 g19 => w_LawReader_settleBinary v18 g19 (fun _ g22 => w_LawReader_push v18 g22 (fun _ g25 => w_Tokens_step g25 (fun _ g28 => H (l3 + 1) g28))))
noncomputable def w_LawReader_conditions_l17 (K41 : zi_M → Prop) (K65 : zi_M → Prop) (K97 : zi_M → Prop) (Q : Int → zi_M → Prop) : Nat → Int → zi_M → Prop
  | 0, _, _ => False
  | f + 1, l3, g => (zi_r l3 ∧ ((400 < l3 → K97 g) ∧ (l3 ≤ 400 → w_LawReader_openAll g (fun v5 g6 => ((v5 = 0 → K41 g6) ∧ (¬ v5 = 0 → w_LawReader_comparison g6 (fun v8 g9 => ((¬ v8 = 0 → w_LawReader_closeAll g9 (fun _ g12 => w_Tokens_keyword g12 (fun v14 g15 => (zi_r v14 ∧ ((v14 = 5 → w_LawReader_conditions_b68 l3 g15 (w_LawReader_conditions_l17 K41 K65 K97 Q f) K41 K65 K97 Q) ∧ (¬ v14 = 5 → w_Tokens_keyword g15 (fun v30 g31 => (zi_r v30 ∧ ((v30 = 4 → w_LawReader_conditions_b68 l3 g31 (w_LawReader_conditions_l17 K41 K65 K97 Q f) K41 K65 K97 Q) ∧ (¬ v30 = 4 → K65 g31)))))))))) ∧ (v8 = 0 → K41 g9)))))))))
noncomputable def w_LawReader_conditions_b97 (g : zi_M) (Q : Int → zi_M → Prop) : Prop := (zi_r (g 212 3) ∧ (((g 212 3) ≤ 0 → w_LawReader_settleBinary 4 g (fun _ g43 => Q 1 g43)) ∧ (0 < (g 212 3) → w_Tokens_refuse 1 g (fun v45 g46 => Q v45 g46))))
noncomputable def w_LawReader_conditions (g : zi_M) (Q : Int → zi_M → Prop) : Prop := (∀ g1, g1 = zi_u g 212 1 0 → (∀ g2, g2 = zi_u g1 212 2 0 → (∀ g3, g3 = zi_u g2 212 3 0 → (∃ f50, w_LawReader_conditions_l17 (fun g39 => Q 0 g39) (fun g40 => w_LawReader_conditions_b97 g40 Q) (fun g49 => w_LawReader_conditions_b97 g49 Q) Q f50 0 g3))))
set_option maxRecDepth 100000 in
theorem s_LawReader_conditions_b68 {E : sx_E} {d : Nat} (hd : 5 ≤ d) {l3 : Int} {H : Int → zi_M → Prop} {K41 : zi_M → Prop} {K65 : zi_M → Prop} {K97 : zi_M → Prop} {Q : Int → zi_M → Prop} {g : zi_M} (h : w_LawReader_conditions_b68 l3 g H K41 K65 K97 Q) (hH : ∀ (m3 : Int) (g : zi_M), H m3 g → zi_W E d 94 17 [some (.ref 212), some (.ref 191), some (.ref 196), some (zi_i m3), none] [] g (zi_Qb Q)) (hK41 : ∀ (g : zi_M), K41 g → zi_W E d 94 41 [some (.ref 212), some (.ref 191), some (.ref 196), none, none] [] g (zi_Qb Q)) (hK65 : ∀ (g : zi_M), K65 g → zi_W E d 94 65 [some (.ref 212), some (.ref 191), some (.ref 196), none, none] [] g (zi_Qb Q)) (hK97 : ∀ (g : zi_M), K97 g → zi_W E d 94 97 [some (.ref 212), some (.ref 191), some (.ref 196), none, none] [] g (zi_Qb Q)) : zi_W E d 94 68 [some (.ref 212), some (.ref 191), some (.ref 196), some (zi_i l3), none] [] g (zi_Qb Q) := by
  unfold w_LawReader_conditions_b68 at h
  refine zi_aload_n (pc' := 69) rfl rfl rfl ?_
  refine zi_callV (d' := 1) (as := []) (pc' := 72) rfl rfl rfl rfl (Nat.lt_of_lt_of_le (by decide) hd) (s_Tokens_keyword (Nat.le_refl _) h) (zi_ki (fun v18 g19 h => ?_))
  refine zi_istore (pc' := 74) [some _, some _, some _, some _, some _] rfl rfl rfl ?_
  refine zi_aload_n (pc' := 75) rfl rfl rfl ?_
  refine zi_aload_n (pc' := 76) rfl rfl rfl ?_
  refine zi_iload (pc' := 78) rfl rfl rfl ?_
  refine zi_callV (d' := 2) (as := [_, _]) (pc' := 81) rfl rfl rfl rfl (Nat.lt_of_lt_of_le (by decide) hd) (s_LawReader_settleBinary (Nat.le_refl _) h) (zi_kv (fun g22 h => ?_))
  refine zi_aload_n (pc' := 82) rfl rfl rfl ?_
  refine zi_iload (pc' := 84) rfl rfl rfl ?_
  refine zi_callV (d' := 1) (as := [_]) (pc' := 87) rfl rfl rfl rfl (Nat.lt_of_lt_of_le (by decide) hd) (s_LawReader_push (Nat.le_refl _) h) (zi_kv (fun g25 h => ?_))
  refine zi_aload_n (pc' := 88) rfl rfl rfl ?_
  refine zi_callV (d' := 1) (as := []) (pc' := 91) rfl rfl rfl rfl (Nat.lt_of_lt_of_le (by decide) hd) (s_Tokens_step (Nat.le_refl _) h) (zi_kv (fun g28 h => ?_))
  refine zi_iinc (pc' := 94) [some _, some _, some _, some _, some _] rfl rfl rfl rfl ?_
  refine zi_goto (x := 17) rfl ?_
  exact zi_wk (hH _ _ h) (And.intro rfl (And.intro rfl (And.intro rfl (And.intro rfl trivial))))
set_option maxRecDepth 100000 in
theorem s_LawReader_conditions_l17_r {E : sx_E} {d : Nat} (hd : 5 ≤ d) {K41 : zi_M → Prop} {K65 : zi_M → Prop} {K97 : zi_M → Prop} {Q : Int → zi_M → Prop} (hK41 : ∀ (g : zi_M), K41 g → zi_W E d 94 41 [some (.ref 212), some (.ref 191), some (.ref 196), none, none] [] g (zi_Qb Q)) (hK65 : ∀ (g : zi_M), K65 g → zi_W E d 94 65 [some (.ref 212), some (.ref 191), some (.ref 196), none, none] [] g (zi_Qb Q)) (hK97 : ∀ (g : zi_M), K97 g → zi_W E d 94 97 [some (.ref 212), some (.ref 191), some (.ref 196), none, none] [] g (zi_Qb Q)) : ∀ (f : Nat) {l3 : Int} {g : zi_M}, w_LawReader_conditions_l17 K41 K65 K97 Q f l3 g → zi_W E d 94 17 [some (.ref 212), some (.ref 191), some (.ref 196), some (zi_i l3), none] [] g (zi_Qb Q)
  | 0, _, _, h => False.elim h
  | f + 1, l3, g, h => by
    refine zi_iload_n (pc' := 18) rfl rfl rfl ?_
    refine zi_sipush (pc' := 21) rfl rfl (by decide) ?_
    obtain ⟨o4, h⟩ := h
    refine zi_icmp_gt (x := 97) (pc' := 24) rfl rfl o4 (by decide) (fun c38 => ?_) (fun c38 => ?_)
    · replace h := h.1 c38
      exact zi_wk (hK97 _ h) (And.intro rfl (And.intro rfl (And.intro rfl trivial)))
    · replace h := h.2 c38
      refine zi_aload_n (pc' := 25) rfl rfl rfl ?_
      refine zi_aload_n (pc' := 26) rfl rfl rfl ?_
      refine zi_callV (d' := 2) (as := [_]) (pc' := 29) rfl rfl rfl rfl (Nat.lt_of_lt_of_le (by decide) hd) (s_LawReader_openAll (Nat.le_refl _) h) (zi_kb (fun v5 g6 b7 h => ?_))
      refine zi_if_eq (x := 41) (pc' := 32) rfl rfl (zi_r_bit b7)  (fun c37 => ?_) (fun c37 => ?_)
      · replace h := h.1 c37
        exact zi_wk (hK41 _ h) (And.intro rfl (And.intro rfl (And.intro rfl trivial)))
      · replace h := h.2 c37
        refine zi_aload_n (pc' := 33) rfl rfl rfl ?_
        refine zi_aload_n (pc' := 34) rfl rfl rfl ?_
        refine zi_aload_n (pc' := 35) rfl rfl rfl ?_
        refine zi_callV (d' := 4) (as := [_, _]) (pc' := 38) rfl rfl rfl rfl (Nat.lt_of_lt_of_le (by decide) hd) (s_LawReader_comparison (Nat.le_refl _) h) (zi_kb (fun v8 g9 b10 h => ?_))
        refine zi_if_ne (x := 43) (pc' := 41) rfl rfl (zi_r_bit b10)  (fun c36 => ?_) (fun c36 => ?_)
        · replace h := h.1 c36
          refine zi_aload_n (pc' := 44) rfl rfl rfl ?_
          refine zi_aload_n (pc' := 45) rfl rfl rfl ?_
          refine zi_aload_n (pc' := 46) rfl rfl rfl ?_
          refine zi_callV (d' := 3) (as := [_, _]) (pc' := 49) rfl rfl rfl rfl (Nat.lt_of_lt_of_le (by decide) hd) (s_LawReader_closeAll (Nat.le_refl _) h) (zi_kv (fun g12 h => ?_))
          refine zi_aload_n (pc' := 50) rfl rfl rfl ?_
          refine zi_callV (d' := 1) (as := []) (pc' := 53) rfl rfl rfl rfl (Nat.lt_of_lt_of_le (by decide) hd) (s_Tokens_keyword (Nat.le_refl _) h) (zi_ki (fun v14 g15 h => ?_))
          refine zi_iconst (pc' := 54) rfl rfl ?_
          obtain ⟨o17, h⟩ := h
          refine zi_icmp_eq (x := 68) (pc' := 57) rfl rfl o17 (by decide) (fun c35 => ?_) (fun c35 => ?_)
          · replace h := h.1 c35
            exact zi_wk (s_LawReader_conditions_b68 hd h (fun _ _ h => s_LawReader_conditions_l17_r hd hK41 hK65 hK97 f h) hK41 hK65 hK97) (And.intro rfl (And.intro rfl (And.intro rfl (And.intro rfl trivial))))
          · replace h := h.2 c35
            refine zi_aload_n (pc' := 58) rfl rfl rfl ?_
            refine zi_callV (d' := 1) (as := []) (pc' := 61) rfl rfl rfl rfl (Nat.lt_of_lt_of_le (by decide) hd) (s_Tokens_keyword (Nat.le_refl _) h) (zi_ki (fun v30 g31 h => ?_))
            refine zi_iconst (pc' := 62) rfl rfl ?_
            obtain ⟨o33, h⟩ := h
            refine zi_icmp_eq (x := 68) (pc' := 65) rfl rfl o33 (by decide) (fun c34 => ?_) (fun c34 => ?_)
            · replace h := h.1 c34
              exact zi_wk (s_LawReader_conditions_b68 hd h (fun _ _ h => s_LawReader_conditions_l17_r hd hK41 hK65 hK97 f h) hK41 hK65 hK97) (And.intro rfl (And.intro rfl (And.intro rfl (And.intro rfl trivial))))
            · replace h := h.2 c34
              exact zi_wk (hK65 _ h) (And.intro rfl (And.intro rfl (And.intro rfl trivial)))
        · replace h := h.2 c36
          exact zi_wk (hK41 _ h) (And.intro rfl (And.intro rfl (And.intro rfl trivial)))
set_option maxRecDepth 100000 in
theorem s_LawReader_conditions_l17 {E : sx_E} {d : Nat} (hd : 5 ≤ d) {K41 : zi_M → Prop} {K65 : zi_M → Prop} {K97 : zi_M → Prop} {Q : Int → zi_M → Prop} {l3 : Int} {g : zi_M} (h : ∃ f, w_LawReader_conditions_l17 K41 K65 K97 Q f l3 g) (hK41 : ∀ (g : zi_M), K41 g → zi_W E d 94 41 [some (.ref 212), some (.ref 191), some (.ref 196), none, none] [] g (zi_Qb Q)) (hK65 : ∀ (g : zi_M), K65 g → zi_W E d 94 65 [some (.ref 212), some (.ref 191), some (.ref 196), none, none] [] g (zi_Qb Q)) (hK97 : ∀ (g : zi_M), K97 g → zi_W E d 94 97 [some (.ref 212), some (.ref 191), some (.ref 196), none, none] [] g (zi_Qb Q)) : zi_W E d 94 17 [some (.ref 212), some (.ref 191), some (.ref 196), some (zi_i l3), none] [] g (zi_Qb Q) := by
  obtain ⟨f, h⟩ := h
  exact s_LawReader_conditions_l17_r hd hK41 hK65 hK97 f h
set_option maxRecDepth 100000 in
theorem s_LawReader_conditions_b97 {E : sx_E} {d : Nat} (hd : 5 ≤ d) {Q : Int → zi_M → Prop} {g : zi_M} (h : w_LawReader_conditions_b97 g Q) : zi_W E d 94 97 [some (.ref 212), some (.ref 191), some (.ref 196), none, none] [] g (zi_Qb Q) := by
  unfold w_LawReader_conditions_b97 at h
  refine zi_aload_n (pc' := 98) rfl rfl rfl ?_
  refine zi_geti (pc' := 101) 3 rfl rfl rfl rfl rfl rfl ?_
  obtain ⟨o41, h⟩ := h
  refine zi_if_le (x := 110) (pc' := 104) rfl rfl o41  (fun c48 => ?_) (fun c48 => ?_)
  · replace h := h.1 c48
    refine zi_aload_n (pc' := 111) rfl rfl rfl ?_
    refine zi_aload_n (pc' := 112) rfl rfl rfl ?_
    refine zi_iconst (pc' := 113) rfl rfl ?_
    refine zi_callV (d' := 2) (as := [_, _]) (pc' := 116) rfl rfl rfl rfl (Nat.lt_of_lt_of_le (by decide) hd) (s_LawReader_settleBinary (Nat.le_refl _) h) (zi_kv (fun g43 h => ?_))
    refine zi_iconst (pc' := 117) rfl rfl ?_
    exact zi_zret rfl rfl (Or.inr rfl) h
  · replace h := h.2 c48
    refine zi_aload_n (pc' := 105) rfl rfl rfl ?_
    refine zi_iconst (pc' := 106) rfl rfl ?_
    refine zi_callV (d' := 1) (as := [_]) (pc' := 109) rfl rfl rfl rfl (Nat.lt_of_lt_of_le (by decide) hd) (s_Tokens_refuse (Nat.le_refl _) h) (zi_kb (fun v45 g46 b47 h => ?_))
    exact zi_zret rfl rfl b47 h
set_option maxRecDepth 100000 in
theorem s_LawReader_conditions {E : sx_E} {d : Nat} (hd : 5 ≤ d) {g : zi_M} {Q : Int → zi_M → Prop} (h : w_LawReader_conditions g Q) : zi_S E d 94 [.ref 212, .ref 191, .ref 196] g (zi_Qb Q) := by
  refine zi_Sof jf_94 [some (.ref 212), some (.ref 191), some (.ref 196), none, none] rfl (And.intro rfl (And.intro rfl (And.intro rfl trivial))) ?_
  unfold w_LawReader_conditions at h
  refine zi_aload_n (pc' := 1) rfl rfl rfl ?_
  refine zi_iconst (pc' := 2) rfl rfl ?_
  refine zi_puti (pc' := 5) 1 rfl rfl rfl rfl rfl  ?_
  replace h := h _ rfl
  refine zi_aload_n (pc' := 6) rfl rfl rfl ?_
  refine zi_iconst (pc' := 7) rfl rfl ?_
  refine zi_puti (pc' := 10) 2 rfl rfl rfl rfl rfl  ?_
  replace h := h _ rfl
  refine zi_aload_n (pc' := 11) rfl rfl rfl ?_
  refine zi_iconst (pc' := 12) rfl rfl ?_
  refine zi_puti (pc' := 15) 3 rfl rfl rfl rfl rfl  ?_
  replace h := h _ rfl
  refine zi_iconst (pc' := 16) rfl rfl ?_
  refine zi_istore_n (pc' := 17) [some _, some _, some _, some _, none] rfl rfl rfl ?_
  refine zi_wk (s_LawReader_conditions_l17 hd h (fun g39 h => ?_) (fun g40 h => ?_) (fun g49 h => ?_)) (And.intro rfl (And.intro rfl (And.intro rfl (And.intro rfl trivial))))
  · refine zi_iconst (pc' := 42) rfl rfl ?_
    exact zi_zret rfl rfl (Or.inl rfl) h
  · refine zi_goto (x := 97) rfl ?_
    exact zi_wk (s_LawReader_conditions_b97 hd h) (And.intro rfl (And.intro rfl (And.intro rfl trivial)))
  · exact zi_wk (s_LawReader_conditions_b97 hd h) (And.intro rfl (And.intro rfl (And.intro rfl trivial)))
-- SpoutNews$LawReader.readLaw(LSpoutNews$Tokens;LSpoutNews$Law;)Z
noncomputable def w_LawReader_readLaw_b98 (l3 : Int) (l4 : Int) (l5 : Int) (l6 : Int) (g : zi_M) (H : Int → zi_M → Prop) (K36 : zi_M → Prop) (K67 : zi_M → Prop) (K96 : zi_M → Prop) (K108 : zi_M → Prop) (K126 : zi_M → Prop) (Q : Int → zi_M → Prop) : Prop := w_Tokens_take 3 59 g (fun v22 g23 => ((¬ v22 = 0 → w_Law_addLine l4 l5 l6 g23 (fun _ g26 => H (l3 + 1) g26)) ∧ (v22 = 0 → K108 g23)))
noncomputable def w_LawReader_readLaw_l6 (K36 : zi_M → Prop) (K67 : zi_M → Prop) (K96 : zi_M → Prop) (K108 : zi_M → Prop) (K126 : zi_M → Prop) (Q : Int → zi_M → Prop) : Nat → Int → zi_M → Prop
  | 0, _, _ => False
  | f + 1, l3, g => (zi_r l3 ∧ ((16 < l3 → K126 g) ∧ (l3 ≤ 16 → w_Tokens_isAtEnd g (fun v5 g6 => ((¬ v5 = 0 → K126 g6) ∧ (v5 = 0 → w_Tokens_keyword g6 (fun v8 g9 => (zi_r v8 ∧ ((v8 < 0 → K36 g9) ∧ (0 ≤ v8 → ((v8 ≤ 2 → w_Tokens_takeLineStart v8 l3 g9 (fun v12 g13 => ((v12 = 0 → K67 g13) ∧ (¬ v12 = 0 → w_LawReader_sum g13 (fun v15 g16 => ((¬ v15 = 0 → w_Tokens_keyword g16 (fun v18 g19 => (zi_r v18 ∧ ((¬ v18 = 3 → w_LawReader_readLaw_b98 l3 v8 (g9 196 2) (g16 196 2) g19 (w_LawReader_readLaw_l6 K36 K67 K96 K108 K126 Q f) K36 K67 K96 K108 K126 Q) ∧ (v18 = 3 → w_Tokens_step g19 (fun _ g30 => w_LawReader_conditions g30 (fun v32 g33 => ((¬ v32 = 0 → w_LawReader_readLaw_b98 l3 v8 (g9 196 2) (g16 196 2) g33 (w_LawReader_readLaw_l6 K36 K67 K96 K108 K126 Q f) K36 K67 K96 K108 K126 Q) ∧ (v32 = 0 → K96 g33))))))))) ∧ (v15 = 0 → K67 g16))))))) ∧ (2 < v8 → K36 g9))))))))))))
noncomputable def w_LawReader_readLaw (g : zi_M) (Q : Int → zi_M → Prop) : Prop := w_Law_clear g (fun _ g2 => (∃ f51, w_LawReader_readLaw_l6 (fun g43 => w_Tokens_refuse 1 g43 (fun v44 g45 => Q v44 g45)) (fun g47 => Q 0 g47) (fun g48 => Q 0 g48) (fun g49 => Q 0 g49) (fun g50 => Q 1 g50) Q f51 0 g2))
set_option maxRecDepth 100000 in
theorem s_LawReader_readLaw_b98 {E : sx_E} {d : Nat} (hd : 6 ≤ d) {l3 : Int} {l4 : Int} {l5 : Int} {l6 : Int} {H : Int → zi_M → Prop} {K36 : zi_M → Prop} {K67 : zi_M → Prop} {K96 : zi_M → Prop} {K108 : zi_M → Prop} {K126 : zi_M → Prop} {Q : Int → zi_M → Prop} {g : zi_M} (h : w_LawReader_readLaw_b98 l3 l4 l5 l6 g H K36 K67 K96 K108 K126 Q) (hH : ∀ (m3 : Int) (g : zi_M), H m3 g → zi_W E d 79 6 [some (.ref 212), some (.ref 191), some (.ref 196), some (zi_i m3), none, none, none] [] g (zi_Qb Q)) (hK36 : ∀ (g : zi_M), K36 g → zi_W E d 79 36 [some (.ref 212), some (.ref 191), some (.ref 196), none, none, none, none] [] g (zi_Qb Q)) (hK67 : ∀ (g : zi_M), K67 g → zi_W E d 79 67 [some (.ref 212), some (.ref 191), some (.ref 196), none, none, none, none] [] g (zi_Qb Q)) (hK96 : ∀ (g : zi_M), K96 g → zi_W E d 79 96 [some (.ref 212), some (.ref 191), some (.ref 196), none, none, none, none] [] g (zi_Qb Q)) (hK108 : ∀ (g : zi_M), K108 g → zi_W E d 79 108 [some (.ref 212), some (.ref 191), some (.ref 196), none, none, none, none] [] g (zi_Qb Q)) (hK126 : ∀ (g : zi_M), K126 g → zi_W E d 79 126 [some (.ref 212), some (.ref 191), some (.ref 196), none, none, none, none] [] g (zi_Qb Q)) : zi_W E d 79 98 [some (.ref 212), some (.ref 191), some (.ref 196), some (zi_i l3), some (zi_i l4), some (zi_i l5), some (zi_i l6)] [] g (zi_Qb Q) := by
  unfold w_LawReader_readLaw_b98 at h
  refine zi_aload_n (pc' := 99) rfl rfl rfl ?_
  refine zi_iconst (pc' := 100) rfl rfl ?_
  refine zi_bipush (pc' := 102) rfl rfl (by decide) ?_
  refine zi_callV (d' := 2) (as := [_, _]) (pc' := 105) rfl rfl rfl rfl (Nat.lt_of_lt_of_le (by decide) hd) (s_Tokens_take (Nat.le_refl _) h) (zi_kb (fun v22 g23 b24 h => ?_))
  refine zi_if_ne (x := 110) (pc' := 108) rfl rfl (zi_r_bit b24)  (fun c28 => ?_) (fun c28 => ?_)
  · replace h := h.1 c28
    refine zi_aload_n (pc' := 111) rfl rfl rfl ?_
    refine zi_iload (pc' := 113) rfl rfl rfl ?_
    refine zi_iload (pc' := 115) rfl rfl rfl ?_
    refine zi_iload (pc' := 117) rfl rfl rfl ?_
    refine zi_callV (d' := 1) (as := [_, _, _]) (pc' := 120) rfl rfl rfl rfl (Nat.lt_of_lt_of_le (by decide) hd) (s_Law_addLine (Nat.le_refl _) h) (zi_kv (fun g26 h => ?_))
    refine zi_iinc (pc' := 123) [some _, some _, some _, some _, some _, some _, some _] rfl rfl rfl rfl ?_
    refine zi_goto (x := 6) rfl ?_
    exact zi_wk (hH _ _ h) (And.intro rfl (And.intro rfl (And.intro rfl (And.intro rfl trivial))))
  · replace h := h.2 c28
    exact zi_wk (hK108 _ h) (And.intro rfl (And.intro rfl (And.intro rfl trivial)))
set_option maxRecDepth 100000 in
theorem s_LawReader_readLaw_l6_r {E : sx_E} {d : Nat} (hd : 6 ≤ d) {K36 : zi_M → Prop} {K67 : zi_M → Prop} {K96 : zi_M → Prop} {K108 : zi_M → Prop} {K126 : zi_M → Prop} {Q : Int → zi_M → Prop} (hK36 : ∀ (g : zi_M), K36 g → zi_W E d 79 36 [some (.ref 212), some (.ref 191), some (.ref 196), none, none, none, none] [] g (zi_Qb Q)) (hK67 : ∀ (g : zi_M), K67 g → zi_W E d 79 67 [some (.ref 212), some (.ref 191), some (.ref 196), none, none, none, none] [] g (zi_Qb Q)) (hK96 : ∀ (g : zi_M), K96 g → zi_W E d 79 96 [some (.ref 212), some (.ref 191), some (.ref 196), none, none, none, none] [] g (zi_Qb Q)) (hK108 : ∀ (g : zi_M), K108 g → zi_W E d 79 108 [some (.ref 212), some (.ref 191), some (.ref 196), none, none, none, none] [] g (zi_Qb Q)) (hK126 : ∀ (g : zi_M), K126 g → zi_W E d 79 126 [some (.ref 212), some (.ref 191), some (.ref 196), none, none, none, none] [] g (zi_Qb Q)) : ∀ (f : Nat) {l3 : Int} {g : zi_M}, w_LawReader_readLaw_l6 K36 K67 K96 K108 K126 Q f l3 g → zi_W E d 79 6 [some (.ref 212), some (.ref 191), some (.ref 196), some (zi_i l3), none, none, none] [] g (zi_Qb Q)
  | 0, _, _, h => False.elim h
  | f + 1, l3, g, h => by
    refine zi_iload_n (pc' := 7) rfl rfl rfl ?_
    refine zi_bipush (pc' := 9) rfl rfl (by decide) ?_
    obtain ⟨o4, h⟩ := h
    refine zi_icmp_gt (x := 126) (pc' := 12) rfl rfl o4 (by decide) (fun c42 => ?_) (fun c42 => ?_)
    · replace h := h.1 c42
      exact zi_wk (hK126 _ h) (And.intro rfl (And.intro rfl (And.intro rfl trivial)))
    · replace h := h.2 c42
      refine zi_aload_n (pc' := 13) rfl rfl rfl ?_
      refine zi_callV (d' := 1) (as := []) (pc' := 16) rfl rfl rfl rfl (Nat.lt_of_lt_of_le (by decide) hd) (s_Tokens_isAtEnd (Nat.le_refl _) h) (zi_kb (fun v5 g6 b7 h => ?_))
      refine zi_if_ne (x := 126) (pc' := 19) rfl rfl (zi_r_bit b7)  (fun c41 => ?_) (fun c41 => ?_)
      · replace h := h.1 c41
        exact zi_wk (hK126 _ h) (And.intro rfl (And.intro rfl (And.intro rfl trivial)))
      · replace h := h.2 c41
        refine zi_aload_n (pc' := 20) rfl rfl rfl ?_
        refine zi_callV (d' := 1) (as := []) (pc' := 23) rfl rfl rfl rfl (Nat.lt_of_lt_of_le (by decide) hd) (s_Tokens_keyword (Nat.le_refl _) h) (zi_ki (fun v8 g9 h => ?_))
        refine zi_istore (pc' := 25) [some _, some _, some _, some _, some _, none, none] rfl rfl rfl ?_
        refine zi_iload (pc' := 27) rfl rfl rfl ?_
        obtain ⟨o11, h⟩ := h
        refine zi_if_lt (x := 36) (pc' := 30) rfl rfl o11  (fun c40 => ?_) (fun c40 => ?_)
        · replace h := h.1 c40
          exact zi_wk (hK36 _ h) (And.intro rfl (And.intro rfl (And.intro rfl trivial)))
        · replace h := h.2 c40
          refine zi_iload (pc' := 32) rfl rfl rfl ?_
          refine zi_iconst (pc' := 33) rfl rfl ?_
          refine zi_icmp_le (x := 42) (pc' := 36) rfl rfl o11 (by decide) (fun c39 => ?_) (fun c39 => ?_)
          · replace h := h.1 c39
            refine zi_aload_n (pc' := 43) rfl rfl rfl ?_
            refine zi_geti (pc' := 46) 2 rfl rfl rfl rfl rfl rfl ?_
            refine zi_istore (pc' := 48) [some _, some _, some _, some _, some _, some _, none] rfl rfl rfl ?_
            refine zi_aload_n (pc' := 49) rfl rfl rfl ?_
            refine zi_iload (pc' := 51) rfl rfl rfl ?_
            refine zi_iload_n (pc' := 52) rfl rfl rfl ?_
            refine zi_callV (d' := 3) (as := [_, _]) (pc' := 55) rfl rfl rfl rfl (Nat.lt_of_lt_of_le (by decide) hd) (s_Tokens_takeLineStart (Nat.le_refl _) h) (zi_kb (fun v12 g13 b14 h => ?_))
            refine zi_if_eq (x := 67) (pc' := 58) rfl rfl (zi_r_bit b14)  (fun c38 => ?_) (fun c38 => ?_)
            · replace h := h.1 c38
              exact zi_wk (hK67 _ h) (And.intro rfl (And.intro rfl (And.intro rfl trivial)))
            · replace h := h.2 c38
              refine zi_aload_n (pc' := 59) rfl rfl rfl ?_
              refine zi_aload_n (pc' := 60) rfl rfl rfl ?_
              refine zi_aload_n (pc' := 61) rfl rfl rfl ?_
              refine zi_callV (d' := 3) (as := [_, _]) (pc' := 64) rfl rfl rfl rfl (Nat.lt_of_lt_of_le (by decide) hd) (s_LawReader_sum (Nat.le_refl _) h) (zi_kb (fun v15 g16 b17 h => ?_))
              refine zi_if_ne (x := 69) (pc' := 67) rfl rfl (zi_r_bit b17)  (fun c37 => ?_) (fun c37 => ?_)
              · replace h := h.1 c37
                refine zi_aload_n (pc' := 70) rfl rfl rfl ?_
                refine zi_geti (pc' := 73) 2 rfl rfl rfl rfl rfl rfl ?_
                refine zi_istore (pc' := 75) [some _, some _, some _, some _, some _, some _, some _] rfl rfl rfl ?_
                refine zi_aload_n (pc' := 76) rfl rfl rfl ?_
                refine zi_callV (d' := 1) (as := []) (pc' := 79) rfl rfl rfl rfl (Nat.lt_of_lt_of_le (by decide) hd) (s_Tokens_keyword (Nat.le_refl _) h) (zi_ki (fun v18 g19 h => ?_))
                refine zi_iconst (pc' := 80) rfl rfl ?_
                obtain ⟨o21, h⟩ := h
                refine zi_icmp_ne (x := 98) (pc' := 83) rfl rfl o21 (by decide) (fun c36 => ?_) (fun c36 => ?_)
                · replace h := h.1 c36
                  exact zi_wk (s_LawReader_readLaw_b98 hd h (fun _ _ h => s_LawReader_readLaw_l6_r hd hK36 hK67 hK96 hK108 hK126 f h) hK36 hK67 hK96 hK108 hK126) (And.intro rfl (And.intro rfl (And.intro rfl (And.intro rfl (And.intro rfl (And.intro rfl (And.intro rfl trivial)))))))
                · replace h := h.2 c36
                  refine zi_aload_n (pc' := 84) rfl rfl rfl ?_
                  refine zi_callV (d' := 1) (as := []) (pc' := 87) rfl rfl rfl rfl (Nat.lt_of_lt_of_le (by decide) hd) (s_Tokens_step (Nat.le_refl _) h) (zi_kv (fun g30 h => ?_))
                  refine zi_aload_n (pc' := 88) rfl rfl rfl ?_
                  refine zi_aload_n (pc' := 89) rfl rfl rfl ?_
                  refine zi_aload_n (pc' := 90) rfl rfl rfl ?_
                  refine zi_callV (d' := 5) (as := [_, _]) (pc' := 93) rfl rfl rfl rfl (Nat.lt_of_lt_of_le (by decide) hd) (s_LawReader_conditions (Nat.le_refl _) h) (zi_kb (fun v32 g33 b34 h => ?_))
                  refine zi_if_ne (x := 98) (pc' := 96) rfl rfl (zi_r_bit b34)  (fun c35 => ?_) (fun c35 => ?_)
                  · replace h := h.1 c35
                    exact zi_wk (s_LawReader_readLaw_b98 hd h (fun _ _ h => s_LawReader_readLaw_l6_r hd hK36 hK67 hK96 hK108 hK126 f h) hK36 hK67 hK96 hK108 hK126) (And.intro rfl (And.intro rfl (And.intro rfl (And.intro rfl (And.intro rfl (And.intro rfl (And.intro rfl trivial)))))))
                  · replace h := h.2 c35
                    exact zi_wk (hK96 _ h) (And.intro rfl (And.intro rfl (And.intro rfl trivial)))
              · replace h := h.2 c37
                exact zi_wk (hK67 _ h) (And.intro rfl (And.intro rfl (And.intro rfl trivial)))
          · replace h := h.2 c39
            exact zi_wk (hK36 _ h) (And.intro rfl (And.intro rfl (And.intro rfl trivial)))
set_option maxRecDepth 100000 in
theorem s_LawReader_readLaw_l6 {E : sx_E} {d : Nat} (hd : 6 ≤ d) {K36 : zi_M → Prop} {K67 : zi_M → Prop} {K96 : zi_M → Prop} {K108 : zi_M → Prop} {K126 : zi_M → Prop} {Q : Int → zi_M → Prop} {l3 : Int} {g : zi_M} (h : ∃ f, w_LawReader_readLaw_l6 K36 K67 K96 K108 K126 Q f l3 g) (hK36 : ∀ (g : zi_M), K36 g → zi_W E d 79 36 [some (.ref 212), some (.ref 191), some (.ref 196), none, none, none, none] [] g (zi_Qb Q)) (hK67 : ∀ (g : zi_M), K67 g → zi_W E d 79 67 [some (.ref 212), some (.ref 191), some (.ref 196), none, none, none, none] [] g (zi_Qb Q)) (hK96 : ∀ (g : zi_M), K96 g → zi_W E d 79 96 [some (.ref 212), some (.ref 191), some (.ref 196), none, none, none, none] [] g (zi_Qb Q)) (hK108 : ∀ (g : zi_M), K108 g → zi_W E d 79 108 [some (.ref 212), some (.ref 191), some (.ref 196), none, none, none, none] [] g (zi_Qb Q)) (hK126 : ∀ (g : zi_M), K126 g → zi_W E d 79 126 [some (.ref 212), some (.ref 191), some (.ref 196), none, none, none, none] [] g (zi_Qb Q)) : zi_W E d 79 6 [some (.ref 212), some (.ref 191), some (.ref 196), some (zi_i l3), none, none, none] [] g (zi_Qb Q) := by
  obtain ⟨f, h⟩ := h
  exact s_LawReader_readLaw_l6_r hd hK36 hK67 hK96 hK108 hK126 f h
set_option maxRecDepth 100000 in
theorem s_LawReader_readLaw {E : sx_E} {d : Nat} (hd : 6 ≤ d) {g : zi_M} {Q : Int → zi_M → Prop} (h : w_LawReader_readLaw g Q) : zi_S E d 79 [.ref 212, .ref 191, .ref 196] g (zi_Qb Q) := by
  refine zi_Sof jf_79 [some (.ref 212), some (.ref 191), some (.ref 196), none, none, none, none] rfl (And.intro rfl (And.intro rfl (And.intro rfl trivial))) ?_
  unfold w_LawReader_readLaw at h
  refine zi_aload_n (pc' := 1) rfl rfl rfl ?_
  refine zi_callV (d' := 1) (as := []) (pc' := 4) rfl rfl rfl rfl (Nat.lt_of_lt_of_le (by decide) hd) (s_Law_clear (Nat.le_refl _) h) (zi_kv (fun g2 h => ?_))
  refine zi_iconst (pc' := 5) rfl rfl ?_
  refine zi_istore_n (pc' := 6) [some _, some _, some _, some _, none, none, none] rfl rfl rfl ?_
  refine zi_wk (s_LawReader_readLaw_l6 hd h (fun g43 h => ?_) (fun g47 h => ?_) (fun g48 h => ?_) (fun g49 h => ?_) (fun g50 h => ?_)) (And.intro rfl (And.intro rfl (And.intro rfl (And.intro rfl trivial))))
  · refine zi_aload_n (pc' := 37) rfl rfl rfl ?_
    refine zi_iconst (pc' := 38) rfl rfl ?_
    refine zi_callV (d' := 1) (as := [_]) (pc' := 41) rfl rfl rfl rfl (Nat.lt_of_lt_of_le (by decide) hd) (s_Tokens_refuse (Nat.le_refl _) h) (zi_kb (fun v44 g45 b46 h => ?_))
    exact zi_zret rfl rfl b46 h
  · refine zi_iconst (pc' := 68) rfl rfl ?_
    exact zi_zret rfl rfl (Or.inl rfl) h
  · refine zi_iconst (pc' := 97) rfl rfl ?_
    exact zi_zret rfl rfl (Or.inl rfl) h
  · refine zi_iconst (pc' := 109) rfl rfl ?_
    exact zi_zret rfl rfl (Or.inl rfl) h
  · refine zi_iconst (pc' := 127) rfl rfl ?_
    exact zi_zret rfl rfl (Or.inr rfl) h
-- SpoutNews$Law.copyFrom(LSpoutNews$Law;)V
noncomputable def w_Law_copyFrom (r0 : Nat) (r1 : Nat) (g : zi_M) (Q : Int → zi_M → Prop) : Prop := ((((0 : Int) ≤ 0 ∧ (0 : Int) ≤ 0 ∧ (0 : Int) ≤ (g r1 2)) ∧ 0 + (g r1 2) ≤ 400 ∧ 0 + (g r1 2) ≤ 400) ∧ (∀ g2, g2 = zi_cp g (r1 + 1) 0 (r0 + 1) 0 (g r1 2) → ((((0 : Int) ≤ 0 ∧ (0 : Int) ≤ 0 ∧ (0 : Int) ≤ (g2 r1 2)) ∧ 0 + (g2 r1 2) ≤ 400 ∧ 0 + (g2 r1 2) ≤ 400) ∧ (∀ g4, g4 = zi_cp g2 (r1 + 2) 0 (r0 + 2) 0 (g2 r1 2) → (∀ g5, g5 = zi_u g4 r0 2 (g4 r1 2) → (∀ g7, g7 = zi_cp g5 (r1 + 3) 0 (r0 + 3) 0 16 → (∀ g9, g9 = zi_cp g7 (r1 + 4) 0 (r0 + 4) 0 16 → (∀ g11, g11 = zi_cp g9 (r1 + 5) 0 (r0 + 5) 0 16 → (∀ g13, g13 = zi_cp g11 (r1 + 6) 0 (r0 + 6) 0 16 → (∀ g14, g14 = zi_u g13 r0 7 (g13 r1 7) → Q 0 g14))))))))))
set_option maxRecDepth 100000 in
theorem s_Law_copyFrom {E : sx_E} {d : Nat} (hd : 1 ≤ d) {r0 : Nat} (hr0 : zs_sh r0 = some (3, 10)) {r1 : Nat} (hr1 : zs_sh r1 = some (3, 10)) {g : zi_M} {Q : Int → zi_M → Prop} (h : w_Law_copyFrom r0 r1 g Q) : zi_S E d 102 [.ref r0, .ref r1] g (zi_Qv Q) := by
  refine zi_Sof jf_102 [some (.ref r0), some (.ref r1)] rfl (And.intro rfl (And.intro rfl trivial)) ?_
  unfold w_Law_copyFrom at h
  refine zi_aload_n (pc' := 1) rfl rfl rfl ?_
  refine zi_getr (pc' := 4) rfl rfl hr1 (zs_f3_0 hr1).1 rfl ?_
  refine zi_iconst (pc' := 5) rfl rfl ?_
  refine zi_aload_n (pc' := 6) rfl rfl rfl ?_
  refine zi_getr (pc' := 9) rfl rfl hr0 (zs_f3_0 hr0).1 rfl ?_
  refine zi_iconst (pc' := 10) rfl rfl ?_
  refine zi_aload_n (pc' := 11) rfl rfl rfl ?_
  refine zi_geti (pc' := 14) 2 rfl rfl rfl hr1 rfl rfl ?_
  obtain ⟨o1, h⟩ := h
  refine zi_copy (pc' := 17) rfl rfl (Nat.le_trans (by decide) hd) rfl (zs_f3_0 hr1).2 (zs_f3_0 hr0).2 o1 ?_
  replace h := h _ rfl
  refine zi_aload_n (pc' := 18) rfl rfl rfl ?_
  refine zi_getr (pc' := 21) rfl rfl hr1 (zs_f3_1 hr1).1 rfl ?_
  refine zi_iconst (pc' := 22) rfl rfl ?_
  refine zi_aload_n (pc' := 23) rfl rfl rfl ?_
  refine zi_getr (pc' := 26) rfl rfl hr0 (zs_f3_1 hr0).1 rfl ?_
  refine zi_iconst (pc' := 27) rfl rfl ?_
  refine zi_aload_n (pc' := 28) rfl rfl rfl ?_
  refine zi_geti (pc' := 31) 2 rfl rfl rfl hr1 rfl rfl ?_
  obtain ⟨o3, h⟩ := h
  refine zi_copy (pc' := 34) rfl rfl (Nat.le_trans (by decide) hd) rfl (zs_f3_1 hr1).2 (zs_f3_1 hr0).2 o3 ?_
  replace h := h _ rfl
  refine zi_aload_n (pc' := 35) rfl rfl rfl ?_
  refine zi_aload_n (pc' := 36) rfl rfl rfl ?_
  refine zi_geti (pc' := 39) 2 rfl rfl rfl hr1 rfl rfl ?_
  refine zi_puti (pc' := 42) 2 rfl rfl rfl hr0 rfl  ?_
  replace h := h _ rfl
  refine zi_aload_n (pc' := 43) rfl rfl rfl ?_
  refine zi_getr (pc' := 46) rfl rfl hr1 (zs_f3_3 hr1).1 rfl ?_
  refine zi_iconst (pc' := 47) rfl rfl ?_
  refine zi_aload_n (pc' := 48) rfl rfl rfl ?_
  refine zi_getr (pc' := 51) rfl rfl hr0 (zs_f3_3 hr0).1 rfl ?_
  refine zi_iconst (pc' := 52) rfl rfl ?_
  refine zi_bipush (pc' := 54) rfl rfl (by decide) ?_
  refine zi_copy (pc' := 57) rfl rfl (Nat.le_trans (by decide) hd) rfl (zs_f3_3 hr1).2 (zs_f3_3 hr0).2 (by decide) ?_
  replace h := h _ rfl
  refine zi_aload_n (pc' := 58) rfl rfl rfl ?_
  refine zi_getr (pc' := 61) rfl rfl hr1 (zs_f3_4 hr1).1 rfl ?_
  refine zi_iconst (pc' := 62) rfl rfl ?_
  refine zi_aload_n (pc' := 63) rfl rfl rfl ?_
  refine zi_getr (pc' := 66) rfl rfl hr0 (zs_f3_4 hr0).1 rfl ?_
  refine zi_iconst (pc' := 67) rfl rfl ?_
  refine zi_bipush (pc' := 69) rfl rfl (by decide) ?_
  refine zi_copy (pc' := 72) rfl rfl (Nat.le_trans (by decide) hd) rfl (zs_f3_4 hr1).2 (zs_f3_4 hr0).2 (by decide) ?_
  replace h := h _ rfl
  refine zi_aload_n (pc' := 73) rfl rfl rfl ?_
  refine zi_getr (pc' := 76) rfl rfl hr1 (zs_f3_5 hr1).1 rfl ?_
  refine zi_iconst (pc' := 77) rfl rfl ?_
  refine zi_aload_n (pc' := 78) rfl rfl rfl ?_
  refine zi_getr (pc' := 81) rfl rfl hr0 (zs_f3_5 hr0).1 rfl ?_
  refine zi_iconst (pc' := 82) rfl rfl ?_
  refine zi_bipush (pc' := 84) rfl rfl (by decide) ?_
  refine zi_copy (pc' := 87) rfl rfl (Nat.le_trans (by decide) hd) rfl (zs_f3_5 hr1).2 (zs_f3_5 hr0).2 (by decide) ?_
  replace h := h _ rfl
  refine zi_aload_n (pc' := 88) rfl rfl rfl ?_
  refine zi_getr (pc' := 91) rfl rfl hr1 (zs_f3_6 hr1).1 rfl ?_
  refine zi_iconst (pc' := 92) rfl rfl ?_
  refine zi_aload_n (pc' := 93) rfl rfl rfl ?_
  refine zi_getr (pc' := 96) rfl rfl hr0 (zs_f3_6 hr0).1 rfl ?_
  refine zi_iconst (pc' := 97) rfl rfl ?_
  refine zi_bipush (pc' := 99) rfl rfl (by decide) ?_
  refine zi_copy (pc' := 102) rfl rfl (Nat.le_trans (by decide) hd) rfl (zs_f3_6 hr1).2 (zs_f3_6 hr0).2 (by decide) ?_
  replace h := h _ rfl
  refine zi_aload_n (pc' := 103) rfl rfl rfl ?_
  refine zi_aload_n (pc' := 104) rfl rfl rfl ?_
  refine zi_geti (pc' := 107) 7 rfl rfl rfl hr1 rfl rfl ?_
  refine zi_puti (pc' := 110) 7 rfl rfl rfl hr0 rfl  ?_
  replace h := h _ rfl
  exact zi_vret rfl rfl h
-- SpoutNews$Tokens.takeBelow(I)I
noncomputable def w_Tokens_takeBelow (l1 : Int) (g : zi_M) (Q : Int → zi_M → Prop) : Prop := w_Tokens_number g (fun v1 g2 => (zi_r v1 ∧ ((¬ v1 = (-1) → (zi_r l1 ∧ ((v1 < l1 → w_Tokens_step g2 (fun _ g7 => Q v1 g7)) ∧ (l1 ≤ v1 → w_Tokens_refuse 2 g2 (fun v9 g10 => Q (-1) g10))))) ∧ (v1 = (-1) → w_Tokens_refuse 1 g2 (fun v13 g14 => Q (-1) g14)))))
set_option maxRecDepth 100000 in
theorem s_Tokens_takeBelow {E : sx_E} {d : Nat} (hd : 2 ≤ d) {l1 : Int} {g : zi_M} {Q : Int → zi_M → Prop} (h : w_Tokens_takeBelow l1 g Q) : zi_S E d 105 [.ref 191, zi_i l1] g (zi_Q Q) := by
  refine zi_Sof jf_105 [some (.ref 191), some (zi_i l1), none] rfl (And.intro rfl (And.intro rfl trivial)) ?_
  unfold w_Tokens_takeBelow at h
  refine zi_aload_n (pc' := 1) rfl rfl rfl ?_
  refine zi_callV (d' := 1) (as := []) (pc' := 4) rfl rfl rfl rfl (Nat.lt_of_lt_of_le (by decide) hd) (s_Tokens_number (Nat.le_refl _) h) (zi_ki (fun v1 g2 h => ?_))
  refine zi_istore_n (pc' := 5) [some _, some _, some _] rfl rfl rfl ?_
  refine zi_iload_n (pc' := 6) rfl rfl rfl ?_
  refine zi_iconst (pc' := 7) rfl rfl ?_
  obtain ⟨o4, h⟩ := h
  refine zi_icmp_ne (x := 18) (pc' := 10) rfl rfl o4 (by decide) (fun c16 => ?_) (fun c16 => ?_)
  · replace h := h.1 c16
    refine zi_iload_n (pc' := 19) rfl rfl rfl ?_
    refine zi_iload_n (pc' := 20) rfl rfl rfl ?_
    obtain ⟨o5, h⟩ := h
    refine zi_icmp_lt (x := 31) (pc' := 23) rfl rfl o4 o5 (fun c12 => ?_) (fun c12 => ?_)
    · replace h := h.1 c12
      refine zi_aload_n (pc' := 32) rfl rfl rfl ?_
      refine zi_callV (d' := 1) (as := []) (pc' := 35) rfl rfl rfl rfl (Nat.lt_of_lt_of_le (by decide) hd) (s_Tokens_step (Nat.le_refl _) h) (zi_kv (fun g7 h => ?_))
      refine zi_iload_n (pc' := 36) rfl rfl rfl ?_
      exact zi_iret rfl rfl h
    · replace h := h.2 c12
      refine zi_aload_n (pc' := 24) rfl rfl rfl ?_
      refine zi_iconst (pc' := 25) rfl rfl ?_
      refine zi_callV (d' := 1) (as := [_]) (pc' := 28) rfl rfl rfl rfl (Nat.lt_of_lt_of_le (by decide) hd) (s_Tokens_refuse (Nat.le_refl _) h) (zi_kb (fun v9 g10 b11 h => ?_))
      refine zi_pop (pc' := 29) rfl rfl rfl ?_
      refine zi_iconst (pc' := 30) rfl rfl ?_
      exact zi_iret rfl rfl h
  · replace h := h.2 c16
    refine zi_aload_n (pc' := 11) rfl rfl rfl ?_
    refine zi_iconst (pc' := 12) rfl rfl ?_
    refine zi_callV (d' := 1) (as := [_]) (pc' := 15) rfl rfl rfl rfl (Nat.lt_of_lt_of_le (by decide) hd) (s_Tokens_refuse (Nat.le_refl _) h) (zi_kb (fun v13 g14 b15 h => ?_))
    refine zi_pop (pc' := 16) rfl rfl rfl ?_
    refine zi_iconst (pc' := 17) rfl rfl ?_
    exact zi_iret rfl rfl h
-- SpoutNews$Texts.readGutters(LSpoutNews$Tokens;LSpoutNews$World;)Z
noncomputable def w_Texts_readGutters_l15 (K37 : zi_M → Prop) (K64 : zi_M → Prop) (K75 : zi_M → Prop) (K107 : zi_M → Prop) (K131 : zi_M → Prop) (Q : Int → zi_M → Prop) : Nat → Int → zi_M → Prop
  | 0, _, _ => False
  | f + 1, l3, g => (zi_r l3 ∧ ((16 < l3 → K131 g) ∧ (l3 ≤ 16 → w_Tokens_isAtEnd g (fun v4 g5 => ((¬ v4 = 0 → K131 g5) ∧ (v4 = 0 → w_Tokens_takeLineStart 0 l3 g5 (fun v7 g8 => ((¬ v7 = 0 → w_Tokens_takeBelow (g8 2 8) g8 (fun v10 g11 => (zi_r v10 ∧ ((v10 = (-1) → K64 g11) ∧ (¬ v10 = (-1) → w_Tokens_take 2 1 g11 (fun v14 g15 => ((¬ v14 = 0 → w_Tokens_number g15 (fun v17 g18 => (zi_r v17 ∧ ((¬ v17 = v10 → w_Tokens_takeBelow (g18 2 8) g18 (fun v21 g22 => (zi_r v21 ∧ ((v21 = (-1) → K107 g22) ∧ (¬ v21 = (-1) → w_Tokens_take 3 59 g22 (fun v25 g26 => ((¬ v25 = 0 → ((0 ≤ v10 ∧ v10 < 10) ∧ (∀ g29, g29 = zi_u g26 205 v10 v21 → (∀ g30, g30 = zi_u g29 195 2 (l3 + 1) → w_Texts_readGutters_l15 K37 K64 K75 K107 K131 Q f (l3 + 1) g30)))) ∧ (v25 = 0 → K107 g26)))))))) ∧ (v17 = v10 → K75 g18))))) ∧ (v14 = 0 → K64 g15)))))))) ∧ (v7 = 0 → K37 g8)))))))))
noncomputable def w_Texts_readGutters (g : zi_M) (Q : Int → zi_M → Prop) : Prop := (∀ g1, g1 = zi_fl g 205 10 (-1) → (∀ g2, g2 = zi_u g1 195 2 0 → (∃ f47, w_Texts_readGutters_l15 (fun g39 => Q 0 g39) (fun g40 => Q 0 g40) (fun g41 => w_Tokens_refuse 2 g41 (fun v42 g43 => Q v42 g43)) (fun g45 => Q 0 g45) (fun g46 => Q 1 g46) Q f47 0 g2)))
set_option maxRecDepth 100000 in
theorem s_Texts_readGutters_l15_r {E : sx_E} {d : Nat} (hd : 4 ≤ d) {K37 : zi_M → Prop} {K64 : zi_M → Prop} {K75 : zi_M → Prop} {K107 : zi_M → Prop} {K131 : zi_M → Prop} {Q : Int → zi_M → Prop} (hK37 : ∀ (g : zi_M), K37 g → zi_W E d 104 37 [some (.ref 195), some (.ref 191), some (.ref 2), none, none, none] [] g (zi_Qb Q)) (hK64 : ∀ (g : zi_M), K64 g → zi_W E d 104 64 [some (.ref 195), some (.ref 191), some (.ref 2), none, none, none] [] g (zi_Qb Q)) (hK75 : ∀ (g : zi_M), K75 g → zi_W E d 104 75 [some (.ref 195), some (.ref 191), some (.ref 2), none, none, none] [] g (zi_Qb Q)) (hK107 : ∀ (g : zi_M), K107 g → zi_W E d 104 107 [some (.ref 195), some (.ref 191), some (.ref 2), none, none, none] [] g (zi_Qb Q)) (hK131 : ∀ (g : zi_M), K131 g → zi_W E d 104 131 [some (.ref 195), some (.ref 191), some (.ref 2), none, none, none] [] g (zi_Qb Q)) : ∀ (f : Nat) {l3 : Int} {g : zi_M}, w_Texts_readGutters_l15 K37 K64 K75 K107 K131 Q f l3 g → zi_W E d 104 15 [some (.ref 195), some (.ref 191), some (.ref 2), some (zi_i l3), none, none] [] g (zi_Qb Q)
  | 0, _, _, h => False.elim h
  | f + 1, l3, g, h => by
    refine zi_iload_n (pc' := 16) rfl rfl rfl ?_
    refine zi_bipush (pc' := 18) rfl rfl (by decide) ?_
    obtain ⟨o3, h⟩ := h
    refine zi_icmp_gt (x := 131) (pc' := 21) rfl rfl o3 (by decide) (fun c38 => ?_) (fun c38 => ?_)
    · replace h := h.1 c38
      exact zi_wk (hK131 _ h) (And.intro rfl (And.intro rfl (And.intro rfl trivial)))
    · replace h := h.2 c38
      refine zi_aload_n (pc' := 22) rfl rfl rfl ?_
      refine zi_callV (d' := 1) (as := []) (pc' := 25) rfl rfl rfl rfl (Nat.lt_of_lt_of_le (by decide) hd) (s_Tokens_isAtEnd (Nat.le_refl _) h) (zi_kb (fun v4 g5 b6 h => ?_))
      refine zi_if_ne (x := 131) (pc' := 28) rfl rfl (zi_r_bit b6)  (fun c37 => ?_) (fun c37 => ?_)
      · replace h := h.1 c37
        exact zi_wk (hK131 _ h) (And.intro rfl (And.intro rfl (And.intro rfl trivial)))
      · replace h := h.2 c37
        refine zi_aload_n (pc' := 29) rfl rfl rfl ?_
        refine zi_iconst (pc' := 30) rfl rfl ?_
        refine zi_iload_n (pc' := 31) rfl rfl rfl ?_
        refine zi_callV (d' := 3) (as := [_, _]) (pc' := 34) rfl rfl rfl rfl (Nat.lt_of_lt_of_le (by decide) hd) (s_Tokens_takeLineStart (Nat.le_refl _) h) (zi_kb (fun v7 g8 b9 h => ?_))
        refine zi_if_ne (x := 39) (pc' := 37) rfl rfl (zi_r_bit b9)  (fun c36 => ?_) (fun c36 => ?_)
        · replace h := h.1 c36
          refine zi_aload_n (pc' := 40) rfl rfl rfl ?_
          refine zi_aload_n (pc' := 41) rfl rfl rfl ?_
          refine zi_geti (pc' := 44) 8 rfl rfl rfl rfl rfl rfl ?_
          refine zi_callV (d' := 2) (as := [_]) (pc' := 47) rfl rfl rfl rfl (Nat.lt_of_lt_of_le (by decide) hd) (s_Tokens_takeBelow (Nat.le_refl _) h) (zi_ki (fun v10 g11 h => ?_))
          refine zi_istore (pc' := 49) [some _, some _, some _, some _, some _, none] rfl rfl rfl ?_
          refine zi_iload (pc' := 51) rfl rfl rfl ?_
          refine zi_iconst (pc' := 52) rfl rfl ?_
          obtain ⟨o13, h⟩ := h
          refine zi_icmp_eq (x := 64) (pc' := 55) rfl rfl o13 (by decide) (fun c35 => ?_) (fun c35 => ?_)
          · replace h := h.1 c35
            exact zi_wk (hK64 _ h) (And.intro rfl (And.intro rfl (And.intro rfl trivial)))
          · replace h := h.2 c35
            refine zi_aload_n (pc' := 56) rfl rfl rfl ?_
            refine zi_iconst (pc' := 57) rfl rfl ?_
            refine zi_iconst (pc' := 58) rfl rfl ?_
            refine zi_callV (d' := 2) (as := [_, _]) (pc' := 61) rfl rfl rfl rfl (Nat.lt_of_lt_of_le (by decide) hd) (s_Tokens_take (Nat.le_refl _) h) (zi_kb (fun v14 g15 b16 h => ?_))
            refine zi_if_ne (x := 66) (pc' := 64) rfl rfl (zi_r_bit b16)  (fun c34 => ?_) (fun c34 => ?_)
            · replace h := h.1 c34
              refine zi_aload_n (pc' := 67) rfl rfl rfl ?_
              refine zi_callV (d' := 1) (as := []) (pc' := 70) rfl rfl rfl rfl (Nat.lt_of_lt_of_le (by decide) hd) (s_Tokens_number (Nat.le_refl _) h) (zi_ki (fun v17 g18 h => ?_))
              refine zi_iload (pc' := 72) rfl rfl rfl ?_
              obtain ⟨o20, h⟩ := h
              refine zi_icmp_ne (x := 81) (pc' := 75) rfl rfl o20 o13 (fun c33 => ?_) (fun c33 => ?_)
              · replace h := h.1 c33
                refine zi_aload_n (pc' := 82) rfl rfl rfl ?_
                refine zi_aload_n (pc' := 83) rfl rfl rfl ?_
                refine zi_geti (pc' := 86) 8 rfl rfl rfl rfl rfl rfl ?_
                refine zi_callV (d' := 2) (as := [_]) (pc' := 89) rfl rfl rfl rfl (Nat.lt_of_lt_of_le (by decide) hd) (s_Tokens_takeBelow (Nat.le_refl _) h) (zi_ki (fun v21 g22 h => ?_))
                refine zi_istore (pc' := 91) [some _, some _, some _, some _, some _, some _] rfl rfl rfl ?_
                refine zi_iload (pc' := 93) rfl rfl rfl ?_
                refine zi_iconst (pc' := 94) rfl rfl ?_
                obtain ⟨o24, h⟩ := h
                refine zi_icmp_eq (x := 107) (pc' := 97) rfl rfl o24 (by decide) (fun c32 => ?_) (fun c32 => ?_)
                · replace h := h.1 c32
                  exact zi_wk (hK107 _ h) (And.intro rfl (And.intro rfl (And.intro rfl trivial)))
                · replace h := h.2 c32
                  refine zi_aload_n (pc' := 98) rfl rfl rfl ?_
                  refine zi_iconst (pc' := 99) rfl rfl ?_
                  refine zi_bipush (pc' := 101) rfl rfl (by decide) ?_
                  refine zi_callV (d' := 2) (as := [_, _]) (pc' := 104) rfl rfl rfl rfl (Nat.lt_of_lt_of_le (by decide) hd) (s_Tokens_take (Nat.le_refl _) h) (zi_kb (fun v25 g26 b27 h => ?_))
                  refine zi_if_ne (x := 109) (pc' := 107) rfl rfl (zi_r_bit b27)  (fun c31 => ?_) (fun c31 => ?_)
                  · replace h := h.1 c31
                    refine zi_aload_n (pc' := 110) rfl rfl rfl ?_
                    refine zi_getr (pc' := 113) rfl rfl rfl rfl rfl ?_
                    refine zi_iload (pc' := 115) rfl rfl rfl ?_
                    refine zi_iload (pc' := 117) rfl rfl rfl ?_
                    obtain ⟨o28, h⟩ := h
                    refine zi_iast (pc' := 118) rfl rfl rfl o28 ?_
                    replace h := h _ rfl
                    refine zi_aload_n (pc' := 119) rfl rfl rfl ?_
                    refine zi_iload_n (pc' := 120) rfl rfl rfl ?_
                    refine zi_iconst (pc' := 121) rfl rfl ?_
                    refine zi_iadd (pc' := 122) rfl rfl ?_
                    refine zi_puti (pc' := 125) 2 rfl rfl rfl rfl rfl  ?_
                    replace h := h _ rfl
                    refine zi_iinc (pc' := 128) [some _, some _, some _, some _, some _, some _] rfl rfl rfl rfl ?_
                    refine zi_goto (x := 15) rfl ?_
                    exact zi_wk (s_Texts_readGutters_l15_r hd hK37 hK64 hK75 hK107 hK131 f h) (And.intro rfl (And.intro rfl (And.intro rfl (And.intro rfl trivial))))
                  · replace h := h.2 c31
                    exact zi_wk (hK107 _ h) (And.intro rfl (And.intro rfl (And.intro rfl trivial)))
              · replace h := h.2 c33
                exact zi_wk (hK75 _ h) (And.intro rfl (And.intro rfl (And.intro rfl trivial)))
            · replace h := h.2 c34
              exact zi_wk (hK64 _ h) (And.intro rfl (And.intro rfl (And.intro rfl trivial)))
        · replace h := h.2 c36
          exact zi_wk (hK37 _ h) (And.intro rfl (And.intro rfl (And.intro rfl trivial)))
set_option maxRecDepth 100000 in
theorem s_Texts_readGutters_l15 {E : sx_E} {d : Nat} (hd : 4 ≤ d) {K37 : zi_M → Prop} {K64 : zi_M → Prop} {K75 : zi_M → Prop} {K107 : zi_M → Prop} {K131 : zi_M → Prop} {Q : Int → zi_M → Prop} {l3 : Int} {g : zi_M} (h : ∃ f, w_Texts_readGutters_l15 K37 K64 K75 K107 K131 Q f l3 g) (hK37 : ∀ (g : zi_M), K37 g → zi_W E d 104 37 [some (.ref 195), some (.ref 191), some (.ref 2), none, none, none] [] g (zi_Qb Q)) (hK64 : ∀ (g : zi_M), K64 g → zi_W E d 104 64 [some (.ref 195), some (.ref 191), some (.ref 2), none, none, none] [] g (zi_Qb Q)) (hK75 : ∀ (g : zi_M), K75 g → zi_W E d 104 75 [some (.ref 195), some (.ref 191), some (.ref 2), none, none, none] [] g (zi_Qb Q)) (hK107 : ∀ (g : zi_M), K107 g → zi_W E d 104 107 [some (.ref 195), some (.ref 191), some (.ref 2), none, none, none] [] g (zi_Qb Q)) (hK131 : ∀ (g : zi_M), K131 g → zi_W E d 104 131 [some (.ref 195), some (.ref 191), some (.ref 2), none, none, none] [] g (zi_Qb Q)) : zi_W E d 104 15 [some (.ref 195), some (.ref 191), some (.ref 2), some (zi_i l3), none, none] [] g (zi_Qb Q) := by
  obtain ⟨f, h⟩ := h
  exact s_Texts_readGutters_l15_r hd hK37 hK64 hK75 hK107 hK131 f h
set_option maxRecDepth 100000 in
theorem s_Texts_readGutters {E : sx_E} {d : Nat} (hd : 4 ≤ d) {g : zi_M} {Q : Int → zi_M → Prop} (h : w_Texts_readGutters g Q) : zi_S E d 104 [.ref 195, .ref 191, .ref 2] g (zi_Qb Q) := by
  refine zi_Sof jf_104 [some (.ref 195), some (.ref 191), some (.ref 2), none, none, none] rfl (And.intro rfl (And.intro rfl (And.intro rfl trivial))) ?_
  unfold w_Texts_readGutters at h
  refine zi_aload_n (pc' := 1) rfl rfl rfl ?_
  refine zi_getr (pc' := 4) rfl rfl rfl rfl rfl ?_
  refine zi_iconst (pc' := 5) rfl rfl ?_
  refine zi_callS (d' := 2) (as := [_, _]) (pc' := 8) rfl rfl rfl (Nat.lt_of_lt_of_le (by decide) hd) (zi_fill (n := 10) rfl rfl) (zi_kv (fun g' h' => ?_))
  subst h'
  replace h := h _ rfl
  refine zi_aload_n (pc' := 9) rfl rfl rfl ?_
  refine zi_iconst (pc' := 10) rfl rfl ?_
  refine zi_puti (pc' := 13) 2 rfl rfl rfl rfl rfl  ?_
  replace h := h _ rfl
  refine zi_iconst (pc' := 14) rfl rfl ?_
  refine zi_istore_n (pc' := 15) [some _, some _, some _, some _, none, none] rfl rfl rfl ?_
  refine zi_wk (s_Texts_readGutters_l15 hd h (fun g39 h => ?_) (fun g40 h => ?_) (fun g41 h => ?_) (fun g45 h => ?_) (fun g46 h => ?_)) (And.intro rfl (And.intro rfl (And.intro rfl (And.intro rfl trivial))))
  · refine zi_iconst (pc' := 38) rfl rfl ?_
    exact zi_zret rfl rfl (Or.inl rfl) h
  · refine zi_iconst (pc' := 65) rfl rfl ?_
    exact zi_zret rfl rfl (Or.inl rfl) h
  · refine zi_aload_n (pc' := 76) rfl rfl rfl ?_
    refine zi_iconst (pc' := 77) rfl rfl ?_
    refine zi_callV (d' := 1) (as := [_]) (pc' := 80) rfl rfl rfl rfl (Nat.lt_of_lt_of_le (by decide) hd) (s_Tokens_refuse (Nat.le_refl _) h) (zi_kb (fun v42 g43 b44 h => ?_))
    exact zi_zret rfl rfl b44 h
  · refine zi_iconst (pc' := 108) rfl rfl ?_
    exact zi_zret rfl rfl (Or.inl rfl) h
  · refine zi_iconst (pc' := 132) rfl rfl ?_
    exact zi_zret rfl rfl (Or.inr rfl) h
-- SpoutNews$Texts.copyGutters(LSpoutNews$Texts;)V
noncomputable def w_Texts_copyGutters (r0 : Nat) (r1 : Nat) (g : zi_M) (Q : Int → zi_M → Prop) : Prop := (∀ g2, g2 = zi_cp g (r1 + 10) 0 (r0 + 10) 0 10 → (∀ g3, g3 = zi_u g2 r0 2 (g2 r1 2) → Q 0 g3))
set_option maxRecDepth 100000 in
theorem s_Texts_copyGutters {E : sx_E} {d : Nat} (hd : 1 ≤ d) {r0 : Nat} (hr0 : zs_sh r0 = some (6, 11)) {r1 : Nat} (hr1 : zs_sh r1 = some (6, 11)) {g : zi_M} {Q : Int → zi_M → Prop} (h : w_Texts_copyGutters r0 r1 g Q) : zi_S E d 106 [.ref r0, .ref r1] g (zi_Qv Q) := by
  refine zi_Sof jf_106 [some (.ref r0), some (.ref r1)] rfl (And.intro rfl (And.intro rfl trivial)) ?_
  unfold w_Texts_copyGutters at h
  refine zi_aload_n (pc' := 1) rfl rfl rfl ?_
  refine zi_getr (pc' := 4) rfl rfl hr1 (zs_f6_1 hr1).1 rfl ?_
  refine zi_iconst (pc' := 5) rfl rfl ?_
  refine zi_aload_n (pc' := 6) rfl rfl rfl ?_
  refine zi_getr (pc' := 9) rfl rfl hr0 (zs_f6_1 hr0).1 rfl ?_
  refine zi_iconst (pc' := 10) rfl rfl ?_
  refine zi_bipush (pc' := 12) rfl rfl (by decide) ?_
  refine zi_copy (pc' := 15) rfl rfl (Nat.le_trans (by decide) hd) rfl (zs_f6_1 hr1).2 (zs_f6_1 hr0).2 (by decide) ?_
  replace h := h _ rfl
  refine zi_aload_n (pc' := 16) rfl rfl rfl ?_
  refine zi_aload_n (pc' := 17) rfl rfl rfl ?_
  refine zi_geti (pc' := 20) 2 rfl rfl rfl hr1 rfl rfl ?_
  refine zi_puti (pc' := 23) 2 rfl rfl rfl hr0 rfl  ?_
  replace h := h _ rfl
  exact zi_vret rfl rfl h
-- SpoutNews$Texts.readWeather(LSpoutNews$Tokens;)Z
noncomputable def w_Texts_readWeather_l7 (K29 : zi_M → Prop) (K53 : zi_M → Prop) (K85 : zi_M → Prop) (K115 : zi_M → Prop) (Q : Int → zi_M → Prop) : Nat → Int → zi_M → Prop
  | 0, _, _ => False
  | f + 1, l2, g => (zi_r l2 ∧ ((16 < l2 → K115 g) ∧ (l2 ≤ 16 → w_Tokens_isAtEnd g (fun v3 g4 => ((¬ v3 = 0 → K115 g4) ∧ (v3 = 0 → w_Tokens_takeLineStart 0 l2 g4 (fun v6 g7 => ((¬ v6 = 0 → w_Tokens_takeBelow 1000 g7 (fun v9 g10 => (zi_r v9 ∧ ((v9 = (-1) → K53 g10) ∧ (¬ v9 = (-1) → w_Tokens_take 2 1 g10 (fun v13 g14 => ((¬ v13 = 0 → w_Tokens_takeBelow 10 g14 (fun v16 g17 => (zi_r v16 ∧ ((v16 = (-1) → K85 g17) ∧ (¬ v16 = (-1) → w_Tokens_take 3 59 g17 (fun v20 g21 => ((v20 = 0 → K85 g21) ∧ (¬ v20 = 0 → ((l2 < 16 → ((0 ≤ l2 ∧ l2 < 16) ∧ (∀ g24, g24 = zi_u g21 206 l2 v9 → (∀ g25, g25 = zi_u g24 207 l2 v16 → (∀ g26, g26 = zi_u g25 195 5 (l2 + 1) → w_Texts_readWeather_l7 K29 K53 K85 K115 Q f (l2 + 1) g26))))) ∧ (16 ≤ l2 → K85 g21)))))))))) ∧ (v13 = 0 → K53 g14)))))))) ∧ (v6 = 0 → K29 g7)))))))))
noncomputable def w_Texts_readWeather (g : zi_M) (Q : Int → zi_M → Prop) : Prop := (∀ g1, g1 = zi_u g 195 5 0 → (∃ f39, w_Texts_readWeather_l7 (fun g35 => Q 0 g35) (fun g36 => Q 0 g36) (fun g37 => Q 0 g37) (fun g38 => Q 1 g38) Q f39 0 g1))
set_option maxRecDepth 100000 in
theorem s_Texts_readWeather_l7_r {E : sx_E} {d : Nat} (hd : 4 ≤ d) {K29 : zi_M → Prop} {K53 : zi_M → Prop} {K85 : zi_M → Prop} {K115 : zi_M → Prop} {Q : Int → zi_M → Prop} (hK29 : ∀ (g : zi_M), K29 g → zi_W E d 108 29 [some (.ref 195), some (.ref 191), none, none, none] [] g (zi_Qb Q)) (hK53 : ∀ (g : zi_M), K53 g → zi_W E d 108 53 [some (.ref 195), some (.ref 191), none, none, none] [] g (zi_Qb Q)) (hK85 : ∀ (g : zi_M), K85 g → zi_W E d 108 85 [some (.ref 195), some (.ref 191), none, none, none] [] g (zi_Qb Q)) (hK115 : ∀ (g : zi_M), K115 g → zi_W E d 108 115 [some (.ref 195), some (.ref 191), none, none, none] [] g (zi_Qb Q)) : ∀ (f : Nat) {l2 : Int} {g : zi_M}, w_Texts_readWeather_l7 K29 K53 K85 K115 Q f l2 g → zi_W E d 108 7 [some (.ref 195), some (.ref 191), some (zi_i l2), none, none] [] g (zi_Qb Q)
  | 0, _, _, h => False.elim h
  | f + 1, l2, g, h => by
    refine zi_iload_n (pc' := 8) rfl rfl rfl ?_
    refine zi_bipush (pc' := 10) rfl rfl (by decide) ?_
    obtain ⟨o2, h⟩ := h
    refine zi_icmp_gt (x := 115) (pc' := 13) rfl rfl o2 (by decide) (fun c34 => ?_) (fun c34 => ?_)
    · replace h := h.1 c34
      exact zi_wk (hK115 _ h) (And.intro rfl (And.intro rfl trivial))
    · replace h := h.2 c34
      refine zi_aload_n (pc' := 14) rfl rfl rfl ?_
      refine zi_callV (d' := 1) (as := []) (pc' := 17) rfl rfl rfl rfl (Nat.lt_of_lt_of_le (by decide) hd) (s_Tokens_isAtEnd (Nat.le_refl _) h) (zi_kb (fun v3 g4 b5 h => ?_))
      refine zi_if_ne (x := 115) (pc' := 20) rfl rfl (zi_r_bit b5)  (fun c33 => ?_) (fun c33 => ?_)
      · replace h := h.1 c33
        exact zi_wk (hK115 _ h) (And.intro rfl (And.intro rfl trivial))
      · replace h := h.2 c33
        refine zi_aload_n (pc' := 21) rfl rfl rfl ?_
        refine zi_iconst (pc' := 22) rfl rfl ?_
        refine zi_iload_n (pc' := 23) rfl rfl rfl ?_
        refine zi_callV (d' := 3) (as := [_, _]) (pc' := 26) rfl rfl rfl rfl (Nat.lt_of_lt_of_le (by decide) hd) (s_Tokens_takeLineStart (Nat.le_refl _) h) (zi_kb (fun v6 g7 b8 h => ?_))
        refine zi_if_ne (x := 31) (pc' := 29) rfl rfl (zi_r_bit b8)  (fun c32 => ?_) (fun c32 => ?_)
        · replace h := h.1 c32
          refine zi_aload_n (pc' := 32) rfl rfl rfl ?_
          refine zi_sipush (pc' := 35) rfl rfl (by decide) ?_
          refine zi_callV (d' := 2) (as := [_]) (pc' := 38) rfl rfl rfl rfl (Nat.lt_of_lt_of_le (by decide) hd) (s_Tokens_takeBelow (Nat.le_refl _) h) (zi_ki (fun v9 g10 h => ?_))
          refine zi_istore_n (pc' := 39) [some _, some _, some _, some _, none] rfl rfl rfl ?_
          refine zi_iload_n (pc' := 40) rfl rfl rfl ?_
          refine zi_iconst (pc' := 41) rfl rfl ?_
          obtain ⟨o12, h⟩ := h
          refine zi_icmp_eq (x := 53) (pc' := 44) rfl rfl o12 (by decide) (fun c31 => ?_) (fun c31 => ?_)
          · replace h := h.1 c31
            exact zi_wk (hK53 _ h) (And.intro rfl (And.intro rfl trivial))
          · replace h := h.2 c31
            refine zi_aload_n (pc' := 45) rfl rfl rfl ?_
            refine zi_iconst (pc' := 46) rfl rfl ?_
            refine zi_iconst (pc' := 47) rfl rfl ?_
            refine zi_callV (d' := 2) (as := [_, _]) (pc' := 50) rfl rfl rfl rfl (Nat.lt_of_lt_of_le (by decide) hd) (s_Tokens_take (Nat.le_refl _) h) (zi_kb (fun v13 g14 b15 h => ?_))
            refine zi_if_ne (x := 55) (pc' := 53) rfl rfl (zi_r_bit b15)  (fun c30 => ?_) (fun c30 => ?_)
            · replace h := h.1 c30
              refine zi_aload_n (pc' := 56) rfl rfl rfl ?_
              refine zi_bipush (pc' := 58) rfl rfl (by decide) ?_
              refine zi_callV (d' := 2) (as := [_]) (pc' := 61) rfl rfl rfl rfl (Nat.lt_of_lt_of_le (by decide) hd) (s_Tokens_takeBelow (Nat.le_refl _) h) (zi_ki (fun v16 g17 h => ?_))
              refine zi_istore (pc' := 63) [some _, some _, some _, some _, some _] rfl rfl rfl ?_
              refine zi_iload (pc' := 65) rfl rfl rfl ?_
              refine zi_iconst (pc' := 66) rfl rfl ?_
              obtain ⟨o19, h⟩ := h
              refine zi_icmp_eq (x := 85) (pc' := 69) rfl rfl o19 (by decide) (fun c29 => ?_) (fun c29 => ?_)
              · replace h := h.1 c29
                exact zi_wk (hK85 _ h) (And.intro rfl (And.intro rfl trivial))
              · replace h := h.2 c29
                refine zi_aload_n (pc' := 70) rfl rfl rfl ?_
                refine zi_iconst (pc' := 71) rfl rfl ?_
                refine zi_bipush (pc' := 73) rfl rfl (by decide) ?_
                refine zi_callV (d' := 2) (as := [_, _]) (pc' := 76) rfl rfl rfl rfl (Nat.lt_of_lt_of_le (by decide) hd) (s_Tokens_take (Nat.le_refl _) h) (zi_kb (fun v20 g21 b22 h => ?_))
                refine zi_if_eq (x := 85) (pc' := 79) rfl rfl (zi_r_bit b22)  (fun c28 => ?_) (fun c28 => ?_)
                · replace h := h.1 c28
                  exact zi_wk (hK85 _ h) (And.intro rfl (And.intro rfl trivial))
                · replace h := h.2 c28
                  refine zi_iload_n (pc' := 80) rfl rfl rfl ?_
                  refine zi_bipush (pc' := 82) rfl rfl (by decide) ?_
                  refine zi_icmp_lt (x := 87) (pc' := 85) rfl rfl o2 (by decide) (fun c27 => ?_) (fun c27 => ?_)
                  · replace h := h.1 c27
                    refine zi_aload_n (pc' := 88) rfl rfl rfl ?_
                    refine zi_getr (pc' := 91) rfl rfl rfl rfl rfl ?_
                    refine zi_iload_n (pc' := 92) rfl rfl rfl ?_
                    refine zi_iload_n (pc' := 93) rfl rfl rfl ?_
                    obtain ⟨o23, h⟩ := h
                    refine zi_iast (pc' := 94) rfl rfl rfl o23 ?_
                    replace h := h _ rfl
                    refine zi_aload_n (pc' := 95) rfl rfl rfl ?_
                    refine zi_getr (pc' := 98) rfl rfl rfl rfl rfl ?_
                    refine zi_iload_n (pc' := 99) rfl rfl rfl ?_
                    refine zi_iload (pc' := 101) rfl rfl rfl ?_
                    refine zi_iast (pc' := 102) rfl rfl rfl o23 ?_
                    replace h := h _ rfl
                    refine zi_aload_n (pc' := 103) rfl rfl rfl ?_
                    refine zi_iload_n (pc' := 104) rfl rfl rfl ?_
                    refine zi_iconst (pc' := 105) rfl rfl ?_
                    refine zi_iadd (pc' := 106) rfl rfl ?_
                    refine zi_puti (pc' := 109) 5 rfl rfl rfl rfl rfl  ?_
                    replace h := h _ rfl
                    refine zi_iinc (pc' := 112) [some _, some _, some _, some _, some _] rfl rfl rfl rfl ?_
                    refine zi_goto (x := 7) rfl ?_
                    exact zi_wk (s_Texts_readWeather_l7_r hd hK29 hK53 hK85 hK115 f h) (And.intro rfl (And.intro rfl (And.intro rfl trivial)))
                  · replace h := h.2 c27
                    exact zi_wk (hK85 _ h) (And.intro rfl (And.intro rfl trivial))
            · replace h := h.2 c30
              exact zi_wk (hK53 _ h) (And.intro rfl (And.intro rfl trivial))
        · replace h := h.2 c32
          exact zi_wk (hK29 _ h) (And.intro rfl (And.intro rfl trivial))
set_option maxRecDepth 100000 in
theorem s_Texts_readWeather_l7 {E : sx_E} {d : Nat} (hd : 4 ≤ d) {K29 : zi_M → Prop} {K53 : zi_M → Prop} {K85 : zi_M → Prop} {K115 : zi_M → Prop} {Q : Int → zi_M → Prop} {l2 : Int} {g : zi_M} (h : ∃ f, w_Texts_readWeather_l7 K29 K53 K85 K115 Q f l2 g) (hK29 : ∀ (g : zi_M), K29 g → zi_W E d 108 29 [some (.ref 195), some (.ref 191), none, none, none] [] g (zi_Qb Q)) (hK53 : ∀ (g : zi_M), K53 g → zi_W E d 108 53 [some (.ref 195), some (.ref 191), none, none, none] [] g (zi_Qb Q)) (hK85 : ∀ (g : zi_M), K85 g → zi_W E d 108 85 [some (.ref 195), some (.ref 191), none, none, none] [] g (zi_Qb Q)) (hK115 : ∀ (g : zi_M), K115 g → zi_W E d 108 115 [some (.ref 195), some (.ref 191), none, none, none] [] g (zi_Qb Q)) : zi_W E d 108 7 [some (.ref 195), some (.ref 191), some (zi_i l2), none, none] [] g (zi_Qb Q) := by
  obtain ⟨f, h⟩ := h
  exact s_Texts_readWeather_l7_r hd hK29 hK53 hK85 hK115 f h
set_option maxRecDepth 100000 in
theorem s_Texts_readWeather {E : sx_E} {d : Nat} (hd : 4 ≤ d) {g : zi_M} {Q : Int → zi_M → Prop} (h : w_Texts_readWeather g Q) : zi_S E d 108 [.ref 195, .ref 191] g (zi_Qb Q) := by
  refine zi_Sof jf_108 [some (.ref 195), some (.ref 191), none, none, none] rfl (And.intro rfl (And.intro rfl trivial)) ?_
  unfold w_Texts_readWeather at h
  refine zi_aload_n (pc' := 1) rfl rfl rfl ?_
  refine zi_iconst (pc' := 2) rfl rfl ?_
  refine zi_puti (pc' := 5) 5 rfl rfl rfl rfl rfl  ?_
  replace h := h _ rfl
  refine zi_iconst (pc' := 6) rfl rfl ?_
  refine zi_istore_n (pc' := 7) [some _, some _, some _, none, none] rfl rfl rfl ?_
  refine zi_wk (s_Texts_readWeather_l7 hd h (fun g35 h => ?_) (fun g36 h => ?_) (fun g37 h => ?_) (fun g38 h => ?_)) (And.intro rfl (And.intro rfl (And.intro rfl trivial)))
  · refine zi_iconst (pc' := 30) rfl rfl ?_
    exact zi_zret rfl rfl (Or.inl rfl) h
  · refine zi_iconst (pc' := 54) rfl rfl ?_
    exact zi_zret rfl rfl (Or.inl rfl) h
  · refine zi_iconst (pc' := 86) rfl rfl ?_
    exact zi_zret rfl rfl (Or.inl rfl) h
  · refine zi_iconst (pc' := 116) rfl rfl ?_
    exact zi_zret rfl rfl (Or.inr rfl) h
-- SpoutNews$Texts.copyWeather(LSpoutNews$Texts;)V
noncomputable def w_Texts_copyWeather (r0 : Nat) (r1 : Nat) (g : zi_M) (Q : Int → zi_M → Prop) : Prop := (∀ g2, g2 = zi_cp g (r1 + 11) 0 (r0 + 11) 0 16 → (∀ g4, g4 = zi_cp g2 (r1 + 12) 0 (r0 + 12) 0 16 → (∀ g5, g5 = zi_u g4 r0 5 (g4 r1 5) → Q 0 g5)))
set_option maxRecDepth 100000 in
theorem s_Texts_copyWeather {E : sx_E} {d : Nat} (hd : 1 ≤ d) {r0 : Nat} (hr0 : zs_sh r0 = some (6, 11)) {r1 : Nat} (hr1 : zs_sh r1 = some (6, 11)) {g : zi_M} {Q : Int → zi_M → Prop} (h : w_Texts_copyWeather r0 r1 g Q) : zi_S E d 109 [.ref r0, .ref r1] g (zi_Qv Q) := by
  refine zi_Sof jf_109 [some (.ref r0), some (.ref r1)] rfl (And.intro rfl (And.intro rfl trivial)) ?_
  unfold w_Texts_copyWeather at h
  refine zi_aload_n (pc' := 1) rfl rfl rfl ?_
  refine zi_getr (pc' := 4) rfl rfl hr1 (zs_f6_3 hr1).1 rfl ?_
  refine zi_iconst (pc' := 5) rfl rfl ?_
  refine zi_aload_n (pc' := 6) rfl rfl rfl ?_
  refine zi_getr (pc' := 9) rfl rfl hr0 (zs_f6_3 hr0).1 rfl ?_
  refine zi_iconst (pc' := 10) rfl rfl ?_
  refine zi_bipush (pc' := 12) rfl rfl (by decide) ?_
  refine zi_copy (pc' := 15) rfl rfl (Nat.le_trans (by decide) hd) rfl (zs_f6_3 hr1).2 (zs_f6_3 hr0).2 (by decide) ?_
  replace h := h _ rfl
  refine zi_aload_n (pc' := 16) rfl rfl rfl ?_
  refine zi_getr (pc' := 19) rfl rfl hr1 (zs_f6_4 hr1).1 rfl ?_
  refine zi_iconst (pc' := 20) rfl rfl ?_
  refine zi_aload_n (pc' := 21) rfl rfl rfl ?_
  refine zi_getr (pc' := 24) rfl rfl hr0 (zs_f6_4 hr0).1 rfl ?_
  refine zi_iconst (pc' := 25) rfl rfl ?_
  refine zi_bipush (pc' := 27) rfl rfl (by decide) ?_
  refine zi_copy (pc' := 30) rfl rfl (Nat.le_trans (by decide) hd) rfl (zs_f6_4 hr1).2 (zs_f6_4 hr0).2 (by decide) ?_
  replace h := h _ rfl
  refine zi_aload_n (pc' := 31) rfl rfl rfl ?_
  refine zi_aload_n (pc' := 32) rfl rfl rfl ?_
  refine zi_geti (pc' := 35) 5 rfl rfl rfl hr1 rfl rfl ?_
  refine zi_puti (pc' := 38) 5 rfl rfl rfl hr0 rfl  ?_
  replace h := h _ rfl
  exact zi_vret rfl rfl h
-- SpoutNews$Texts.readDeed(LSpoutNews$Tokens;LSpoutNews$World;I)Z
noncomputable def w_Texts_readDeed_b92 (l3 : Int) (l4 : Int) (l5 : Int) (l6 : Int) (g : zi_M) (Q : Int → zi_M → Prop) : Prop := ((0 ≤ l3 ∧ l3 < 16) ∧ (∀ g23, g23 = zi_u g 209 l3 l4 → (∀ g24, g24 = zi_u g23 210 l3 l5 → (∀ g25, g25 = zi_u g24 211 l3 l6 → (zi_r l6 ∧ ((l6 = (-1) → Q 0 g25) ∧ (¬ l6 = (-1) → Q 1 g25)))))))
noncomputable def w_Texts_readDeed (l3 : Int) (g : zi_M) (Q : Int → zi_M → Prop) : Prop := w_Tokens_keyword g (fun v1 g2 => (zi_r v1 ∧ ((v1 < 0 → w_Tokens_refuse 1 g2 (fun v5 g6 => Q v5 g6)) ∧ (0 ≤ v1 → ((v1 ≤ 6 → w_Tokens_step g2 (fun _ g9 => w_World_countOfWho 2 v1 g9 (fun v11 g12 => w_Tokens_takeBelow v11 g12 (fun v14 g15 => (zi_r v14 ∧ ((¬ v14 = (-1) → w_World_countOfWhat 2 v1 g15 (fun v18 g19 => (zi_r v18 ∧ ((v18 = (-1) → w_Texts_readDeed_b92 l3 v1 v14 0 g19 Q) ∧ (¬ v18 = (-1) → ((v1 = 6 → w_Tokens_takeBelow v18 g19 (fun v28 g29 => w_Texts_readDeed_b92 l3 v1 v14 v28 g29 Q)) ∧ (¬ v1 = 6 → w_Tokens_take 2 8 g19 (fun v31 g32 => ((¬ v31 = 0 → w_Tokens_takeBelow v18 g32 (fun v34 g35 => w_Texts_readDeed_b92 l3 v1 v14 v34 g35 Q)) ∧ (v31 = 0 → Q 0 g32)))))))))) ∧ (v14 = (-1) → Q 0 g15))))))) ∧ (6 < v1 → w_Tokens_refuse 1 g2 (fun v41 g42 => Q v41 g42)))))))
set_option maxRecDepth 100000 in
theorem s_Texts_readDeed_b92 {E : sx_E} {d : Nat} (hd : 3 ≤ d) {l3 : Int} {l4 : Int} {l5 : Int} {l6 : Int} {Q : Int → zi_M → Prop} {g : zi_M} (h : w_Texts_readDeed_b92 l3 l4 l5 l6 g Q) : zi_W E d 112 92 [some (.ref 195), none, none, some (zi_i l3), some (zi_i l4), some (zi_i l5), some (zi_i l6), none] [] g (zi_Qb Q) := by
  unfold w_Texts_readDeed_b92 at h
  refine zi_aload_n (pc' := 93) rfl rfl rfl ?_
  refine zi_getr (pc' := 96) rfl rfl rfl rfl rfl ?_
  refine zi_iload_n (pc' := 97) rfl rfl rfl ?_
  refine zi_iload (pc' := 99) rfl rfl rfl ?_
  obtain ⟨o22, h⟩ := h
  refine zi_iast (pc' := 100) rfl rfl rfl o22 ?_
  replace h := h _ rfl
  refine zi_aload_n (pc' := 101) rfl rfl rfl ?_
  refine zi_getr (pc' := 104) rfl rfl rfl rfl rfl ?_
  refine zi_iload_n (pc' := 105) rfl rfl rfl ?_
  refine zi_iload (pc' := 107) rfl rfl rfl ?_
  refine zi_iast (pc' := 108) rfl rfl rfl o22 ?_
  replace h := h _ rfl
  refine zi_aload_n (pc' := 109) rfl rfl rfl ?_
  refine zi_getr (pc' := 112) rfl rfl rfl rfl rfl ?_
  refine zi_iload_n (pc' := 113) rfl rfl rfl ?_
  refine zi_iload (pc' := 115) rfl rfl rfl ?_
  refine zi_iast (pc' := 116) rfl rfl rfl o22 ?_
  replace h := h _ rfl
  refine zi_iload (pc' := 118) rfl rfl rfl ?_
  refine zi_iconst (pc' := 119) rfl rfl ?_
  obtain ⟨o26, h⟩ := h
  refine zi_icmp_eq (x := 126) (pc' := 122) rfl rfl o26 (by decide) (fun c27 => ?_) (fun c27 => ?_)
  · replace h := h.1 c27
    refine zi_iconst (pc' := 127) rfl rfl ?_
    exact zi_zret rfl rfl (Or.inl rfl) h
  · replace h := h.2 c27
    refine zi_iconst (pc' := 123) rfl rfl ?_
    refine zi_goto (x := 127) rfl ?_
    exact zi_zret rfl rfl (Or.inr rfl) h
set_option maxRecDepth 100000 in
theorem s_Texts_readDeed {E : sx_E} {d : Nat} (hd : 3 ≤ d) {l3 : Int} {g : zi_M} {Q : Int → zi_M → Prop} (h : w_Texts_readDeed l3 g Q) : zi_S E d 112 [.ref 195, .ref 191, .ref 2, zi_i l3] g (zi_Qb Q) := by
  refine zi_Sof jf_112 [some (.ref 195), some (.ref 191), some (.ref 2), some (zi_i l3), none, none, none, none] rfl (And.intro rfl (And.intro rfl (And.intro rfl (And.intro rfl trivial)))) ?_
  unfold w_Texts_readDeed at h
  refine zi_aload_n (pc' := 1) rfl rfl rfl ?_
  refine zi_callV (d' := 1) (as := []) (pc' := 4) rfl rfl rfl rfl (Nat.lt_of_lt_of_le (by decide) hd) (s_Tokens_keyword (Nat.le_refl _) h) (zi_ki (fun v1 g2 h => ?_))
  refine zi_istore (pc' := 6) [some _, some _, some _, some _, some _, none, none, none] rfl rfl rfl ?_
  refine zi_iload (pc' := 8) rfl rfl rfl ?_
  obtain ⟨o4, h⟩ := h
  refine zi_if_lt (x := 18) (pc' := 11) rfl rfl o4  (fun c45 => ?_) (fun c45 => ?_)
  · replace h := h.1 c45
    refine zi_aload_n (pc' := 19) rfl rfl rfl ?_
    refine zi_iconst (pc' := 20) rfl rfl ?_
    refine zi_callV (d' := 1) (as := [_]) (pc' := 23) rfl rfl rfl rfl (Nat.lt_of_lt_of_le (by decide) hd) (s_Tokens_refuse (Nat.le_refl _) h) (zi_kb (fun v5 g6 b7 h => ?_))
    exact zi_zret rfl rfl b7 h
  · replace h := h.2 c45
    refine zi_iload (pc' := 13) rfl rfl rfl ?_
    refine zi_bipush (pc' := 15) rfl rfl (by decide) ?_
    refine zi_icmp_le (x := 24) (pc' := 18) rfl rfl o4 (by decide) (fun c44 => ?_) (fun c44 => ?_)
    · replace h := h.1 c44
      refine zi_aload_n (pc' := 25) rfl rfl rfl ?_
      refine zi_callV (d' := 1) (as := []) (pc' := 28) rfl rfl rfl rfl (Nat.lt_of_lt_of_le (by decide) hd) (s_Tokens_step (Nat.le_refl _) h) (zi_kv (fun g9 h => ?_))
      refine zi_aload_n (pc' := 29) rfl rfl rfl ?_
      refine zi_aload_n (pc' := 30) rfl rfl rfl ?_
      refine zi_iload (pc' := 32) rfl rfl rfl ?_
      refine zi_callV (d' := 1) (as := [_]) (pc' := 35) rfl rfl rfl rfl (Nat.lt_of_lt_of_le (by decide) hd) (s_World_countOfWho (Nat.le_refl _) rfl h) (zi_ki (fun v11 g12 h => ?_))
      refine zi_callV (d' := 2) (as := [_]) (pc' := 38) rfl rfl rfl rfl (Nat.lt_of_lt_of_le (by decide) hd) (s_Tokens_takeBelow (Nat.le_refl _) h) (zi_ki (fun v14 g15 h => ?_))
      refine zi_istore (pc' := 40) [some _, some _, some _, some _, some _, some _, none, none] rfl rfl rfl ?_
      refine zi_iload (pc' := 42) rfl rfl rfl ?_
      refine zi_iconst (pc' := 43) rfl rfl ?_
      obtain ⟨o17, h⟩ := h
      refine zi_icmp_ne (x := 48) (pc' := 46) rfl rfl o17 (by decide) (fun c40 => ?_) (fun c40 => ?_)
      · replace h := h.1 c40
        refine zi_iconst (pc' := 49) rfl rfl ?_
        refine zi_istore (pc' := 51) [some _, some _, some _, some _, some _, some _, some _, none] rfl rfl rfl ?_
        refine zi_aload_n (pc' := 52) rfl rfl rfl ?_
        refine zi_iload (pc' := 54) rfl rfl rfl ?_
        refine zi_callV (d' := 1) (as := [_]) (pc' := 57) rfl rfl rfl rfl (Nat.lt_of_lt_of_le (by decide) hd) (s_World_countOfWhat (Nat.le_refl _) rfl h) (zi_ki (fun v18 g19 h => ?_))
        refine zi_istore (pc' := 59) [some _, some _, some _, some _, some _, some _, some _, some _] rfl rfl rfl ?_
        refine zi_iload (pc' := 61) rfl rfl rfl ?_
        refine zi_iconst (pc' := 62) rfl rfl ?_
        obtain ⟨o21, h⟩ := h
        refine zi_icmp_eq (x := 92) (pc' := 65) rfl rfl o21 (by decide) (fun c39 => ?_) (fun c39 => ?_)
        · replace h := h.1 c39
          exact zi_wk (s_Texts_readDeed_b92 hd h) (And.intro rfl (And.intro rfl (And.intro rfl (And.intro rfl (And.intro rfl trivial)))))
        · replace h := h.2 c39
          refine zi_iload (pc' := 67) rfl rfl rfl ?_
          refine zi_bipush (pc' := 69) rfl rfl (by decide) ?_
          refine zi_icmp_eq (x := 84) (pc' := 72) rfl rfl o4 (by decide) (fun c38 => ?_) (fun c38 => ?_)
          · replace h := h.1 c38
            refine zi_aload_n (pc' := 85) rfl rfl rfl ?_
            refine zi_iload (pc' := 87) rfl rfl rfl ?_
            refine zi_callV (d' := 2) (as := [_]) (pc' := 90) rfl rfl rfl rfl (Nat.lt_of_lt_of_le (by decide) hd) (s_Tokens_takeBelow (Nat.le_refl _) h) (zi_ki (fun v28 g29 h => ?_))
            refine zi_istore (pc' := 92) [some _, some _, some _, some _, some _, some _, some _, some _] rfl rfl rfl ?_
            exact zi_wk (s_Texts_readDeed_b92 hd h) (And.intro rfl (And.intro rfl (And.intro rfl (And.intro rfl (And.intro rfl trivial)))))
          · replace h := h.2 c38
            refine zi_aload_n (pc' := 73) rfl rfl rfl ?_
            refine zi_iconst (pc' := 74) rfl rfl ?_
            refine zi_bipush (pc' := 76) rfl rfl (by decide) ?_
            refine zi_callV (d' := 2) (as := [_, _]) (pc' := 79) rfl rfl rfl rfl (Nat.lt_of_lt_of_le (by decide) hd) (s_Tokens_take (Nat.le_refl _) h) (zi_kb (fun v31 g32 b33 h => ?_))
            refine zi_if_ne (x := 84) (pc' := 82) rfl rfl (zi_r_bit b33)  (fun c37 => ?_) (fun c37 => ?_)
            · replace h := h.1 c37
              refine zi_aload_n (pc' := 85) rfl rfl rfl ?_
              refine zi_iload (pc' := 87) rfl rfl rfl ?_
              refine zi_callV (d' := 2) (as := [_]) (pc' := 90) rfl rfl rfl rfl (Nat.lt_of_lt_of_le (by decide) hd) (s_Tokens_takeBelow (Nat.le_refl _) h) (zi_ki (fun v34 g35 h => ?_))
              refine zi_istore (pc' := 92) [some _, some _, some _, some _, some _, some _, some _, some _] rfl rfl rfl ?_
              exact zi_wk (s_Texts_readDeed_b92 hd h) (And.intro rfl (And.intro rfl (And.intro rfl (And.intro rfl (And.intro rfl trivial)))))
            · replace h := h.2 c37
              refine zi_iconst (pc' := 83) rfl rfl ?_
              exact zi_zret rfl rfl (Or.inl rfl) h
      · replace h := h.2 c40
        refine zi_iconst (pc' := 47) rfl rfl ?_
        exact zi_zret rfl rfl (Or.inl rfl) h
    · replace h := h.2 c44
      refine zi_aload_n (pc' := 19) rfl rfl rfl ?_
      refine zi_iconst (pc' := 20) rfl rfl ?_
      refine zi_callV (d' := 1) (as := [_]) (pc' := 23) rfl rfl rfl rfl (Nat.lt_of_lt_of_le (by decide) hd) (s_Tokens_refuse (Nat.le_refl _) h) (zi_kb (fun v41 g42 b43 h => ?_))
      exact zi_zret rfl rfl b43 h
-- SpoutNews$Texts.readPlan(LSpoutNews$Tokens;LSpoutNews$World;)Z
noncomputable def w_Texts_readPlan_l7 (K36 : zi_M → Prop) (K73 : zi_M → Prop) (K96 : zi_M → Prop) (Q : Int → zi_M → Prop) : Nat → Int → zi_M → Prop
  | 0, _, _ => False
  | f + 1, l3, g => (zi_r l3 ∧ ((16 < l3 → K96 g) ∧ (l3 ≤ 16 → w_Tokens_isAtEnd g (fun v3 g4 => ((¬ v3 = 0 → K96 g4) ∧ (v3 = 0 → w_Tokens_takeLineStart 7 l3 g4 (fun v6 g7 => ((v6 = 0 → K36 g7) ∧ (¬ v6 = 0 → ((l3 < 16 → w_Tokens_takeBelow 1000 g7 (fun v9 g10 => (zi_r v9 ∧ ((v9 = (-1) → K73 g10) ∧ (¬ v9 = (-1) → w_Texts_readDeed l3 g10 (fun v13 g14 => ((v13 = 0 → K73 g14) ∧ (¬ v13 = 0 → w_Tokens_take 3 59 g14 (fun v16 g17 => ((¬ v16 = 0 → ((0 ≤ l3 ∧ l3 < 16) ∧ (∀ g20, g20 = zi_u g17 208 l3 v9 → (∀ g21, g21 = zi_u g20 195 10 (l3 + 1) → w_Texts_readPlan_l7 K36 K73 K96 Q f (l3 + 1) g21)))) ∧ (v16 = 0 → K73 g17))))))))))) ∧ (16 ≤ l3 → K36 g7)))))))))))
noncomputable def w_Texts_readPlan (g : zi_M) (Q : Int → zi_M → Prop) : Prop := (∀ g1, g1 = zi_u g 195 10 0 → (∃ f32, w_Texts_readPlan_l7 (fun g29 => Q 0 g29) (fun g30 => Q 0 g30) (fun g31 => Q 1 g31) Q f32 0 g1))
set_option maxRecDepth 100000 in
theorem s_Texts_readPlan_l7_r {E : sx_E} {d : Nat} (hd : 4 ≤ d) {K36 : zi_M → Prop} {K73 : zi_M → Prop} {K96 : zi_M → Prop} {Q : Int → zi_M → Prop} (hK36 : ∀ (g : zi_M), K36 g → zi_W E d 111 36 [some (.ref 195), some (.ref 191), some (.ref 2), none, none] [] g (zi_Qb Q)) (hK73 : ∀ (g : zi_M), K73 g → zi_W E d 111 73 [some (.ref 195), some (.ref 191), some (.ref 2), none, none] [] g (zi_Qb Q)) (hK96 : ∀ (g : zi_M), K96 g → zi_W E d 111 96 [some (.ref 195), some (.ref 191), some (.ref 2), none, none] [] g (zi_Qb Q)) : ∀ (f : Nat) {l3 : Int} {g : zi_M}, w_Texts_readPlan_l7 K36 K73 K96 Q f l3 g → zi_W E d 111 7 [some (.ref 195), some (.ref 191), some (.ref 2), some (zi_i l3), none] [] g (zi_Qb Q)
  | 0, _, _, h => False.elim h
  | f + 1, l3, g, h => by
    refine zi_iload_n (pc' := 8) rfl rfl rfl ?_
    refine zi_bipush (pc' := 10) rfl rfl (by decide) ?_
    obtain ⟨o2, h⟩ := h
    refine zi_icmp_gt (x := 96) (pc' := 13) rfl rfl o2 (by decide) (fun c28 => ?_) (fun c28 => ?_)
    · replace h := h.1 c28
      exact zi_wk (hK96 _ h) (And.intro rfl (And.intro rfl (And.intro rfl trivial)))
    · replace h := h.2 c28
      refine zi_aload_n (pc' := 14) rfl rfl rfl ?_
      refine zi_callV (d' := 1) (as := []) (pc' := 17) rfl rfl rfl rfl (Nat.lt_of_lt_of_le (by decide) hd) (s_Tokens_isAtEnd (Nat.le_refl _) h) (zi_kb (fun v3 g4 b5 h => ?_))
      refine zi_if_ne (x := 96) (pc' := 20) rfl rfl (zi_r_bit b5)  (fun c27 => ?_) (fun c27 => ?_)
      · replace h := h.1 c27
        exact zi_wk (hK96 _ h) (And.intro rfl (And.intro rfl (And.intro rfl trivial)))
      · replace h := h.2 c27
        refine zi_aload_n (pc' := 21) rfl rfl rfl ?_
        refine zi_bipush (pc' := 23) rfl rfl (by decide) ?_
        refine zi_iload_n (pc' := 24) rfl rfl rfl ?_
        refine zi_callV (d' := 3) (as := [_, _]) (pc' := 27) rfl rfl rfl rfl (Nat.lt_of_lt_of_le (by decide) hd) (s_Tokens_takeLineStart (Nat.le_refl _) h) (zi_kb (fun v6 g7 b8 h => ?_))
        refine zi_if_eq (x := 36) (pc' := 30) rfl rfl (zi_r_bit b8)  (fun c26 => ?_) (fun c26 => ?_)
        · replace h := h.1 c26
          exact zi_wk (hK36 _ h) (And.intro rfl (And.intro rfl (And.intro rfl trivial)))
        · replace h := h.2 c26
          refine zi_iload_n (pc' := 31) rfl rfl rfl ?_
          refine zi_bipush (pc' := 33) rfl rfl (by decide) ?_
          refine zi_icmp_lt (x := 38) (pc' := 36) rfl rfl o2 (by decide) (fun c25 => ?_) (fun c25 => ?_)
          · replace h := h.1 c25
            refine zi_aload_n (pc' := 39) rfl rfl rfl ?_
            refine zi_sipush (pc' := 42) rfl rfl (by decide) ?_
            refine zi_callV (d' := 2) (as := [_]) (pc' := 45) rfl rfl rfl rfl (Nat.lt_of_lt_of_le (by decide) hd) (s_Tokens_takeBelow (Nat.le_refl _) h) (zi_ki (fun v9 g10 h => ?_))
            refine zi_istore (pc' := 47) [some _, some _, some _, some _, some _] rfl rfl rfl ?_
            refine zi_iload (pc' := 49) rfl rfl rfl ?_
            refine zi_iconst (pc' := 50) rfl rfl ?_
            obtain ⟨o12, h⟩ := h
            refine zi_icmp_eq (x := 73) (pc' := 53) rfl rfl o12 (by decide) (fun c24 => ?_) (fun c24 => ?_)
            · replace h := h.1 c24
              exact zi_wk (hK73 _ h) (And.intro rfl (And.intro rfl (And.intro rfl trivial)))
            · replace h := h.2 c24
              refine zi_aload_n (pc' := 54) rfl rfl rfl ?_
              refine zi_aload_n (pc' := 55) rfl rfl rfl ?_
              refine zi_aload_n (pc' := 56) rfl rfl rfl ?_
              refine zi_iload_n (pc' := 57) rfl rfl rfl ?_
              refine zi_callV (d' := 3) (as := [_, _, _]) (pc' := 60) rfl rfl rfl rfl (Nat.lt_of_lt_of_le (by decide) hd) (s_Texts_readDeed (Nat.le_refl _) h) (zi_kb (fun v13 g14 b15 h => ?_))
              refine zi_if_eq (x := 73) (pc' := 63) rfl rfl (zi_r_bit b15)  (fun c23 => ?_) (fun c23 => ?_)
              · replace h := h.1 c23
                exact zi_wk (hK73 _ h) (And.intro rfl (And.intro rfl (And.intro rfl trivial)))
              · replace h := h.2 c23
                refine zi_aload_n (pc' := 64) rfl rfl rfl ?_
                refine zi_iconst (pc' := 65) rfl rfl ?_
                refine zi_bipush (pc' := 67) rfl rfl (by decide) ?_
                refine zi_callV (d' := 2) (as := [_, _]) (pc' := 70) rfl rfl rfl rfl (Nat.lt_of_lt_of_le (by decide) hd) (s_Tokens_take (Nat.le_refl _) h) (zi_kb (fun v16 g17 b18 h => ?_))
                refine zi_if_ne (x := 75) (pc' := 73) rfl rfl (zi_r_bit b18)  (fun c22 => ?_) (fun c22 => ?_)
                · replace h := h.1 c22
                  refine zi_aload_n (pc' := 76) rfl rfl rfl ?_
                  refine zi_getr (pc' := 79) rfl rfl rfl rfl rfl ?_
                  refine zi_iload_n (pc' := 80) rfl rfl rfl ?_
                  refine zi_iload (pc' := 82) rfl rfl rfl ?_
                  obtain ⟨o19, h⟩ := h
                  refine zi_iast (pc' := 83) rfl rfl rfl o19 ?_
                  replace h := h _ rfl
                  refine zi_aload_n (pc' := 84) rfl rfl rfl ?_
                  refine zi_iload_n (pc' := 85) rfl rfl rfl ?_
                  refine zi_iconst (pc' := 86) rfl rfl ?_
                  refine zi_iadd (pc' := 87) rfl rfl ?_
                  refine zi_puti (pc' := 90) 10 rfl rfl rfl rfl rfl  ?_
                  replace h := h _ rfl
                  refine zi_iinc (pc' := 93) [some _, some _, some _, some _, some _] rfl rfl rfl rfl ?_
                  refine zi_goto (x := 7) rfl ?_
                  exact zi_wk (s_Texts_readPlan_l7_r hd hK36 hK73 hK96 f h) (And.intro rfl (And.intro rfl (And.intro rfl (And.intro rfl trivial))))
                · replace h := h.2 c22
                  exact zi_wk (hK73 _ h) (And.intro rfl (And.intro rfl (And.intro rfl trivial)))
          · replace h := h.2 c25
            exact zi_wk (hK36 _ h) (And.intro rfl (And.intro rfl (And.intro rfl trivial)))
set_option maxRecDepth 100000 in
theorem s_Texts_readPlan_l7 {E : sx_E} {d : Nat} (hd : 4 ≤ d) {K36 : zi_M → Prop} {K73 : zi_M → Prop} {K96 : zi_M → Prop} {Q : Int → zi_M → Prop} {l3 : Int} {g : zi_M} (h : ∃ f, w_Texts_readPlan_l7 K36 K73 K96 Q f l3 g) (hK36 : ∀ (g : zi_M), K36 g → zi_W E d 111 36 [some (.ref 195), some (.ref 191), some (.ref 2), none, none] [] g (zi_Qb Q)) (hK73 : ∀ (g : zi_M), K73 g → zi_W E d 111 73 [some (.ref 195), some (.ref 191), some (.ref 2), none, none] [] g (zi_Qb Q)) (hK96 : ∀ (g : zi_M), K96 g → zi_W E d 111 96 [some (.ref 195), some (.ref 191), some (.ref 2), none, none] [] g (zi_Qb Q)) : zi_W E d 111 7 [some (.ref 195), some (.ref 191), some (.ref 2), some (zi_i l3), none] [] g (zi_Qb Q) := by
  obtain ⟨f, h⟩ := h
  exact s_Texts_readPlan_l7_r hd hK36 hK73 hK96 f h
set_option maxRecDepth 100000 in
theorem s_Texts_readPlan {E : sx_E} {d : Nat} (hd : 4 ≤ d) {g : zi_M} {Q : Int → zi_M → Prop} (h : w_Texts_readPlan g Q) : zi_S E d 111 [.ref 195, .ref 191, .ref 2] g (zi_Qb Q) := by
  refine zi_Sof jf_111 [some (.ref 195), some (.ref 191), some (.ref 2), none, none] rfl (And.intro rfl (And.intro rfl (And.intro rfl trivial))) ?_
  unfold w_Texts_readPlan at h
  refine zi_aload_n (pc' := 1) rfl rfl rfl ?_
  refine zi_iconst (pc' := 2) rfl rfl ?_
  refine zi_puti (pc' := 5) 10 rfl rfl rfl rfl rfl  ?_
  replace h := h _ rfl
  refine zi_iconst (pc' := 6) rfl rfl ?_
  refine zi_istore_n (pc' := 7) [some _, some _, some _, some _, none] rfl rfl rfl ?_
  refine zi_wk (s_Texts_readPlan_l7 hd h (fun g29 h => ?_) (fun g30 h => ?_) (fun g31 h => ?_)) (And.intro rfl (And.intro rfl (And.intro rfl (And.intro rfl trivial))))
  · refine zi_iconst (pc' := 37) rfl rfl ?_
    exact zi_zret rfl rfl (Or.inl rfl) h
  · refine zi_iconst (pc' := 74) rfl rfl ?_
    exact zi_zret rfl rfl (Or.inl rfl) h
  · refine zi_iconst (pc' := 97) rfl rfl ?_
    exact zi_zret rfl rfl (Or.inr rfl) h
-- SpoutNews$Texts.copyPlan(LSpoutNews$Texts;)V
noncomputable def w_Texts_copyPlan (r0 : Nat) (r1 : Nat) (g : zi_M) (Q : Int → zi_M → Prop) : Prop := (∀ g2, g2 = zi_cp g (r1 + 13) 0 (r0 + 13) 0 16 → (∀ g4, g4 = zi_cp g2 (r1 + 14) 0 (r0 + 14) 0 16 → (∀ g6, g6 = zi_cp g4 (r1 + 15) 0 (r0 + 15) 0 16 → (∀ g8, g8 = zi_cp g6 (r1 + 16) 0 (r0 + 16) 0 16 → (∀ g9, g9 = zi_u g8 r0 10 (g8 r1 10) → Q 0 g9)))))
set_option maxRecDepth 100000 in
theorem s_Texts_copyPlan {E : sx_E} {d : Nat} (hd : 1 ≤ d) {r0 : Nat} (hr0 : zs_sh r0 = some (6, 11)) {r1 : Nat} (hr1 : zs_sh r1 = some (6, 11)) {g : zi_M} {Q : Int → zi_M → Prop} (h : w_Texts_copyPlan r0 r1 g Q) : zi_S E d 113 [.ref r0, .ref r1] g (zi_Qv Q) := by
  refine zi_Sof jf_113 [some (.ref r0), some (.ref r1)] rfl (And.intro rfl (And.intro rfl trivial)) ?_
  unfold w_Texts_copyPlan at h
  refine zi_aload_n (pc' := 1) rfl rfl rfl ?_
  refine zi_getr (pc' := 4) rfl rfl hr1 (zs_f6_6 hr1).1 rfl ?_
  refine zi_iconst (pc' := 5) rfl rfl ?_
  refine zi_aload_n (pc' := 6) rfl rfl rfl ?_
  refine zi_getr (pc' := 9) rfl rfl hr0 (zs_f6_6 hr0).1 rfl ?_
  refine zi_iconst (pc' := 10) rfl rfl ?_
  refine zi_bipush (pc' := 12) rfl rfl (by decide) ?_
  refine zi_copy (pc' := 15) rfl rfl (Nat.le_trans (by decide) hd) rfl (zs_f6_6 hr1).2 (zs_f6_6 hr0).2 (by decide) ?_
  replace h := h _ rfl
  refine zi_aload_n (pc' := 16) rfl rfl rfl ?_
  refine zi_getr (pc' := 19) rfl rfl hr1 (zs_f6_7 hr1).1 rfl ?_
  refine zi_iconst (pc' := 20) rfl rfl ?_
  refine zi_aload_n (pc' := 21) rfl rfl rfl ?_
  refine zi_getr (pc' := 24) rfl rfl hr0 (zs_f6_7 hr0).1 rfl ?_
  refine zi_iconst (pc' := 25) rfl rfl ?_
  refine zi_bipush (pc' := 27) rfl rfl (by decide) ?_
  refine zi_copy (pc' := 30) rfl rfl (Nat.le_trans (by decide) hd) rfl (zs_f6_7 hr1).2 (zs_f6_7 hr0).2 (by decide) ?_
  replace h := h _ rfl
  refine zi_aload_n (pc' := 31) rfl rfl rfl ?_
  refine zi_getr (pc' := 34) rfl rfl hr1 (zs_f6_8 hr1).1 rfl ?_
  refine zi_iconst (pc' := 35) rfl rfl ?_
  refine zi_aload_n (pc' := 36) rfl rfl rfl ?_
  refine zi_getr (pc' := 39) rfl rfl hr0 (zs_f6_8 hr0).1 rfl ?_
  refine zi_iconst (pc' := 40) rfl rfl ?_
  refine zi_bipush (pc' := 42) rfl rfl (by decide) ?_
  refine zi_copy (pc' := 45) rfl rfl (Nat.le_trans (by decide) hd) rfl (zs_f6_8 hr1).2 (zs_f6_8 hr0).2 (by decide) ?_
  replace h := h _ rfl
  refine zi_aload_n (pc' := 46) rfl rfl rfl ?_
  refine zi_getr (pc' := 49) rfl rfl hr1 (zs_f6_9 hr1).1 rfl ?_
  refine zi_iconst (pc' := 50) rfl rfl ?_
  refine zi_aload_n (pc' := 51) rfl rfl rfl ?_
  refine zi_getr (pc' := 54) rfl rfl hr0 (zs_f6_9 hr0).1 rfl ?_
  refine zi_iconst (pc' := 55) rfl rfl ?_
  refine zi_bipush (pc' := 57) rfl rfl (by decide) ?_
  refine zi_copy (pc' := 60) rfl rfl (Nat.le_trans (by decide) hd) rfl (zs_f6_9 hr1).2 (zs_f6_9 hr0).2 (by decide) ?_
  replace h := h _ rfl
  refine zi_aload_n (pc' := 61) rfl rfl rfl ?_
  refine zi_aload_n (pc' := 62) rfl rfl rfl ?_
  refine zi_geti (pc' := 65) 10 rfl rfl rfl hr1 rfl rfl ?_
  refine zi_puti (pc' := 68) 10 rfl rfl rfl hr0 rfl  ?_
  replace h := h _ rfl
  exact zi_vret rfl rfl h
-- SpoutNewsModel.takesOther(II)V
noncomputable def w_M_takesOther_l85 (l2 : Int) (K113 : zi_M → Prop) (Q : Int → zi_M → Prop) : Nat → Int → zi_M → Prop
  | 0, _, _ => False
  | f + 1, l3, g => (zi_r l3 ∧ zi_r (4 * l2) ∧ (((4 * l2) ≤ l3 → K113 g) ∧ (l3 < (4 * l2) → ((0 ≤ (64 + l3) ∧ (64 + l3) < 128) ∧ ((0 ≤ l3 ∧ l3 < 128) ∧ (∀ g6, g6 = zi_u g 234 l3 (g 234 (64 + l3)) → w_M_takesOther_l85 l2 K113 Q f (l3 + 1) g6))))))
noncomputable def w_M_takesOther_l47 (l2 : Int) (K75 : zi_M → Prop) (Q : Int → zi_M → Prop) : Nat → Int → zi_M → Prop
  | 0, _, _ => False
  | f + 1, l3, g => (zi_r l3 ∧ zi_r (2 * l2) ∧ (((2 * l2) ≤ l3 → K75 g) ∧ (l3 < (2 * l2) → ((0 ≤ (32 + l3) ∧ (32 + l3) < 64) ∧ ((0 ≤ l3 ∧ l3 < 64) ∧ (∀ g16, g16 = zi_u g 233 l3 (g 233 (32 + l3)) → w_M_takesOther_l47 l2 K75 Q f (l3 + 1) g16))))))
noncomputable def w_M_takesOther_l7 (K34 : zi_M → Prop) (Q : Int → zi_M → Prop) : Nat → Int → zi_M → Prop
  | 0, _, _ => False
  | f + 1, l3, g => (zi_r l3 ∧ ((10 ≤ l3 → K34 g) ∧ (l3 < 10 → ((0 ≤ (10 + l3) ∧ (10 + l3) < 20) ∧ ((0 ≤ l3 ∧ l3 < 20) ∧ (∀ g26, g26 = zi_u g 232 l3 (g 232 (10 + l3)) → w_M_takesOther_l7 K34 Q f (l3 + 1) g26))))))
noncomputable def w_M_takesOther (l1 : Int) (l2 : Int) (g : zi_M) (Q : Int → zi_M → Prop) : Prop := (zi_r l1 ∧ ((¬ l1 = 1 → ((¬ l1 = 2 → (∃ f11, w_M_takesOther_l85 l2 (fun g8 => (∀ g9, g9 = zi_u g8 214 39 l2 → (∀ g10, g10 = zi_u g9 214 3 0 → Q 0 g10))) Q f11 0 g)) ∧ (l1 = 2 → (∃ f21, w_M_takesOther_l47 l2 (fun g18 => (∀ g19, g19 = zi_u g18 214 37 l2 → (∀ g20, g20 = zi_u g19 214 3 0 → Q 0 g20))) Q f21 0 g)))) ∧ (l1 = 1 → (∃ f30, w_M_takesOther_l7 (fun g28 => (∀ g29, g29 = zi_u g28 214 35 l2 → Q 0 g29)) Q f30 0 g))))
set_option maxRecDepth 100000 in
theorem s_M_takesOther_l85_r {E : sx_E} {d : Nat} (hd : 1 ≤ d) {l2 : Int} {K113 : zi_M → Prop} {Q : Int → zi_M → Prop} (hK113 : ∀ (g : zi_M), K113 g → zi_W E d 234 113 [some (.ref 214), none, some (zi_i l2), none] [] g (zi_Qv Q)) : ∀ (f : Nat) {l3 : Int} {g : zi_M}, w_M_takesOther_l85 l2 K113 Q f l3 g → zi_W E d 234 85 [some (.ref 214), none, some (zi_i l2), some (zi_i l3)] [] g (zi_Qv Q)
  | 0, _, _, h => False.elim h
  | f + 1, l3, g, h => by
    refine zi_iload_n (pc' := 86) rfl rfl rfl ?_
    refine zi_iconst (pc' := 87) rfl rfl ?_
    refine zi_iload_n (pc' := 88) rfl rfl rfl ?_
    refine zi_imul (pc' := 89) rfl rfl ?_
    obtain ⟨o2, o3, h⟩ := h
    refine zi_icmp_ge (x := 113) (pc' := 92) rfl rfl o2 o3 (fun c7 => ?_) (fun c7 => ?_)
    · replace h := h.1 c7
      exact zi_wk (hK113 _ h) (And.intro rfl (And.intro rfl trivial))
    · replace h := h.2 c7
      refine zi_aload_n (pc' := 93) rfl rfl rfl ?_
      refine zi_getr (pc' := 96) rfl rfl rfl rfl rfl ?_
      refine zi_iload_n (pc' := 97) rfl rfl rfl ?_
      refine zi_aload_n (pc' := 98) rfl rfl rfl ?_
      refine zi_getr (pc' := 101) rfl rfl rfl rfl rfl ?_
      refine zi_bipush (pc' := 103) rfl rfl (by decide) ?_
      refine zi_iload_n (pc' := 104) rfl rfl rfl ?_
      refine zi_iadd (pc' := 105) rfl rfl ?_
      obtain ⟨o4, h⟩ := h
      refine zi_iald (pc' := 106) rfl rfl rfl o4 ?_
      obtain ⟨o5, h⟩ := h
      refine zi_iast (pc' := 107) rfl rfl rfl o5 ?_
      replace h := h _ rfl
      refine zi_iinc (pc' := 110) [some _, none, some _, some _] rfl rfl rfl rfl ?_
      refine zi_goto (x := 85) rfl ?_
      exact zi_wk (s_M_takesOther_l85_r hd hK113 f h) (And.intro rfl (And.intro rfl (And.intro rfl trivial)))
set_option maxRecDepth 100000 in
theorem s_M_takesOther_l85 {E : sx_E} {d : Nat} (hd : 1 ≤ d) {l2 : Int} {K113 : zi_M → Prop} {Q : Int → zi_M → Prop} {l3 : Int} {g : zi_M} (h : ∃ f, w_M_takesOther_l85 l2 K113 Q f l3 g) (hK113 : ∀ (g : zi_M), K113 g → zi_W E d 234 113 [some (.ref 214), none, some (zi_i l2), none] [] g (zi_Qv Q)) : zi_W E d 234 85 [some (.ref 214), none, some (zi_i l2), some (zi_i l3)] [] g (zi_Qv Q) := by
  obtain ⟨f, h⟩ := h
  exact s_M_takesOther_l85_r hd hK113 f h
set_option maxRecDepth 100000 in
theorem s_M_takesOther_l47_r {E : sx_E} {d : Nat} (hd : 1 ≤ d) {l2 : Int} {K75 : zi_M → Prop} {Q : Int → zi_M → Prop} (hK75 : ∀ (g : zi_M), K75 g → zi_W E d 234 75 [some (.ref 214), none, some (zi_i l2), none] [] g (zi_Qv Q)) : ∀ (f : Nat) {l3 : Int} {g : zi_M}, w_M_takesOther_l47 l2 K75 Q f l3 g → zi_W E d 234 47 [some (.ref 214), none, some (zi_i l2), some (zi_i l3)] [] g (zi_Qv Q)
  | 0, _, _, h => False.elim h
  | f + 1, l3, g, h => by
    refine zi_iload_n (pc' := 48) rfl rfl rfl ?_
    refine zi_iconst (pc' := 49) rfl rfl ?_
    refine zi_iload_n (pc' := 50) rfl rfl rfl ?_
    refine zi_imul (pc' := 51) rfl rfl ?_
    obtain ⟨o12, o13, h⟩ := h
    refine zi_icmp_ge (x := 75) (pc' := 54) rfl rfl o12 o13 (fun c17 => ?_) (fun c17 => ?_)
    · replace h := h.1 c17
      exact zi_wk (hK75 _ h) (And.intro rfl (And.intro rfl trivial))
    · replace h := h.2 c17
      refine zi_aload_n (pc' := 55) rfl rfl rfl ?_
      refine zi_getr (pc' := 58) rfl rfl rfl rfl rfl ?_
      refine zi_iload_n (pc' := 59) rfl rfl rfl ?_
      refine zi_aload_n (pc' := 60) rfl rfl rfl ?_
      refine zi_getr (pc' := 63) rfl rfl rfl rfl rfl ?_
      refine zi_bipush (pc' := 65) rfl rfl (by decide) ?_
      refine zi_iload_n (pc' := 66) rfl rfl rfl ?_
      refine zi_iadd (pc' := 67) rfl rfl ?_
      obtain ⟨o14, h⟩ := h
      refine zi_iald (pc' := 68) rfl rfl rfl o14 ?_
      obtain ⟨o15, h⟩ := h
      refine zi_iast (pc' := 69) rfl rfl rfl o15 ?_
      replace h := h _ rfl
      refine zi_iinc (pc' := 72) [some _, none, some _, some _] rfl rfl rfl rfl ?_
      refine zi_goto (x := 47) rfl ?_
      exact zi_wk (s_M_takesOther_l47_r hd hK75 f h) (And.intro rfl (And.intro rfl (And.intro rfl trivial)))
set_option maxRecDepth 100000 in
theorem s_M_takesOther_l47 {E : sx_E} {d : Nat} (hd : 1 ≤ d) {l2 : Int} {K75 : zi_M → Prop} {Q : Int → zi_M → Prop} {l3 : Int} {g : zi_M} (h : ∃ f, w_M_takesOther_l47 l2 K75 Q f l3 g) (hK75 : ∀ (g : zi_M), K75 g → zi_W E d 234 75 [some (.ref 214), none, some (zi_i l2), none] [] g (zi_Qv Q)) : zi_W E d 234 47 [some (.ref 214), none, some (zi_i l2), some (zi_i l3)] [] g (zi_Qv Q) := by
  obtain ⟨f, h⟩ := h
  exact s_M_takesOther_l47_r hd hK75 f h
set_option maxRecDepth 100000 in
theorem s_M_takesOther_l7_r {E : sx_E} {d : Nat} (hd : 1 ≤ d) {x2 : Int} {K34 : zi_M → Prop} {Q : Int → zi_M → Prop} (hK34 : ∀ (g : zi_M), K34 g → zi_W E d 234 34 [some (.ref 214), none, some (zi_i x2), none] [] g (zi_Qv Q)) : ∀ (f : Nat) {l3 : Int} {g : zi_M}, w_M_takesOther_l7 K34 Q f l3 g → zi_W E d 234 7 [some (.ref 214), none, some (zi_i x2), some (zi_i l3)] [] g (zi_Qv Q)
  | 0, _, _, h => False.elim h
  | f + 1, l3, g, h => by
    refine zi_iload_n (pc' := 8) rfl rfl rfl ?_
    refine zi_bipush (pc' := 10) rfl rfl (by decide) ?_
    obtain ⟨o23, h⟩ := h
    refine zi_icmp_ge (x := 34) (pc' := 13) rfl rfl o23 (by decide) (fun c27 => ?_) (fun c27 => ?_)
    · replace h := h.1 c27
      exact zi_wk (hK34 _ h) (And.intro rfl (And.intro rfl trivial))
    · replace h := h.2 c27
      refine zi_aload_n (pc' := 14) rfl rfl rfl ?_
      refine zi_getr (pc' := 17) rfl rfl rfl rfl rfl ?_
      refine zi_iload_n (pc' := 18) rfl rfl rfl ?_
      refine zi_aload_n (pc' := 19) rfl rfl rfl ?_
      refine zi_getr (pc' := 22) rfl rfl rfl rfl rfl ?_
      refine zi_bipush (pc' := 24) rfl rfl (by decide) ?_
      refine zi_iload_n (pc' := 25) rfl rfl rfl ?_
      refine zi_iadd (pc' := 26) rfl rfl ?_
      obtain ⟨o24, h⟩ := h
      refine zi_iald (pc' := 27) rfl rfl rfl o24 ?_
      obtain ⟨o25, h⟩ := h
      refine zi_iast (pc' := 28) rfl rfl rfl o25 ?_
      replace h := h _ rfl
      refine zi_iinc (pc' := 31) [some _, none, some _, some _] rfl rfl rfl rfl ?_
      refine zi_goto (x := 7) rfl ?_
      exact zi_wk (s_M_takesOther_l7_r hd hK34 f h) (And.intro rfl (And.intro rfl (And.intro rfl trivial)))
set_option maxRecDepth 100000 in
theorem s_M_takesOther_l7 {E : sx_E} {d : Nat} (hd : 1 ≤ d) {x2 : Int} {K34 : zi_M → Prop} {Q : Int → zi_M → Prop} {l3 : Int} {g : zi_M} (h : ∃ f, w_M_takesOther_l7 K34 Q f l3 g) (hK34 : ∀ (g : zi_M), K34 g → zi_W E d 234 34 [some (.ref 214), none, some (zi_i x2), none] [] g (zi_Qv Q)) : zi_W E d 234 7 [some (.ref 214), none, some (zi_i x2), some (zi_i l3)] [] g (zi_Qv Q) := by
  obtain ⟨f, h⟩ := h
  exact s_M_takesOther_l7_r hd hK34 f h
set_option maxRecDepth 100000 in
theorem s_M_takesOther {E : sx_E} {d : Nat} (hd : 1 ≤ d) {l1 : Int} {l2 : Int} {g : zi_M} {Q : Int → zi_M → Prop} (h : w_M_takesOther l1 l2 g Q) : zi_S E d 234 [.ref 214, zi_i l1, zi_i l2] g (zi_Qv Q) := by
  refine zi_Sof jf_234 [some (.ref 214), some (zi_i l1), some (zi_i l2), none] rfl (And.intro rfl (And.intro rfl (And.intro rfl trivial))) ?_
  unfold w_M_takesOther at h
  refine zi_iload_n (pc' := 1) rfl rfl rfl ?_
  refine zi_iconst (pc' := 2) rfl rfl ?_
  obtain ⟨o1, h⟩ := h
  refine zi_icmp_ne (x := 40) (pc' := 5) rfl rfl o1 (by decide) (fun c31 => ?_) (fun c31 => ?_)
  · replace h := h.1 c31
    refine zi_iload_n (pc' := 41) rfl rfl rfl ?_
    refine zi_iconst (pc' := 42) rfl rfl ?_
    refine zi_icmp_ne (x := 83) (pc' := 45) rfl rfl o1 (by decide) (fun c22 => ?_) (fun c22 => ?_)
    · replace h := h.1 c22
      refine zi_iconst (pc' := 84) rfl rfl ?_
      refine zi_istore_n (pc' := 85) [some _, some _, some _, some _] rfl rfl rfl ?_
      refine zi_wk (s_M_takesOther_l85 hd h (fun g8 h => ?_)) (And.intro rfl (And.intro rfl (And.intro rfl trivial)))
      refine zi_aload_n (pc' := 114) rfl rfl rfl ?_
      refine zi_iload_n (pc' := 115) rfl rfl rfl ?_
      refine zi_puti (pc' := 118) 39 rfl rfl rfl rfl rfl  ?_
      replace h := h _ rfl
      refine zi_aload_n (pc' := 119) rfl rfl rfl ?_
      refine zi_iconst (pc' := 120) rfl rfl ?_
      refine zi_puti (pc' := 123) 3 rfl rfl rfl rfl rfl  ?_
      replace h := h _ rfl
      exact zi_vret rfl rfl h
    · replace h := h.2 c22
      refine zi_iconst (pc' := 46) rfl rfl ?_
      refine zi_istore_n (pc' := 47) [some _, some _, some _, some _] rfl rfl rfl ?_
      refine zi_wk (s_M_takesOther_l47 hd h (fun g18 h => ?_)) (And.intro rfl (And.intro rfl (And.intro rfl trivial)))
      refine zi_aload_n (pc' := 76) rfl rfl rfl ?_
      refine zi_iload_n (pc' := 77) rfl rfl rfl ?_
      refine zi_puti (pc' := 80) 37 rfl rfl rfl rfl rfl  ?_
      replace h := h _ rfl
      refine zi_goto (x := 118) rfl ?_
      refine zi_aload_n (pc' := 119) rfl rfl rfl ?_
      refine zi_iconst (pc' := 120) rfl rfl ?_
      refine zi_puti (pc' := 123) 3 rfl rfl rfl rfl rfl  ?_
      replace h := h _ rfl
      exact zi_vret rfl rfl h
  · replace h := h.2 c31
    refine zi_iconst (pc' := 6) rfl rfl ?_
    refine zi_istore_n (pc' := 7) [some _, some _, some _, some _] rfl rfl rfl ?_
    refine zi_wk (s_M_takesOther_l7 hd h (fun g28 h => ?_)) (And.intro rfl (And.intro rfl (And.intro rfl trivial)))
    refine zi_aload_n (pc' := 35) rfl rfl rfl ?_
    refine zi_iload_n (pc' := 36) rfl rfl rfl ?_
    refine zi_puti (pc' := 39) 35 rfl rfl rfl rfl rfl  ?_
    replace h := h _ rfl
    exact zi_vret rfl rfl h
-- SpoutNewsModel.takesLaw(I)V
noncomputable def w_M_takesLaw_l2 (l1 : Int) (K105 : zi_M → Prop) (Q : Int → zi_M → Prop) : Nat → Int → zi_M → Prop
  | 0, _, _ => False
  | f + 1, l2, g => (zi_r l2 ∧ zi_r l1 ∧ ((l1 ≤ l2 → K105 g) ∧ (l2 < l1 → ((0 ≤ (32 + l2) ∧ (32 + l2) < 48) ∧ ((0 ≤ ((16 * (g 214 26)) + l2) ∧ ((16 * (g 214 26)) + l2) < 48) ∧ (∀ g5, g5 = zi_u g 225 ((16 * (g 214 26)) + l2) (g 225 (32 + l2)) → ((0 ≤ ((16 * (g5 214 26)) + l2) ∧ ((16 * (g5 214 26)) + l2) < 48) ∧ (∀ g7, g7 = zi_u g5 226 ((16 * (g5 214 26)) + l2) (g5 226 (32 + l2)) → ((0 ≤ ((16 * (g7 214 26)) + l2) ∧ ((16 * (g7 214 26)) + l2) < 48) ∧ (∀ g9, g9 = zi_u g7 227 ((16 * (g7 214 26)) + l2) (g7 227 (32 + l2)) → ((0 ≤ ((16 * (g9 214 26)) + l2) ∧ ((16 * (g9 214 26)) + l2) < 48) ∧ (∀ g11, g11 = zi_u g9 228 ((16 * (g9 214 26)) + l2) (g9 228 (32 + l2)) → w_M_takesLaw_l2 l1 K105 Q f (l2 + 1) g11))))))))))))
noncomputable def w_M_takesLaw_l107 (K171 : zi_M → Prop) (Q : Int → zi_M → Prop) : Nat → Int → zi_M → Prop
  | 0, _, _ => False
  | f + 1, l2, g => (zi_r l2 ∧ zi_r (g 214 27) ∧ (((g 214 27) ≤ l2 → K171 g) ∧ (l2 < (g 214 27) → ((0 ≤ (800 + l2) ∧ (800 + l2) < 1200) ∧ ((0 ≤ ((400 * (g 214 26)) + l2) ∧ ((400 * (g 214 26)) + l2) < 1200) ∧ (∀ g18, g18 = zi_u g 229 ((400 * (g 214 26)) + l2) (g 229 (800 + l2)) → ((0 ≤ ((400 * (g18 214 26)) + l2) ∧ ((400 * (g18 214 26)) + l2) < 1200) ∧ (∀ g20, g20 = zi_u g18 230 ((400 * (g18 214 26)) + l2) (g18 230 (800 + l2)) → w_M_takesLaw_l107 K171 Q f (l2 + 1) g20))))))))
noncomputable def w_M_takesLaw (l1 : Int) (g : zi_M) (Q : Int → zi_M → Prop) : Prop := (∃ f26, w_M_takesLaw_l2 l1 (fun g13 => (∃ f25, w_M_takesLaw_l107 (fun g22 => ((0 ≤ (g22 214 26) ∧ (g22 214 26) < 2) ∧ (∀ g24, g24 = zi_u g22 224 (g22 214 26) l1 → Q 0 g24))) Q f25 0 g13)) Q f26 0 g)
set_option maxRecDepth 100000 in
theorem s_M_takesLaw_l2_r {E : sx_E} {d : Nat} (hd : 1 ≤ d) {l1 : Int} {K105 : zi_M → Prop} {Q : Int → zi_M → Prop} (hK105 : ∀ (g : zi_M), K105 g → zi_W E d 233 105 [some (.ref 214), some (zi_i l1), none] [] g (zi_Qv Q)) : ∀ (f : Nat) {l2 : Int} {g : zi_M}, w_M_takesLaw_l2 l1 K105 Q f l2 g → zi_W E d 233 2 [some (.ref 214), some (zi_i l1), some (zi_i l2)] [] g (zi_Qv Q)
  | 0, _, _, h => False.elim h
  | f + 1, l2, g, h => by
    refine zi_iload_n (pc' := 3) rfl rfl rfl ?_
    refine zi_iload_n (pc' := 4) rfl rfl rfl ?_
    obtain ⟨o1, o2, h⟩ := h
    refine zi_icmp_ge (x := 105) (pc' := 7) rfl rfl o1 o2 (fun c12 => ?_) (fun c12 => ?_)
    · replace h := h.1 c12
      exact zi_wk (hK105 _ h) (And.intro rfl (And.intro rfl trivial))
    · replace h := h.2 c12
      refine zi_aload_n (pc' := 8) rfl rfl rfl ?_
      refine zi_getr (pc' := 11) rfl rfl rfl rfl rfl ?_
      refine zi_bipush (pc' := 13) rfl rfl (by decide) ?_
      refine zi_aload_n (pc' := 14) rfl rfl rfl ?_
      refine zi_geti (pc' := 17) 26 rfl rfl rfl rfl rfl rfl ?_
      refine zi_imul (pc' := 18) rfl rfl ?_
      refine zi_iload_n (pc' := 19) rfl rfl rfl ?_
      refine zi_iadd (pc' := 20) rfl rfl ?_
      refine zi_aload_n (pc' := 21) rfl rfl rfl ?_
      refine zi_getr (pc' := 24) rfl rfl rfl rfl rfl ?_
      refine zi_bipush (pc' := 26) rfl rfl (by decide) ?_
      refine zi_iload_n (pc' := 27) rfl rfl rfl ?_
      refine zi_iadd (pc' := 28) rfl rfl ?_
      obtain ⟨o3, h⟩ := h
      refine zi_iald (pc' := 29) rfl rfl rfl o3 ?_
      obtain ⟨o4, h⟩ := h
      refine zi_iast (pc' := 30) rfl rfl rfl o4 ?_
      replace h := h _ rfl
      refine zi_aload_n (pc' := 31) rfl rfl rfl ?_
      refine zi_getr (pc' := 34) rfl rfl rfl rfl rfl ?_
      refine zi_bipush (pc' := 36) rfl rfl (by decide) ?_
      refine zi_aload_n (pc' := 37) rfl rfl rfl ?_
      refine zi_geti (pc' := 40) 26 rfl rfl rfl rfl rfl rfl ?_
      refine zi_imul (pc' := 41) rfl rfl ?_
      refine zi_iload_n (pc' := 42) rfl rfl rfl ?_
      refine zi_iadd (pc' := 43) rfl rfl ?_
      refine zi_aload_n (pc' := 44) rfl rfl rfl ?_
      refine zi_getr (pc' := 47) rfl rfl rfl rfl rfl ?_
      refine zi_bipush (pc' := 49) rfl rfl (by decide) ?_
      refine zi_iload_n (pc' := 50) rfl rfl rfl ?_
      refine zi_iadd (pc' := 51) rfl rfl ?_
      refine zi_iald (pc' := 52) rfl rfl rfl o3 ?_
      obtain ⟨o6, h⟩ := h
      refine zi_iast (pc' := 53) rfl rfl rfl o6 ?_
      replace h := h _ rfl
      refine zi_aload_n (pc' := 54) rfl rfl rfl ?_
      refine zi_getr (pc' := 57) rfl rfl rfl rfl rfl ?_
      refine zi_bipush (pc' := 59) rfl rfl (by decide) ?_
      refine zi_aload_n (pc' := 60) rfl rfl rfl ?_
      refine zi_geti (pc' := 63) 26 rfl rfl rfl rfl rfl rfl ?_
      refine zi_imul (pc' := 64) rfl rfl ?_
      refine zi_iload_n (pc' := 65) rfl rfl rfl ?_
      refine zi_iadd (pc' := 66) rfl rfl ?_
      refine zi_aload_n (pc' := 67) rfl rfl rfl ?_
      refine zi_getr (pc' := 70) rfl rfl rfl rfl rfl ?_
      refine zi_bipush (pc' := 72) rfl rfl (by decide) ?_
      refine zi_iload_n (pc' := 73) rfl rfl rfl ?_
      refine zi_iadd (pc' := 74) rfl rfl ?_
      refine zi_iald (pc' := 75) rfl rfl rfl o3 ?_
      obtain ⟨o8, h⟩ := h
      refine zi_iast (pc' := 76) rfl rfl rfl o8 ?_
      replace h := h _ rfl
      refine zi_aload_n (pc' := 77) rfl rfl rfl ?_
      refine zi_getr (pc' := 80) rfl rfl rfl rfl rfl ?_
      refine zi_bipush (pc' := 82) rfl rfl (by decide) ?_
      refine zi_aload_n (pc' := 83) rfl rfl rfl ?_
      refine zi_geti (pc' := 86) 26 rfl rfl rfl rfl rfl rfl ?_
      refine zi_imul (pc' := 87) rfl rfl ?_
      refine zi_iload_n (pc' := 88) rfl rfl rfl ?_
      refine zi_iadd (pc' := 89) rfl rfl ?_
      refine zi_aload_n (pc' := 90) rfl rfl rfl ?_
      refine zi_getr (pc' := 93) rfl rfl rfl rfl rfl ?_
      refine zi_bipush (pc' := 95) rfl rfl (by decide) ?_
      refine zi_iload_n (pc' := 96) rfl rfl rfl ?_
      refine zi_iadd (pc' := 97) rfl rfl ?_
      refine zi_iald (pc' := 98) rfl rfl rfl o3 ?_
      obtain ⟨o10, h⟩ := h
      refine zi_iast (pc' := 99) rfl rfl rfl o10 ?_
      replace h := h _ rfl
      refine zi_iinc (pc' := 102) [some _, some _, some _] rfl rfl rfl rfl ?_
      refine zi_goto (x := 2) rfl ?_
      exact zi_wk (s_M_takesLaw_l2_r hd hK105 f h) (And.intro rfl (And.intro rfl (And.intro rfl trivial)))
set_option maxRecDepth 100000 in
theorem s_M_takesLaw_l2 {E : sx_E} {d : Nat} (hd : 1 ≤ d) {l1 : Int} {K105 : zi_M → Prop} {Q : Int → zi_M → Prop} {l2 : Int} {g : zi_M} (h : ∃ f, w_M_takesLaw_l2 l1 K105 Q f l2 g) (hK105 : ∀ (g : zi_M), K105 g → zi_W E d 233 105 [some (.ref 214), some (zi_i l1), none] [] g (zi_Qv Q)) : zi_W E d 233 2 [some (.ref 214), some (zi_i l1), some (zi_i l2)] [] g (zi_Qv Q) := by
  obtain ⟨f, h⟩ := h
  exact s_M_takesLaw_l2_r hd hK105 f h
set_option maxRecDepth 100000 in
theorem s_M_takesLaw_l107_r {E : sx_E} {d : Nat} (hd : 1 ≤ d) {x1 : Int} {K171 : zi_M → Prop} {Q : Int → zi_M → Prop} (hK171 : ∀ (g : zi_M), K171 g → zi_W E d 233 171 [some (.ref 214), some (zi_i x1), none] [] g (zi_Qv Q)) : ∀ (f : Nat) {l2 : Int} {g : zi_M}, w_M_takesLaw_l107 K171 Q f l2 g → zi_W E d 233 107 [some (.ref 214), some (zi_i x1), some (zi_i l2)] [] g (zi_Qv Q)
  | 0, _, _, h => False.elim h
  | f + 1, l2, g, h => by
    refine zi_iload_n (pc' := 108) rfl rfl rfl ?_
    refine zi_aload_n (pc' := 109) rfl rfl rfl ?_
    refine zi_geti (pc' := 112) 27 rfl rfl rfl rfl rfl rfl ?_
    obtain ⟨o14, o15, h⟩ := h
    refine zi_icmp_ge (x := 171) (pc' := 115) rfl rfl o14 o15 (fun c21 => ?_) (fun c21 => ?_)
    · replace h := h.1 c21
      exact zi_wk (hK171 _ h) (And.intro rfl (And.intro rfl trivial))
    · replace h := h.2 c21
      refine zi_aload_n (pc' := 116) rfl rfl rfl ?_
      refine zi_getr (pc' := 119) rfl rfl rfl rfl rfl ?_
      refine zi_sipush (pc' := 122) rfl rfl (by decide) ?_
      refine zi_aload_n (pc' := 123) rfl rfl rfl ?_
      refine zi_geti (pc' := 126) 26 rfl rfl rfl rfl rfl rfl ?_
      refine zi_imul (pc' := 127) rfl rfl ?_
      refine zi_iload_n (pc' := 128) rfl rfl rfl ?_
      refine zi_iadd (pc' := 129) rfl rfl ?_
      refine zi_aload_n (pc' := 130) rfl rfl rfl ?_
      refine zi_getr (pc' := 133) rfl rfl rfl rfl rfl ?_
      refine zi_sipush (pc' := 136) rfl rfl (by decide) ?_
      refine zi_iload_n (pc' := 137) rfl rfl rfl ?_
      refine zi_iadd (pc' := 138) rfl rfl ?_
      obtain ⟨o16, h⟩ := h
      refine zi_iald (pc' := 139) rfl rfl rfl o16 ?_
      obtain ⟨o17, h⟩ := h
      refine zi_iast (pc' := 140) rfl rfl rfl o17 ?_
      replace h := h _ rfl
      refine zi_aload_n (pc' := 141) rfl rfl rfl ?_
      refine zi_getr (pc' := 144) rfl rfl rfl rfl rfl ?_
      refine zi_sipush (pc' := 147) rfl rfl (by decide) ?_
      refine zi_aload_n (pc' := 148) rfl rfl rfl ?_
      refine zi_geti (pc' := 151) 26 rfl rfl rfl rfl rfl rfl ?_
      refine zi_imul (pc' := 152) rfl rfl ?_
      refine zi_iload_n (pc' := 153) rfl rfl rfl ?_
      refine zi_iadd (pc' := 154) rfl rfl ?_
      refine zi_aload_n (pc' := 155) rfl rfl rfl ?_
      refine zi_getr (pc' := 158) rfl rfl rfl rfl rfl ?_
      refine zi_sipush (pc' := 161) rfl rfl (by decide) ?_
      refine zi_iload_n (pc' := 162) rfl rfl rfl ?_
      refine zi_iadd (pc' := 163) rfl rfl ?_
      refine zi_iald (pc' := 164) rfl rfl rfl o16 ?_
      obtain ⟨o19, h⟩ := h
      refine zi_iast (pc' := 165) rfl rfl rfl o19 ?_
      replace h := h _ rfl
      refine zi_iinc (pc' := 168) [some _, some _, some _] rfl rfl rfl rfl ?_
      refine zi_goto (x := 107) rfl ?_
      exact zi_wk (s_M_takesLaw_l107_r hd hK171 f h) (And.intro rfl (And.intro rfl (And.intro rfl trivial)))
set_option maxRecDepth 100000 in
theorem s_M_takesLaw_l107 {E : sx_E} {d : Nat} (hd : 1 ≤ d) {x1 : Int} {K171 : zi_M → Prop} {Q : Int → zi_M → Prop} {l2 : Int} {g : zi_M} (h : ∃ f, w_M_takesLaw_l107 K171 Q f l2 g) (hK171 : ∀ (g : zi_M), K171 g → zi_W E d 233 171 [some (.ref 214), some (zi_i x1), none] [] g (zi_Qv Q)) : zi_W E d 233 107 [some (.ref 214), some (zi_i x1), some (zi_i l2)] [] g (zi_Qv Q) := by
  obtain ⟨f, h⟩ := h
  exact s_M_takesLaw_l107_r hd hK171 f h
set_option maxRecDepth 100000 in
theorem s_M_takesLaw {E : sx_E} {d : Nat} (hd : 1 ≤ d) {l1 : Int} {g : zi_M} {Q : Int → zi_M → Prop} (h : w_M_takesLaw l1 g Q) : zi_S E d 233 [.ref 214, zi_i l1] g (zi_Qv Q) := by
  refine zi_Sof jf_233 [some (.ref 214), some (zi_i l1), none] rfl (And.intro rfl (And.intro rfl trivial)) ?_
  unfold w_M_takesLaw at h
  refine zi_iconst (pc' := 1) rfl rfl ?_
  refine zi_istore_n (pc' := 2) [some _, some _, some _] rfl rfl rfl ?_
  refine zi_wk (s_M_takesLaw_l2 hd h (fun g13 h => ?_)) (And.intro rfl (And.intro rfl (And.intro rfl trivial)))
  refine zi_iconst (pc' := 106) rfl rfl ?_
  refine zi_istore_n (pc' := 107) [some _, some _, some _] rfl rfl rfl ?_
  refine zi_wk (s_M_takesLaw_l107 hd h (fun g22 h => ?_)) (And.intro rfl (And.intro rfl (And.intro rfl trivial)))
  refine zi_aload_n (pc' := 172) rfl rfl rfl ?_
  refine zi_getr (pc' := 175) rfl rfl rfl rfl rfl ?_
  refine zi_aload_n (pc' := 176) rfl rfl rfl ?_
  refine zi_geti (pc' := 179) 26 rfl rfl rfl rfl rfl rfl ?_
  refine zi_iload_n (pc' := 180) rfl rfl rfl ?_
  obtain ⟨o23, h⟩ := h
  refine zi_iast (pc' := 181) rfl rfl rfl o23 ?_
  replace h := h _ rfl
  exact zi_vret rfl rfl h
-- SpoutNewsModel.raw(I)I
noncomputable def w_M_raw (l1 : Int) (g : zi_M) (Q : Int → zi_M → Prop) : Prop := (zi_r l1 ∧ zi_r (g 214 13) ∧ (((g 214 13) ≤ l1 → Q (-1) g) ∧ (l1 < (g 214 13) → ((0 ≤ l1 ∧ l1 < 400) ∧ Q (g 222 l1) g))))
set_option maxRecDepth 100000 in
theorem s_M_raw {E : sx_E} {d : Nat} (hd : 1 ≤ d) {l1 : Int} {g : zi_M} {Q : Int → zi_M → Prop} (h : w_M_raw l1 g Q) : zi_S E d 204 [.ref 214, zi_i l1] g (zi_Q Q) := by
  refine zi_Sof jf_204 [some (.ref 214), some (zi_i l1)] rfl (And.intro rfl (And.intro rfl trivial)) ?_
  unfold w_M_raw at h
  refine zi_iload_n (pc' := 1) rfl rfl rfl ?_
  refine zi_aload_n (pc' := 2) rfl rfl rfl ?_
  refine zi_geti (pc' := 5) 13 rfl rfl rfl rfl rfl rfl ?_
  obtain ⟨o1, o2, h⟩ := h
  refine zi_icmp_ge (x := 17) (pc' := 8) rfl rfl o1 o2 (fun c4 => ?_) (fun c4 => ?_)
  · replace h := h.1 c4
    refine zi_iconst (pc' := 18) rfl rfl ?_
    exact zi_iret rfl rfl h
  · replace h := h.2 c4
    refine zi_aload_n (pc' := 9) rfl rfl rfl ?_
    refine zi_getr (pc' := 12) rfl rfl rfl rfl rfl ?_
    refine zi_iload_n (pc' := 13) rfl rfl rfl ?_
    obtain ⟨o3, h⟩ := h
    refine zi_iald (pc' := 14) rfl rfl rfl o3 ?_
    refine zi_goto (x := 18) rfl ?_
    exact zi_iret rfl rfl h
-- SpoutNewsModel.isLetter(I)Z
noncomputable def w_M_isLetter (l1 : Int) (g : zi_M) (Q : Int → zi_M → Prop) : Prop := w_M_isIn l1 97 122 g (fun v1 g2 => ((¬ v1 = 0 → Q 1 g2) ∧ (v1 = 0 → w_M_isIn l1 65 90 g2 (fun v4 g5 => ((v4 = 0 → Q 0 g5) ∧ (¬ v4 = 0 → Q 1 g5))))))
set_option maxRecDepth 100000 in
theorem s_M_isLetter {E : sx_E} {d : Nat} (hd : 2 ≤ d) {l1 : Int} {g : zi_M} {Q : Int → zi_M → Prop} (h : w_M_isLetter l1 g Q) : zi_S E d 205 [.ref 214, zi_i l1] g (zi_Qb Q) := by
  refine zi_Sof jf_205 [some (.ref 214), some (zi_i l1)] rfl (And.intro rfl (And.intro rfl trivial)) ?_
  unfold w_M_isLetter at h
  refine zi_aload_n (pc' := 1) rfl rfl rfl ?_
  refine zi_iload_n (pc' := 2) rfl rfl rfl ?_
  refine zi_bipush (pc' := 4) rfl rfl (by decide) ?_
  refine zi_bipush (pc' := 6) rfl rfl (by decide) ?_
  refine zi_callV (d' := 1) (as := [_, _, _]) (pc' := 9) rfl rfl rfl rfl (Nat.lt_of_lt_of_le (by decide) hd) (s_M_isIn (Nat.le_refl _) h) (zi_kb (fun v1 g2 b3 h => ?_))
  refine zi_if_ne (x := 24) (pc' := 12) rfl rfl (zi_r_bit b3)  (fun c8 => ?_) (fun c8 => ?_)
  · replace h := h.1 c8
    refine zi_iconst (pc' := 25) rfl rfl ?_
    refine zi_goto (x := 29) rfl ?_
    exact zi_zret rfl rfl (Or.inr rfl) h
  · replace h := h.2 c8
    refine zi_aload_n (pc' := 13) rfl rfl rfl ?_
    refine zi_iload_n (pc' := 14) rfl rfl rfl ?_
    refine zi_bipush (pc' := 16) rfl rfl (by decide) ?_
    refine zi_bipush (pc' := 18) rfl rfl (by decide) ?_
    refine zi_callV (d' := 1) (as := [_, _, _]) (pc' := 21) rfl rfl rfl rfl (Nat.lt_of_lt_of_le (by decide) hd) (s_M_isIn (Nat.le_refl _) h) (zi_kb (fun v4 g5 b6 h => ?_))
    refine zi_if_eq (x := 28) (pc' := 24) rfl rfl (zi_r_bit b6)  (fun c7 => ?_) (fun c7 => ?_)
    · replace h := h.1 c7
      refine zi_iconst (pc' := 29) rfl rfl ?_
      exact zi_zret rfl rfl (Or.inl rfl) h
    · replace h := h.2 c7
      refine zi_iconst (pc' := 25) rfl rfl ?_
      refine zi_goto (x := 29) rfl ?_
      exact zi_zret rfl rfl (Or.inr rfl) h
-- SpoutNewsModel.isDigit(I)Z
noncomputable def w_M_isDigit (l1 : Int) (g : zi_M) (Q : Int → zi_M → Prop) : Prop := w_M_isIn l1 48 57 g (fun v1 g2 => Q v1 g2)
set_option maxRecDepth 100000 in
theorem s_M_isDigit {E : sx_E} {d : Nat} (hd : 2 ≤ d) {l1 : Int} {g : zi_M} {Q : Int → zi_M → Prop} (h : w_M_isDigit l1 g Q) : zi_S E d 207 [.ref 214, zi_i l1] g (zi_Qb Q) := by
  refine zi_Sof jf_207 [some (.ref 214), some (zi_i l1)] rfl (And.intro rfl (And.intro rfl trivial)) ?_
  unfold w_M_isDigit at h
  refine zi_aload_n (pc' := 1) rfl rfl rfl ?_
  refine zi_iload_n (pc' := 2) rfl rfl rfl ?_
  refine zi_bipush (pc' := 4) rfl rfl (by decide) ?_
  refine zi_bipush (pc' := 6) rfl rfl (by decide) ?_
  refine zi_callV (d' := 1) (as := [_, _, _]) (pc' := 9) rfl rfl rfl rfl (Nat.lt_of_lt_of_le (by decide) hd) (s_M_isIn (Nat.le_refl _) h) (zi_kb (fun v1 g2 b3 h => ?_))
  exact zi_zret rfl rfl b3 h
-- SpoutNewsModel.isMarkSign(I)Z
noncomputable def w_M_isMarkSign (l1 : Int) (g : zi_M) (Q : Int → zi_M → Prop) : Prop := (zi_r l1 ∧ ((l1 = 59 → Q 1 g) ∧ (¬ l1 = 59 → ((l1 = 43 → Q 1 g) ∧ (¬ l1 = 43 → ((l1 = 45 → Q 1 g) ∧ (¬ l1 = 45 → ((l1 = 42 → Q 1 g) ∧ (¬ l1 = 42 → ((l1 = 47 → Q 1 g) ∧ (¬ l1 = 47 → ((l1 = 40 → Q 1 g) ∧ (¬ l1 = 40 → ((l1 = 41 → Q 1 g) ∧ (¬ l1 = 41 → ((l1 = 60 → Q 1 g) ∧ (¬ l1 = 60 → ((l1 = 61 → Q 1 g) ∧ (¬ l1 = 61 → ((¬ l1 = 62 → Q 0 g) ∧ (l1 = 62 → Q 1 g)))))))))))))))))))))
set_option maxRecDepth 100000 in
theorem s_M_isMarkSign {E : sx_E} {d : Nat} (hd : 1 ≤ d) {l1 : Int} {g : zi_M} {Q : Int → zi_M → Prop} (h : w_M_isMarkSign l1 g Q) : zi_S E d 208 [.ref 214, zi_i l1] g (zi_Qb Q) := by
  refine zi_Sof jf_208 [some (.ref 214), some (zi_i l1)] rfl (And.intro rfl (And.intro rfl trivial)) ?_
  unfold w_M_isMarkSign at h
  refine zi_iload_n (pc' := 1) rfl rfl rfl ?_
  refine zi_bipush (pc' := 3) rfl rfl (by decide) ?_
  obtain ⟨o1, h⟩ := h
  refine zi_icmp_eq (x := 60) (pc' := 6) rfl rfl o1 (by decide) (fun c11 => ?_) (fun c11 => ?_)
  · replace h := h.1 c11
    refine zi_iconst (pc' := 61) rfl rfl ?_
    refine zi_goto (x := 65) rfl ?_
    exact zi_zret rfl rfl (Or.inr rfl) h
  · replace h := h.2 c11
    refine zi_iload_n (pc' := 7) rfl rfl rfl ?_
    refine zi_bipush (pc' := 9) rfl rfl (by decide) ?_
    refine zi_icmp_eq (x := 60) (pc' := 12) rfl rfl o1 (by decide) (fun c10 => ?_) (fun c10 => ?_)
    · replace h := h.1 c10
      refine zi_iconst (pc' := 61) rfl rfl ?_
      refine zi_goto (x := 65) rfl ?_
      exact zi_zret rfl rfl (Or.inr rfl) h
    · replace h := h.2 c10
      refine zi_iload_n (pc' := 13) rfl rfl rfl ?_
      refine zi_bipush (pc' := 15) rfl rfl (by decide) ?_
      refine zi_icmp_eq (x := 60) (pc' := 18) rfl rfl o1 (by decide) (fun c9 => ?_) (fun c9 => ?_)
      · replace h := h.1 c9
        refine zi_iconst (pc' := 61) rfl rfl ?_
        refine zi_goto (x := 65) rfl ?_
        exact zi_zret rfl rfl (Or.inr rfl) h
      · replace h := h.2 c9
        refine zi_iload_n (pc' := 19) rfl rfl rfl ?_
        refine zi_bipush (pc' := 21) rfl rfl (by decide) ?_
        refine zi_icmp_eq (x := 60) (pc' := 24) rfl rfl o1 (by decide) (fun c8 => ?_) (fun c8 => ?_)
        · replace h := h.1 c8
          refine zi_iconst (pc' := 61) rfl rfl ?_
          refine zi_goto (x := 65) rfl ?_
          exact zi_zret rfl rfl (Or.inr rfl) h
        · replace h := h.2 c8
          refine zi_iload_n (pc' := 25) rfl rfl rfl ?_
          refine zi_bipush (pc' := 27) rfl rfl (by decide) ?_
          refine zi_icmp_eq (x := 60) (pc' := 30) rfl rfl o1 (by decide) (fun c7 => ?_) (fun c7 => ?_)
          · replace h := h.1 c7
            refine zi_iconst (pc' := 61) rfl rfl ?_
            refine zi_goto (x := 65) rfl ?_
            exact zi_zret rfl rfl (Or.inr rfl) h
          · replace h := h.2 c7
            refine zi_iload_n (pc' := 31) rfl rfl rfl ?_
            refine zi_bipush (pc' := 33) rfl rfl (by decide) ?_
            refine zi_icmp_eq (x := 60) (pc' := 36) rfl rfl o1 (by decide) (fun c6 => ?_) (fun c6 => ?_)
            · replace h := h.1 c6
              refine zi_iconst (pc' := 61) rfl rfl ?_
              refine zi_goto (x := 65) rfl ?_
              exact zi_zret rfl rfl (Or.inr rfl) h
            · replace h := h.2 c6
              refine zi_iload_n (pc' := 37) rfl rfl rfl ?_
              refine zi_bipush (pc' := 39) rfl rfl (by decide) ?_
              refine zi_icmp_eq (x := 60) (pc' := 42) rfl rfl o1 (by decide) (fun c5 => ?_) (fun c5 => ?_)
              · replace h := h.1 c5
                refine zi_iconst (pc' := 61) rfl rfl ?_
                refine zi_goto (x := 65) rfl ?_
                exact zi_zret rfl rfl (Or.inr rfl) h
              · replace h := h.2 c5
                refine zi_iload_n (pc' := 43) rfl rfl rfl ?_
                refine zi_bipush (pc' := 45) rfl rfl (by decide) ?_
                refine zi_icmp_eq (x := 60) (pc' := 48) rfl rfl o1 (by decide) (fun c4 => ?_) (fun c4 => ?_)
                · replace h := h.1 c4
                  refine zi_iconst (pc' := 61) rfl rfl ?_
                  refine zi_goto (x := 65) rfl ?_
                  exact zi_zret rfl rfl (Or.inr rfl) h
                · replace h := h.2 c4
                  refine zi_iload_n (pc' := 49) rfl rfl rfl ?_
                  refine zi_bipush (pc' := 51) rfl rfl (by decide) ?_
                  refine zi_icmp_eq (x := 60) (pc' := 54) rfl rfl o1 (by decide) (fun c3 => ?_) (fun c3 => ?_)
                  · replace h := h.1 c3
                    refine zi_iconst (pc' := 61) rfl rfl ?_
                    refine zi_goto (x := 65) rfl ?_
                    exact zi_zret rfl rfl (Or.inr rfl) h
                  · replace h := h.2 c3
                    refine zi_iload_n (pc' := 55) rfl rfl rfl ?_
                    refine zi_bipush (pc' := 57) rfl rfl (by decide) ?_
                    refine zi_icmp_ne (x := 64) (pc' := 60) rfl rfl o1 (by decide) (fun c2 => ?_) (fun c2 => ?_)
                    · replace h := h.1 c2
                      refine zi_iconst (pc' := 65) rfl rfl ?_
                      exact zi_zret rfl rfl (Or.inl rfl) h
                    · replace h := h.2 c2
                      refine zi_iconst (pc' := 61) rfl rfl ?_
                      refine zi_goto (x := 65) rfl ?_
                      exact zi_zret rfl rfl (Or.inr rfl) h
