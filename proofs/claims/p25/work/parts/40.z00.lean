-- by program (wip/gen/mkz.py)
-- SpoutNews$Past.forget()V
noncomputable def w_Past_forget (g : zi_M) (Q : Int → zi_M → Prop) : Prop := (∀ g1, g1 = zi_u g 91 1 0 → Q 0 g1)
set_option maxRecDepth 100000 in
theorem s_Past_forget {E : sx_E} {d : Nat} (hd : 1 ≤ d) {g : zi_M} {Q : Int → zi_M → Prop} (h : w_Past_forget g Q) : zi_S E d 15 [.ref 91] g (zi_Qv Q) := by
  refine zi_Sof jf_15 [some (.ref 91)] rfl (And.intro rfl trivial) ?_
  unfold w_Past_forget at h
  refine zi_aload_n (pc' := 1) rfl rfl rfl ?_
  refine zi_iconst (pc' := 2) rfl rfl ?_
  refine zi_puti (pc' := 5) 1 rfl rfl rfl rfl rfl  ?_
  replace h := h _ rfl
  exact zi_vret rfl rfl h
-- SpoutNews.state(I)I
noncomputable def w_S_state (l1 : Int) (g : zi_M) (Q : Int → zi_M → Prop) : Prop := (∀ g1, g1 = zi_u g 2 18 l1 → w_Past_forget g1 (fun _ g3 => Q (g 2 18) g3))
set_option maxRecDepth 100000 in
theorem s_S_state {E : sx_E} {d : Nat} (hd : 2 ≤ d) {l1 : Int} {g : zi_M} {Q : Int → zi_M → Prop} (h : w_S_state l1 g Q) : zi_S E d 14 [.ref 0, zi_i l1] g (zi_Q Q) := by
  refine zi_Sof jf_14 [some (.ref 0), some (zi_i l1), none] rfl (And.intro rfl (And.intro rfl trivial)) ?_
  unfold w_S_state at h
  refine zi_aload_n (pc' := 1) rfl rfl rfl ?_
  refine zi_getr (pc' := 4) rfl rfl rfl rfl rfl ?_
  refine zi_getr (pc' := 7) rfl rfl rfl rfl rfl ?_
  refine zi_geti (pc' := 10) 18 rfl rfl rfl rfl rfl rfl ?_
  refine zi_istore_n (pc' := 11) [some _, some _, some _] rfl rfl rfl ?_
  refine zi_aload_n (pc' := 12) rfl rfl rfl ?_
  refine zi_getr (pc' := 15) rfl rfl rfl rfl rfl ?_
  refine zi_getr (pc' := 18) rfl rfl rfl rfl rfl ?_
  refine zi_iload_n (pc' := 19) rfl rfl rfl ?_
  refine zi_puti (pc' := 22) 18 rfl rfl rfl rfl rfl  ?_
  replace h := h _ rfl
  refine zi_aload_n (pc' := 23) rfl rfl rfl ?_
  refine zi_getr (pc' := 26) rfl rfl rfl rfl rfl ?_
  refine zi_callV (d' := 1) (as := []) (pc' := 29) rfl rfl rfl rfl (Nat.lt_of_lt_of_le (by decide) hd) (s_Past_forget (Nat.le_refl _) h) (zi_kv (fun g3 h => ?_))
  refine zi_iload_n (pc' := 30) rfl rfl rfl ?_
  exact zi_iret rfl rfl h
-- SpoutNewsModel.state(I)I
noncomputable def w_M_state (l1 : Int) (g : zi_M) (Q : Int → zi_M → Prop) : Prop := (∀ g1, g1 = zi_u g 214 0 0 → (∀ g2, g2 = zi_u g1 215 1 l1 → (∀ g3, g3 = zi_u g2 214 3 0 → Q (g1 215 1) g3)))
set_option maxRecDepth 100000 in
theorem s_M_state {E : sx_E} {d : Nat} (hd : 1 ≤ d) {l1 : Int} {g : zi_M} {Q : Int → zi_M → Prop} (h : w_M_state l1 g Q) : zi_S E d 190 [.ref 214, zi_i l1] g (zi_Q Q) := by
  refine zi_Sof jf_190 [some (.ref 214), some (zi_i l1), none] rfl (And.intro rfl (And.intro rfl trivial)) ?_
  unfold w_M_state at h
  refine zi_aload_n (pc' := 1) rfl rfl rfl ?_
  refine zi_iconst (pc' := 2) rfl rfl ?_
  refine zi_puti (pc' := 5) 0 rfl rfl rfl rfl rfl  ?_
  replace h := h _ rfl
  refine zi_aload_n (pc' := 6) rfl rfl rfl ?_
  refine zi_getr (pc' := 9) rfl rfl rfl rfl rfl ?_
  refine zi_iconst (pc' := 10) rfl rfl ?_
  refine zi_iald (pc' := 11) rfl rfl rfl (by decide) ?_
  refine zi_istore_n (pc' := 12) [some _, some _, some _] rfl rfl rfl ?_
  refine zi_aload_n (pc' := 13) rfl rfl rfl ?_
  refine zi_getr (pc' := 16) rfl rfl rfl rfl rfl ?_
  refine zi_iconst (pc' := 17) rfl rfl ?_
  refine zi_iload_n (pc' := 18) rfl rfl rfl ?_
  refine zi_iast (pc' := 19) rfl rfl rfl (by decide) ?_
  replace h := h _ rfl
  refine zi_aload_n (pc' := 20) rfl rfl rfl ?_
  refine zi_iconst (pc' := 21) rfl rfl ?_
  refine zi_puti (pc' := 24) 3 rfl rfl rfl rfl rfl  ?_
  replace h := h _ rfl
  refine zi_iload_n (pc' := 25) rfl rfl rfl ?_
  exact zi_iret rfl rfl h
-- SpoutNews$World.addSpout(III)I
noncomputable def w_World_addSpout (l1 : Int) (l2 : Int) (l3 : Int) (g : zi_M) (Q : Int → zi_M → Prop) : Prop := (zi_r (g 2 8) ∧ (((g 2 8) < 10 → ((0 ≤ (g 2 8) ∧ (g 2 8) < 10) ∧ (∀ g3, g3 = zi_u g 3 (g 2 8) l1 → (∀ g4, g4 = zi_u g3 4 (g 2 8) l2 → (∀ g5, g5 = zi_u g4 5 (g 2 8) l3 → (∀ g6, g6 = zi_u g5 6 (g 2 8) 0 → (∀ g7, g7 = zi_u g6 7 (g 2 8) 0 → (∀ g8, g8 = zi_u g7 8 (g 2 8) 0 → (∀ g9, g9 = zi_u g8 2 8 ((g 2 8) + 1) → Q (g 2 8) g9))))))))) ∧ (10 ≤ (g 2 8) → Q (-1) g)))
set_option maxRecDepth 100000 in
theorem s_World_addSpout {E : sx_E} {d : Nat} (hd : 1 ≤ d) {l1 : Int} {l2 : Int} {l3 : Int} {g : zi_M} {Q : Int → zi_M → Prop} (h : w_World_addSpout l1 l2 l3 g Q) : zi_S E d 17 [.ref 2, zi_i l1, zi_i l2, zi_i l3] g (zi_Q Q) := by
  refine zi_Sof jf_17 [some (.ref 2), some (zi_i l1), some (zi_i l2), some (zi_i l3), none] rfl (And.intro rfl (And.intro rfl (And.intro rfl (And.intro rfl trivial)))) ?_
  unfold w_World_addSpout at h
  refine zi_aload_n (pc' := 1) rfl rfl rfl ?_
  refine zi_geti (pc' := 4) 8 rfl rfl rfl rfl rfl rfl ?_
  refine zi_istore (pc' := 6) [some _, some _, some _, some _, some _] rfl rfl rfl ?_
  refine zi_iload (pc' := 8) rfl rfl rfl ?_
  refine zi_bipush (pc' := 10) rfl rfl (by decide) ?_
  obtain ⟨o1, h⟩ := h
  refine zi_icmp_lt (x := 15) (pc' := 13) rfl rfl o1 (by decide) (fun c10 => ?_) (fun c10 => ?_)
  · replace h := h.1 c10
    refine zi_aload_n (pc' := 16) rfl rfl rfl ?_
    refine zi_getr (pc' := 19) rfl rfl rfl rfl rfl ?_
    refine zi_iload (pc' := 21) rfl rfl rfl ?_
    refine zi_iload_n (pc' := 22) rfl rfl rfl ?_
    obtain ⟨o2, h⟩ := h
    refine zi_iast (pc' := 23) rfl rfl rfl o2 ?_
    replace h := h _ rfl
    refine zi_aload_n (pc' := 24) rfl rfl rfl ?_
    refine zi_getr (pc' := 27) rfl rfl rfl rfl rfl ?_
    refine zi_iload (pc' := 29) rfl rfl rfl ?_
    refine zi_iload_n (pc' := 30) rfl rfl rfl ?_
    refine zi_iast (pc' := 31) rfl rfl rfl o2 ?_
    replace h := h _ rfl
    refine zi_aload_n (pc' := 32) rfl rfl rfl ?_
    refine zi_getr (pc' := 35) rfl rfl rfl rfl rfl ?_
    refine zi_iload (pc' := 37) rfl rfl rfl ?_
    refine zi_iload_n (pc' := 38) rfl rfl rfl ?_
    refine zi_iast (pc' := 39) rfl rfl rfl o2 ?_
    replace h := h _ rfl
    refine zi_aload_n (pc' := 40) rfl rfl rfl ?_
    refine zi_getr (pc' := 43) rfl rfl rfl rfl rfl ?_
    refine zi_iload (pc' := 45) rfl rfl rfl ?_
    refine zi_iconst (pc' := 46) rfl rfl ?_
    refine zi_iast (pc' := 47) rfl rfl rfl o2 ?_
    replace h := h _ rfl
    refine zi_aload_n (pc' := 48) rfl rfl rfl ?_
    refine zi_getr (pc' := 51) rfl rfl rfl rfl rfl ?_
    refine zi_iload (pc' := 53) rfl rfl rfl ?_
    refine zi_iconst (pc' := 54) rfl rfl ?_
    refine zi_iast (pc' := 55) rfl rfl rfl o2 ?_
    replace h := h _ rfl
    refine zi_aload_n (pc' := 56) rfl rfl rfl ?_
    refine zi_getr (pc' := 59) rfl rfl rfl rfl rfl ?_
    refine zi_iload (pc' := 61) rfl rfl rfl ?_
    refine zi_iconst (pc' := 62) rfl rfl ?_
    refine zi_iast (pc' := 63) rfl rfl rfl o2 ?_
    replace h := h _ rfl
    refine zi_aload_n (pc' := 64) rfl rfl rfl ?_
    refine zi_iload (pc' := 66) rfl rfl rfl ?_
    refine zi_iconst (pc' := 67) rfl rfl ?_
    refine zi_iadd (pc' := 68) rfl rfl ?_
    refine zi_puti (pc' := 71) 8 rfl rfl rfl rfl rfl  ?_
    replace h := h _ rfl
    refine zi_iload (pc' := 73) rfl rfl rfl ?_
    exact zi_iret rfl rfl h
  · replace h := h.2 c10
    refine zi_iconst (pc' := 14) rfl rfl ?_
    exact zi_iret rfl rfl h
-- SpoutNews.spout(III)I
noncomputable def w_S_spout (l1 : Int) (l2 : Int) (l3 : Int) (g : zi_M) (Q : Int → zi_M → Prop) : Prop := (zi_r l1 ∧ ((l1 < 0 → Q (-1) g) ∧ (0 ≤ l1 → ((5 < l1 → Q (-1) g) ∧ (l1 ≤ 5 → (zi_r l2 ∧ ((l2 < 0 → Q (-1) g) ∧ (0 ≤ l2 → ((3 < l2 → Q (-1) g) ∧ (l2 ≤ 3 → (zi_r l3 ∧ ((l3 < 0 → Q (-1) g) ∧ (0 ≤ l3 → ((l3 ≤ 99 → (zi_r (g 2 8) ∧ (((g 2 8) < 10 → w_Past_forget g (fun _ g6 => w_World_addSpout l1 l2 l3 g6 (fun v8 g9 => Q v8 g9))) ∧ (10 ≤ (g 2 8) → Q (-1) g)))) ∧ (99 < l3 → Q (-1) g)))))))))))))))
set_option maxRecDepth 100000 in
theorem s_S_spout {E : sx_E} {d : Nat} (hd : 2 ≤ d) {l1 : Int} {l2 : Int} {l3 : Int} {g : zi_M} {Q : Int → zi_M → Prop} (h : w_S_spout l1 l2 l3 g Q) : zi_S E d 16 [.ref 0, zi_i l1, zi_i l2, zi_i l3] g (zi_Q Q) := by
  refine zi_Sof jf_16 [some (.ref 0), some (zi_i l1), some (zi_i l2), some (zi_i l3)] rfl (And.intro rfl (And.intro rfl (And.intro rfl (And.intro rfl trivial)))) ?_
  unfold w_S_spout at h
  refine zi_iload_n (pc' := 1) rfl rfl rfl ?_
  obtain ⟨o1, h⟩ := h
  refine zi_if_lt (x := 28) (pc' := 4) rfl rfl o1  (fun c17 => ?_) (fun c17 => ?_)
  · replace h := h.1 c17
    refine zi_iconst (pc' := 29) rfl rfl ?_
    exact zi_iret rfl rfl h
  · replace h := h.2 c17
    refine zi_iload_n (pc' := 5) rfl rfl rfl ?_
    refine zi_iconst (pc' := 6) rfl rfl ?_
    refine zi_icmp_gt (x := 28) (pc' := 9) rfl rfl o1 (by decide) (fun c16 => ?_) (fun c16 => ?_)
    · replace h := h.1 c16
      refine zi_iconst (pc' := 29) rfl rfl ?_
      exact zi_iret rfl rfl h
    · replace h := h.2 c16
      refine zi_iload_n (pc' := 10) rfl rfl rfl ?_
      obtain ⟨o2, h⟩ := h
      refine zi_if_lt (x := 28) (pc' := 13) rfl rfl o2  (fun c15 => ?_) (fun c15 => ?_)
      · replace h := h.1 c15
        refine zi_iconst (pc' := 29) rfl rfl ?_
        exact zi_iret rfl rfl h
      · replace h := h.2 c15
        refine zi_iload_n (pc' := 14) rfl rfl rfl ?_
        refine zi_iconst (pc' := 15) rfl rfl ?_
        refine zi_icmp_gt (x := 28) (pc' := 18) rfl rfl o2 (by decide) (fun c14 => ?_) (fun c14 => ?_)
        · replace h := h.1 c14
          refine zi_iconst (pc' := 29) rfl rfl ?_
          exact zi_iret rfl rfl h
        · replace h := h.2 c14
          refine zi_iload_n (pc' := 19) rfl rfl rfl ?_
          obtain ⟨o3, h⟩ := h
          refine zi_if_lt (x := 28) (pc' := 22) rfl rfl o3  (fun c13 => ?_) (fun c13 => ?_)
          · replace h := h.1 c13
            refine zi_iconst (pc' := 29) rfl rfl ?_
            exact zi_iret rfl rfl h
          · replace h := h.2 c13
            refine zi_iload_n (pc' := 23) rfl rfl rfl ?_
            refine zi_bipush (pc' := 25) rfl rfl (by decide) ?_
            refine zi_icmp_le (x := 30) (pc' := 28) rfl rfl o3 (by decide) (fun c12 => ?_) (fun c12 => ?_)
            · replace h := h.1 c12
              refine zi_aload_n (pc' := 31) rfl rfl rfl ?_
              refine zi_getr (pc' := 34) rfl rfl rfl rfl rfl ?_
              refine zi_getr (pc' := 37) rfl rfl rfl rfl rfl ?_
              refine zi_geti (pc' := 40) 8 rfl rfl rfl rfl rfl rfl ?_
              refine zi_bipush (pc' := 42) rfl rfl (by decide) ?_
              obtain ⟨o4, h⟩ := h
              refine zi_icmp_lt (x := 47) (pc' := 45) rfl rfl o4 (by decide) (fun c11 => ?_) (fun c11 => ?_)
              · replace h := h.1 c11
                refine zi_aload_n (pc' := 48) rfl rfl rfl ?_
                refine zi_getr (pc' := 51) rfl rfl rfl rfl rfl ?_
                refine zi_callV (d' := 1) (as := []) (pc' := 54) rfl rfl rfl rfl (Nat.lt_of_lt_of_le (by decide) hd) (s_Past_forget (Nat.le_refl _) h) (zi_kv (fun g6 h => ?_))
                refine zi_aload_n (pc' := 55) rfl rfl rfl ?_
                refine zi_getr (pc' := 58) rfl rfl rfl rfl rfl ?_
                refine zi_getr (pc' := 61) rfl rfl rfl rfl rfl ?_
                refine zi_iload_n (pc' := 62) rfl rfl rfl ?_
                refine zi_iload_n (pc' := 63) rfl rfl rfl ?_
                refine zi_iload_n (pc' := 64) rfl rfl rfl ?_
                refine zi_callV (d' := 1) (as := [_, _, _]) (pc' := 67) rfl rfl rfl rfl (Nat.lt_of_lt_of_le (by decide) hd) (s_World_addSpout (Nat.le_refl _) h) (zi_ki (fun v8 g9 h => ?_))
                exact zi_iret rfl rfl h
              · replace h := h.2 c11
                refine zi_iconst (pc' := 46) rfl rfl ?_
                exact zi_iret rfl rfl h
            · replace h := h.2 c12
              refine zi_iconst (pc' := 29) rfl rfl ?_
              exact zi_iret rfl rfl h
-- SpoutNewsModel.isIn(III)Z
noncomputable def w_M_isIn (l1 : Int) (l2 : Int) (l3 : Int) (g : zi_M) (Q : Int → zi_M → Prop) : Prop := (zi_r l1 ∧ zi_r l2 ∧ ((l1 < l2 → Q 0 g) ∧ (l2 ≤ l1 → (zi_r l3 ∧ ((l3 < l1 → Q 0 g) ∧ (l1 ≤ l3 → Q 1 g))))))
set_option maxRecDepth 100000 in
theorem s_M_isIn {E : sx_E} {d : Nat} (hd : 1 ≤ d) {l1 : Int} {l2 : Int} {l3 : Int} {g : zi_M} {Q : Int → zi_M → Prop} (h : w_M_isIn l1 l2 l3 g Q) : zi_S E d 192 [.ref 214, zi_i l1, zi_i l2, zi_i l3] g (zi_Qb Q) := by
  refine zi_Sof jf_192 [some (.ref 214), some (zi_i l1), some (zi_i l2), some (zi_i l3)] rfl (And.intro rfl (And.intro rfl (And.intro rfl (And.intro rfl trivial)))) ?_
  unfold w_M_isIn at h
  refine zi_iload_n (pc' := 1) rfl rfl rfl ?_
  refine zi_iload_n (pc' := 2) rfl rfl rfl ?_
  obtain ⟨o1, o2, h⟩ := h
  refine zi_icmp_lt (x := 14) (pc' := 5) rfl rfl o1 o2 (fun c5 => ?_) (fun c5 => ?_)
  · replace h := h.1 c5
    refine zi_iconst (pc' := 15) rfl rfl ?_
    exact zi_zret rfl rfl (Or.inl rfl) h
  · replace h := h.2 c5
    refine zi_iload_n (pc' := 6) rfl rfl rfl ?_
    refine zi_iload_n (pc' := 7) rfl rfl rfl ?_
    obtain ⟨o3, h⟩ := h
    refine zi_icmp_gt (x := 14) (pc' := 10) rfl rfl o1 o3 (fun c4 => ?_) (fun c4 => ?_)
    · replace h := h.1 c4
      refine zi_iconst (pc' := 15) rfl rfl ?_
      exact zi_zret rfl rfl (Or.inl rfl) h
    · replace h := h.2 c4
      refine zi_iconst (pc' := 11) rfl rfl ?_
      refine zi_goto (x := 15) rfl ?_
      exact zi_zret rfl rfl (Or.inr rfl) h
-- SpoutNewsModel.spout(III)I
noncomputable def w_M_spout (l1 : Int) (l2 : Int) (l3 : Int) (g : zi_M) (Q : Int → zi_M → Prop) : Prop := (∀ g1, g1 = zi_u g 214 0 0 → w_M_isIn l1 0 5 g1 (fun v2 g3 => ((v2 = 0 → Q (-1) g3) ∧ (¬ v2 = 0 → w_M_isIn l2 0 3 g3 (fun v5 g6 => ((v5 = 0 → Q (-1) g6) ∧ (¬ v5 = 0 → w_M_isIn l3 0 99 g6 (fun v8 g9 => ((v8 = 0 → Q (-1) g9) ∧ (¬ v8 = 0 → (zi_r (g9 214 6) ∧ ((¬ (g9 214 6) = 10 → ((0 ≤ (g9 214 6) ∧ (g9 214 6) < 10) ∧ (∀ g13, g13 = zi_u g9 218 (g9 214 6) l1 → ((0 ≤ (g13 214 6) ∧ (g13 214 6) < 10) ∧ (∀ g15, g15 = zi_u g13 219 (g13 214 6) l2 → ((0 ≤ (g15 214 6) ∧ (g15 214 6) < 10) ∧ (∀ g17, g17 = zi_u g15 220 (g15 214 6) l3 → ((0 ≤ (6 + (g17 214 6)) ∧ (6 + (g17 214 6)) < 264) ∧ (∀ g19, g19 = zi_u g17 215 (6 + (g17 214 6)) 0 → ((0 ≤ (16 + (g19 214 6)) ∧ (16 + (g19 214 6)) < 264) ∧ (∀ g21, g21 = zi_u g19 215 (16 + (g19 214 6)) 0 → ((0 ≤ (26 + (g21 214 6)) ∧ (26 + (g21 214 6)) < 264) ∧ (∀ g23, g23 = zi_u g21 215 (26 + (g21 214 6)) 0 → (∀ g24, g24 = zi_u g23 214 6 ((g23 214 6) + 1) → (∀ g25, g25 = zi_u g24 214 3 0 → Q ((g25 214 6) - 1) g25))))))))))))))) ∧ ((g9 214 6) = 10 → Q (-1) g9)))))))))))))
set_option maxRecDepth 100000 in
theorem s_M_spout {E : sx_E} {d : Nat} (hd : 2 ≤ d) {l1 : Int} {l2 : Int} {l3 : Int} {g : zi_M} {Q : Int → zi_M → Prop} (h : w_M_spout l1 l2 l3 g Q) : zi_S E d 191 [.ref 214, zi_i l1, zi_i l2, zi_i l3] g (zi_Q Q) := by
  refine zi_Sof jf_191 [some (.ref 214), some (zi_i l1), some (zi_i l2), some (zi_i l3)] rfl (And.intro rfl (And.intro rfl (And.intro rfl (And.intro rfl trivial)))) ?_
  unfold w_M_spout at h
  refine zi_aload_n (pc' := 1) rfl rfl rfl ?_
  refine zi_iconst (pc' := 2) rfl rfl ?_
  refine zi_puti (pc' := 5) 0 rfl rfl rfl rfl rfl  ?_
  replace h := h _ rfl
  refine zi_aload_n (pc' := 6) rfl rfl rfl ?_
  refine zi_iload_n (pc' := 7) rfl rfl rfl ?_
  refine zi_iconst (pc' := 8) rfl rfl ?_
  refine zi_iconst (pc' := 9) rfl rfl ?_
  refine zi_callV (d' := 1) (as := [_, _, _]) (pc' := 12) rfl rfl rfl rfl (Nat.lt_of_lt_of_le (by decide) hd) (s_M_isIn (Nat.le_refl _) h) (zi_kb (fun v2 g3 b4 h => ?_))
  refine zi_if_eq (x := 45) (pc' := 15) rfl rfl (zi_r_bit b4)  (fun c29 => ?_) (fun c29 => ?_)
  · replace h := h.1 c29
    refine zi_iconst (pc' := 46) rfl rfl ?_
    exact zi_iret rfl rfl h
  · replace h := h.2 c29
    refine zi_aload_n (pc' := 16) rfl rfl rfl ?_
    refine zi_iload_n (pc' := 17) rfl rfl rfl ?_
    refine zi_iconst (pc' := 18) rfl rfl ?_
    refine zi_iconst (pc' := 19) rfl rfl ?_
    refine zi_callV (d' := 1) (as := [_, _, _]) (pc' := 22) rfl rfl rfl rfl (Nat.lt_of_lt_of_le (by decide) hd) (s_M_isIn (Nat.le_refl _) h) (zi_kb (fun v5 g6 b7 h => ?_))
    refine zi_if_eq (x := 45) (pc' := 25) rfl rfl (zi_r_bit b7)  (fun c28 => ?_) (fun c28 => ?_)
    · replace h := h.1 c28
      refine zi_iconst (pc' := 46) rfl rfl ?_
      exact zi_iret rfl rfl h
    · replace h := h.2 c28
      refine zi_aload_n (pc' := 26) rfl rfl rfl ?_
      refine zi_iload_n (pc' := 27) rfl rfl rfl ?_
      refine zi_iconst (pc' := 28) rfl rfl ?_
      refine zi_bipush (pc' := 30) rfl rfl (by decide) ?_
      refine zi_callV (d' := 1) (as := [_, _, _]) (pc' := 33) rfl rfl rfl rfl (Nat.lt_of_lt_of_le (by decide) hd) (s_M_isIn (Nat.le_refl _) h) (zi_kb (fun v8 g9 b10 h => ?_))
      refine zi_if_eq (x := 45) (pc' := 36) rfl rfl (zi_r_bit b10)  (fun c27 => ?_) (fun c27 => ?_)
      · replace h := h.1 c27
        refine zi_iconst (pc' := 46) rfl rfl ?_
        exact zi_iret rfl rfl h
      · replace h := h.2 c27
        refine zi_aload_n (pc' := 37) rfl rfl rfl ?_
        refine zi_geti (pc' := 40) 6 rfl rfl rfl rfl rfl rfl ?_
        refine zi_bipush (pc' := 42) rfl rfl (by decide) ?_
        obtain ⟨o11, h⟩ := h
        refine zi_icmp_ne (x := 47) (pc' := 45) rfl rfl o11 (by decide) (fun c26 => ?_) (fun c26 => ?_)
        · replace h := h.1 c26
          refine zi_aload_n (pc' := 48) rfl rfl rfl ?_
          refine zi_getr (pc' := 51) rfl rfl rfl rfl rfl ?_
          refine zi_aload_n (pc' := 52) rfl rfl rfl ?_
          refine zi_geti (pc' := 55) 6 rfl rfl rfl rfl rfl rfl ?_
          refine zi_iload_n (pc' := 56) rfl rfl rfl ?_
          obtain ⟨o12, h⟩ := h
          refine zi_iast (pc' := 57) rfl rfl rfl o12 ?_
          replace h := h _ rfl
          refine zi_aload_n (pc' := 58) rfl rfl rfl ?_
          refine zi_getr (pc' := 61) rfl rfl rfl rfl rfl ?_
          refine zi_aload_n (pc' := 62) rfl rfl rfl ?_
          refine zi_geti (pc' := 65) 6 rfl rfl rfl rfl rfl rfl ?_
          refine zi_iload_n (pc' := 66) rfl rfl rfl ?_
          obtain ⟨o14, h⟩ := h
          refine zi_iast (pc' := 67) rfl rfl rfl o14 ?_
          replace h := h _ rfl
          refine zi_aload_n (pc' := 68) rfl rfl rfl ?_
          refine zi_getr (pc' := 71) rfl rfl rfl rfl rfl ?_
          refine zi_aload_n (pc' := 72) rfl rfl rfl ?_
          refine zi_geti (pc' := 75) 6 rfl rfl rfl rfl rfl rfl ?_
          refine zi_iload_n (pc' := 76) rfl rfl rfl ?_
          obtain ⟨o16, h⟩ := h
          refine zi_iast (pc' := 77) rfl rfl rfl o16 ?_
          replace h := h _ rfl
          refine zi_aload_n (pc' := 78) rfl rfl rfl ?_
          refine zi_getr (pc' := 81) rfl rfl rfl rfl rfl ?_
          refine zi_bipush (pc' := 83) rfl rfl (by decide) ?_
          refine zi_aload_n (pc' := 84) rfl rfl rfl ?_
          refine zi_geti (pc' := 87) 6 rfl rfl rfl rfl rfl rfl ?_
          refine zi_iadd (pc' := 88) rfl rfl ?_
          refine zi_iconst (pc' := 89) rfl rfl ?_
          obtain ⟨o18, h⟩ := h
          refine zi_iast (pc' := 90) rfl rfl rfl o18 ?_
          replace h := h _ rfl
          refine zi_aload_n (pc' := 91) rfl rfl rfl ?_
          refine zi_getr (pc' := 94) rfl rfl rfl rfl rfl ?_
          refine zi_bipush (pc' := 96) rfl rfl (by decide) ?_
          refine zi_aload_n (pc' := 97) rfl rfl rfl ?_
          refine zi_geti (pc' := 100) 6 rfl rfl rfl rfl rfl rfl ?_
          refine zi_iadd (pc' := 101) rfl rfl ?_
          refine zi_iconst (pc' := 102) rfl rfl ?_
          obtain ⟨o20, h⟩ := h
          refine zi_iast (pc' := 103) rfl rfl rfl o20 ?_
          replace h := h _ rfl
          refine zi_aload_n (pc' := 104) rfl rfl rfl ?_
          refine zi_getr (pc' := 107) rfl rfl rfl rfl rfl ?_
          refine zi_bipush (pc' := 109) rfl rfl (by decide) ?_
          refine zi_aload_n (pc' := 110) rfl rfl rfl ?_
          refine zi_geti (pc' := 113) 6 rfl rfl rfl rfl rfl rfl ?_
          refine zi_iadd (pc' := 114) rfl rfl ?_
          refine zi_iconst (pc' := 115) rfl rfl ?_
          obtain ⟨o22, h⟩ := h
          refine zi_iast (pc' := 116) rfl rfl rfl o22 ?_
          replace h := h _ rfl
          refine zi_aload_n (pc' := 117) rfl rfl rfl ?_
          refine zi_aload_n (pc' := 118) rfl rfl rfl ?_
          refine zi_geti (pc' := 121) 6 rfl rfl rfl rfl rfl rfl ?_
          refine zi_iconst (pc' := 122) rfl rfl ?_
          refine zi_iadd (pc' := 123) rfl rfl ?_
          refine zi_puti (pc' := 126) 6 rfl rfl rfl rfl rfl  ?_
          replace h := h _ rfl
          refine zi_aload_n (pc' := 127) rfl rfl rfl ?_
          refine zi_iconst (pc' := 128) rfl rfl ?_
          refine zi_puti (pc' := 131) 3 rfl rfl rfl rfl rfl  ?_
          replace h := h _ rfl
          refine zi_aload_n (pc' := 132) rfl rfl rfl ?_
          refine zi_geti (pc' := 135) 6 rfl rfl rfl rfl rfl rfl ?_
          refine zi_iconst (pc' := 136) rfl rfl ?_
          refine zi_isub (pc' := 137) rfl rfl ?_
          exact zi_iret rfl rfl h
        · replace h := h.2 c26
          refine zi_iconst (pc' := 46) rfl rfl ?_
          exact zi_iret rfl rfl h
-- SpoutNews.isWordSet(I)Z
noncomputable def w_S_isWordSet (l0 : Int) (g : zi_M) (Q : Int → zi_M → Prop) : Prop := (zi_r l0 ∧ ((l0 < 0 → Q 0 g) ∧ (0 ≤ l0 → ((65536 ≤ l0 → Q 0 g) ∧ (l0 < 65536 → Q 1 g)))))
set_option maxRecDepth 100000 in
theorem s_S_isWordSet {E : sx_E} {d : Nat} (hd : 1 ≤ d) {l0 : Int} {g : zi_M} {Q : Int → zi_M → Prop} (h : w_S_isWordSet l0 g Q) : zi_S E d 19 [zi_i l0] g (zi_Qb Q) := by
  refine zi_Sof jf_19 [some (zi_i l0)] rfl (And.intro rfl trivial) ?_
  unfold w_S_isWordSet at h
  refine zi_iload_n (pc' := 1) rfl rfl rfl ?_
  obtain ⟨o1, h⟩ := h
  refine zi_if_lt (x := 15) (pc' := 4) rfl rfl o1  (fun c3 => ?_) (fun c3 => ?_)
  · replace h := h.1 c3
    refine zi_iconst (pc' := 16) rfl rfl ?_
    exact zi_zret rfl rfl (Or.inl rfl) h
  · replace h := h.2 c3
    refine zi_iload_n (pc' := 5) rfl rfl rfl ?_
    refine zi_ldcw (v := 65536) (pc' := 8) rfl rfl (by decide +kernel) ?_
    refine zi_icmp_ge (x := 15) (pc' := 11) rfl rfl o1 (by decide) (fun c2 => ?_) (fun c2 => ?_)
    · replace h := h.1 c2
      refine zi_iconst (pc' := 16) rfl rfl ?_
      exact zi_zret rfl rfl (Or.inl rfl) h
    · replace h := h.2 c2
      refine zi_iconst (pc' := 12) rfl rfl ?_
      refine zi_goto (x := 16) rfl ?_
      exact zi_zret rfl rfl (Or.inr rfl) h
-- SpoutNews$World.addSitter(I)I
noncomputable def w_World_addSitter (l1 : Int) (g : zi_M) (Q : Int → zi_M → Prop) : Prop := (zi_r (g 2 11) ∧ (((g 2 11) < 8 → ((0 ≤ (g 2 11) ∧ (g 2 11) < 8) ∧ (∀ g3, g3 = zi_u g 10 (g 2 11) l1 → (∀ g4, g4 = zi_u g3 11 (g 2 11) (-1) → (∀ g5, g5 = zi_u g4 2 11 ((g 2 11) + 1) → Q (g 2 11) g5))))) ∧ (8 ≤ (g 2 11) → Q (-1) g)))
set_option maxRecDepth 100000 in
theorem s_World_addSitter {E : sx_E} {d : Nat} (hd : 1 ≤ d) {l1 : Int} {g : zi_M} {Q : Int → zi_M → Prop} (h : w_World_addSitter l1 g Q) : zi_S E d 20 [.ref 2, zi_i l1] g (zi_Q Q) := by
  refine zi_Sof jf_20 [some (.ref 2), some (zi_i l1), none] rfl (And.intro rfl (And.intro rfl trivial)) ?_
  unfold w_World_addSitter at h
  refine zi_aload_n (pc' := 1) rfl rfl rfl ?_
  refine zi_geti (pc' := 4) 11 rfl rfl rfl rfl rfl rfl ?_
  refine zi_istore_n (pc' := 5) [some _, some _, some _] rfl rfl rfl ?_
  refine zi_iload_n (pc' := 6) rfl rfl rfl ?_
  refine zi_bipush (pc' := 8) rfl rfl (by decide) ?_
  obtain ⟨o1, h⟩ := h
  refine zi_icmp_lt (x := 13) (pc' := 11) rfl rfl o1 (by decide) (fun c6 => ?_) (fun c6 => ?_)
  · replace h := h.1 c6
    refine zi_aload_n (pc' := 14) rfl rfl rfl ?_
    refine zi_getr (pc' := 17) rfl rfl rfl rfl rfl ?_
    refine zi_iload_n (pc' := 18) rfl rfl rfl ?_
    refine zi_iload_n (pc' := 19) rfl rfl rfl ?_
    obtain ⟨o2, h⟩ := h
    refine zi_iast (pc' := 20) rfl rfl rfl o2 ?_
    replace h := h _ rfl
    refine zi_aload_n (pc' := 21) rfl rfl rfl ?_
    refine zi_getr (pc' := 24) rfl rfl rfl rfl rfl ?_
    refine zi_iload_n (pc' := 25) rfl rfl rfl ?_
    refine zi_iconst (pc' := 26) rfl rfl ?_
    refine zi_iast (pc' := 27) rfl rfl rfl o2 ?_
    replace h := h _ rfl
    refine zi_aload_n (pc' := 28) rfl rfl rfl ?_
    refine zi_iload_n (pc' := 29) rfl rfl rfl ?_
    refine zi_iconst (pc' := 30) rfl rfl ?_
    refine zi_iadd (pc' := 31) rfl rfl ?_
    refine zi_puti (pc' := 34) 11 rfl rfl rfl rfl rfl  ?_
    replace h := h _ rfl
    refine zi_iload_n (pc' := 35) rfl rfl rfl ?_
    exact zi_iret rfl rfl h
  · replace h := h.2 c6
    refine zi_iconst (pc' := 12) rfl rfl ?_
    exact zi_iret rfl rfl h
-- SpoutNews.sitter(I)I
noncomputable def w_S_sitter (l1 : Int) (g : zi_M) (Q : Int → zi_M → Prop) : Prop := w_S_isWordSet l1 g (fun v1 g2 => ((v1 = 0 → Q (-1) g2) ∧ (¬ v1 = 0 → (zi_r (g2 2 11) ∧ (((g2 2 11) < 8 → w_Past_forget g2 (fun _ g6 => w_World_addSitter l1 g6 (fun v8 g9 => Q v8 g9))) ∧ (8 ≤ (g2 2 11) → Q (-1) g2))))))
set_option maxRecDepth 100000 in
theorem s_S_sitter {E : sx_E} {d : Nat} (hd : 2 ≤ d) {l1 : Int} {g : zi_M} {Q : Int → zi_M → Prop} (h : w_S_sitter l1 g Q) : zi_S E d 18 [.ref 0, zi_i l1] g (zi_Q Q) := by
  refine zi_Sof jf_18 [some (.ref 0), some (zi_i l1)] rfl (And.intro rfl (And.intro rfl trivial)) ?_
  unfold w_S_sitter at h
  refine zi_iload_n (pc' := 1) rfl rfl rfl ?_
  refine zi_callS (d' := 1) (as := [_]) (pc' := 4) rfl rfl rfl (Nat.lt_of_lt_of_le (by decide) hd) (s_S_isWordSet (Nat.le_refl _) h) (zi_kb (fun v1 g2 b3 h => ?_))
  refine zi_if_eq (x := 22) (pc' := 7) rfl rfl (zi_r_bit b3)  (fun c12 => ?_) (fun c12 => ?_)
  · replace h := h.1 c12
    refine zi_iconst (pc' := 23) rfl rfl ?_
    exact zi_iret rfl rfl h
  · replace h := h.2 c12
    refine zi_aload_n (pc' := 8) rfl rfl rfl ?_
    refine zi_getr (pc' := 11) rfl rfl rfl rfl rfl ?_
    refine zi_getr (pc' := 14) rfl rfl rfl rfl rfl ?_
    refine zi_geti (pc' := 17) 11 rfl rfl rfl rfl rfl rfl ?_
    refine zi_bipush (pc' := 19) rfl rfl (by decide) ?_
    obtain ⟨o4, h⟩ := h
    refine zi_icmp_lt (x := 24) (pc' := 22) rfl rfl o4 (by decide) (fun c11 => ?_) (fun c11 => ?_)
    · replace h := h.1 c11
      refine zi_aload_n (pc' := 25) rfl rfl rfl ?_
      refine zi_getr (pc' := 28) rfl rfl rfl rfl rfl ?_
      refine zi_callV (d' := 1) (as := []) (pc' := 31) rfl rfl rfl rfl (Nat.lt_of_lt_of_le (by decide) hd) (s_Past_forget (Nat.le_refl _) h) (zi_kv (fun g6 h => ?_))
      refine zi_aload_n (pc' := 32) rfl rfl rfl ?_
      refine zi_getr (pc' := 35) rfl rfl rfl rfl rfl ?_
      refine zi_getr (pc' := 38) rfl rfl rfl rfl rfl ?_
      refine zi_iload_n (pc' := 39) rfl rfl rfl ?_
      refine zi_callV (d' := 1) (as := [_]) (pc' := 42) rfl rfl rfl rfl (Nat.lt_of_lt_of_le (by decide) hd) (s_World_addSitter (Nat.le_refl _) h) (zi_ki (fun v8 g9 h => ?_))
      exact zi_iret rfl rfl h
    · replace h := h.2 c11
      refine zi_iconst (pc' := 23) rfl rfl ?_
      exact zi_iret rfl rfl h
-- SpoutNewsModel.sitter(I)I
noncomputable def w_M_sitter (l1 : Int) (g : zi_M) (Q : Int → zi_M → Prop) : Prop := (∀ g1, g1 = zi_u g 214 0 0 → w_M_isIn l1 0 65535 g1 (fun v2 g3 => ((v2 = 0 → Q (-1) g3) ∧ (¬ v2 = 0 → (zi_r (g3 214 7) ∧ ((¬ (g3 214 7) = 8 → ((0 ≤ (236 + (g3 214 7)) ∧ (236 + (g3 214 7)) < 264) ∧ (∀ g7, g7 = zi_u g3 215 (236 + (g3 214 7)) l1 → ((0 ≤ (244 + (g7 214 7)) ∧ (244 + (g7 214 7)) < 264) ∧ (∀ g9, g9 = zi_u g7 215 (244 + (g7 214 7)) 0 → (∀ g10, g10 = zi_u g9 214 7 ((g9 214 7) + 1) → (∀ g11, g11 = zi_u g10 214 3 0 → Q ((g11 214 7) - 1) g11))))))) ∧ ((g3 214 7) = 8 → Q (-1) g3)))))))
set_option maxRecDepth 100000 in
theorem s_M_sitter {E : sx_E} {d : Nat} (hd : 2 ≤ d) {l1 : Int} {g : zi_M} {Q : Int → zi_M → Prop} (h : w_M_sitter l1 g Q) : zi_S E d 193 [.ref 214, zi_i l1] g (zi_Q Q) := by
  refine zi_Sof jf_193 [some (.ref 214), some (zi_i l1)] rfl (And.intro rfl (And.intro rfl trivial)) ?_
  unfold w_M_sitter at h
  refine zi_aload_n (pc' := 1) rfl rfl rfl ?_
  refine zi_iconst (pc' := 2) rfl rfl ?_
  refine zi_puti (pc' := 5) 0 rfl rfl rfl rfl rfl  ?_
  replace h := h _ rfl
  refine zi_aload_n (pc' := 6) rfl rfl rfl ?_
  refine zi_iload_n (pc' := 7) rfl rfl rfl ?_
  refine zi_iconst (pc' := 8) rfl rfl ?_
  refine zi_ldc (v := 65535) (pc' := 10) rfl rfl (by decide +kernel) ?_
  refine zi_callV (d' := 1) (as := [_, _, _]) (pc' := 13) rfl rfl rfl rfl (Nat.lt_of_lt_of_le (by decide) hd) (s_M_isIn (Nat.le_refl _) h) (zi_kb (fun v2 g3 b4 h => ?_))
  refine zi_if_eq (x := 25) (pc' := 16) rfl rfl (zi_r_bit b4)  (fun c13 => ?_) (fun c13 => ?_)
  · replace h := h.1 c13
    refine zi_iconst (pc' := 26) rfl rfl ?_
    exact zi_iret rfl rfl h
  · replace h := h.2 c13
    refine zi_aload_n (pc' := 17) rfl rfl rfl ?_
    refine zi_geti (pc' := 20) 7 rfl rfl rfl rfl rfl rfl ?_
    refine zi_bipush (pc' := 22) rfl rfl (by decide) ?_
    obtain ⟨o5, h⟩ := h
    refine zi_icmp_ne (x := 27) (pc' := 25) rfl rfl o5 (by decide) (fun c12 => ?_) (fun c12 => ?_)
    · replace h := h.1 c12
      refine zi_aload_n (pc' := 28) rfl rfl rfl ?_
      refine zi_getr (pc' := 31) rfl rfl rfl rfl rfl ?_
      refine zi_sipush (pc' := 34) rfl rfl (by decide) ?_
      refine zi_aload_n (pc' := 35) rfl rfl rfl ?_
      refine zi_geti (pc' := 38) 7 rfl rfl rfl rfl rfl rfl ?_
      refine zi_iadd (pc' := 39) rfl rfl ?_
      refine zi_iload_n (pc' := 40) rfl rfl rfl ?_
      obtain ⟨o6, h⟩ := h
      refine zi_iast (pc' := 41) rfl rfl rfl o6 ?_
      replace h := h _ rfl
      refine zi_aload_n (pc' := 42) rfl rfl rfl ?_
      refine zi_getr (pc' := 45) rfl rfl rfl rfl rfl ?_
      refine zi_sipush (pc' := 48) rfl rfl (by decide) ?_
      refine zi_aload_n (pc' := 49) rfl rfl rfl ?_
      refine zi_geti (pc' := 52) 7 rfl rfl rfl rfl rfl rfl ?_
      refine zi_iadd (pc' := 53) rfl rfl ?_
      refine zi_iconst (pc' := 54) rfl rfl ?_
      obtain ⟨o8, h⟩ := h
      refine zi_iast (pc' := 55) rfl rfl rfl o8 ?_
      replace h := h _ rfl
      refine zi_aload_n (pc' := 56) rfl rfl rfl ?_
      refine zi_aload_n (pc' := 57) rfl rfl rfl ?_
      refine zi_geti (pc' := 60) 7 rfl rfl rfl rfl rfl rfl ?_
      refine zi_iconst (pc' := 61) rfl rfl ?_
      refine zi_iadd (pc' := 62) rfl rfl ?_
      refine zi_puti (pc' := 65) 7 rfl rfl rfl rfl rfl  ?_
      replace h := h _ rfl
      refine zi_aload_n (pc' := 66) rfl rfl rfl ?_
      refine zi_iconst (pc' := 67) rfl rfl ?_
      refine zi_puti (pc' := 70) 3 rfl rfl rfl rfl rfl  ?_
      replace h := h _ rfl
      refine zi_aload_n (pc' := 71) rfl rfl rfl ?_
      refine zi_geti (pc' := 74) 7 rfl rfl rfl rfl rfl rfl ?_
      refine zi_iconst (pc' := 75) rfl rfl ?_
      refine zi_isub (pc' := 76) rfl rfl ?_
      exact zi_iret rfl rfl h
    · replace h := h.2 c12
      refine zi_iconst (pc' := 26) rfl rfl ?_
      exact zi_iret rfl rfl h
-- SpoutNews$World.isSpout(I)Z
noncomputable def w_World_isSpout (r0 : Nat) (l1 : Int) (g : zi_M) (Q : Int → zi_M → Prop) : Prop := (zi_r l1 ∧ ((l1 < 0 → Q 0 g) ∧ (0 ≤ l1 → (zi_r (g r0 8) ∧ (((g r0 8) ≤ l1 → Q 0 g) ∧ (l1 < (g r0 8) → Q 1 g))))))
set_option maxRecDepth 100000 in
theorem s_World_isSpout {E : sx_E} {d : Nat} (hd : 1 ≤ d) {r0 : Nat} (hr0 : zs_sh r0 = some (10, 20)) {l1 : Int} {g : zi_M} {Q : Int → zi_M → Prop} (h : w_World_isSpout r0 l1 g Q) : zi_S E d 22 [.ref r0, zi_i l1] g (zi_Qb Q) := by
  refine zi_Sof jf_22 [some (.ref r0), some (zi_i l1)] rfl (And.intro rfl (And.intro rfl trivial)) ?_
  unfold w_World_isSpout at h
  refine zi_iload_n (pc' := 1) rfl rfl rfl ?_
  obtain ⟨o1, h⟩ := h
  refine zi_if_lt (x := 16) (pc' := 4) rfl rfl o1  (fun c4 => ?_) (fun c4 => ?_)
  · replace h := h.1 c4
    refine zi_iconst (pc' := 17) rfl rfl ?_
    exact zi_zret rfl rfl (Or.inl rfl) h
  · replace h := h.2 c4
    refine zi_iload_n (pc' := 5) rfl rfl rfl ?_
    refine zi_aload_n (pc' := 6) rfl rfl rfl ?_
    refine zi_geti (pc' := 9) 8 rfl rfl rfl hr0 rfl rfl ?_
    obtain ⟨o2, h⟩ := h
    refine zi_icmp_ge (x := 16) (pc' := 12) rfl rfl o1 o2 (fun c3 => ?_) (fun c3 => ?_)
    · replace h := h.1 c3
      refine zi_iconst (pc' := 17) rfl rfl ?_
      exact zi_zret rfl rfl (Or.inl rfl) h
    · replace h := h.2 c3
      refine zi_iconst (pc' := 13) rfl rfl ?_
      refine zi_goto (x := 17) rfl ?_
      exact zi_zret rfl rfl (Or.inr rfl) h
-- SpoutNews$World.isSitter(I)Z
noncomputable def w_World_isSitter (l1 : Int) (g : zi_M) (Q : Int → zi_M → Prop) : Prop := (zi_r l1 ∧ ((l1 < 0 → Q 0 g) ∧ (0 ≤ l1 → (zi_r (g 2 11) ∧ (((g 2 11) ≤ l1 → Q 0 g) ∧ (l1 < (g 2 11) → Q 1 g))))))
set_option maxRecDepth 100000 in
theorem s_World_isSitter {E : sx_E} {d : Nat} (hd : 1 ≤ d) {l1 : Int} {g : zi_M} {Q : Int → zi_M → Prop} (h : w_World_isSitter l1 g Q) : zi_S E d 23 [.ref 2, zi_i l1] g (zi_Qb Q) := by
  refine zi_Sof jf_23 [some (.ref 2), some (zi_i l1)] rfl (And.intro rfl (And.intro rfl trivial)) ?_
  unfold w_World_isSitter at h
  refine zi_iload_n (pc' := 1) rfl rfl rfl ?_
  obtain ⟨o1, h⟩ := h
  refine zi_if_lt (x := 16) (pc' := 4) rfl rfl o1  (fun c4 => ?_) (fun c4 => ?_)
  · replace h := h.1 c4
    refine zi_iconst (pc' := 17) rfl rfl ?_
    exact zi_zret rfl rfl (Or.inl rfl) h
  · replace h := h.2 c4
    refine zi_iload_n (pc' := 5) rfl rfl rfl ?_
    refine zi_aload_n (pc' := 6) rfl rfl rfl ?_
    refine zi_geti (pc' := 9) 11 rfl rfl rfl rfl rfl rfl ?_
    obtain ⟨o2, h⟩ := h
    refine zi_icmp_ge (x := 16) (pc' := 12) rfl rfl o1 o2 (fun c3 => ?_) (fun c3 => ?_)
    · replace h := h.1 c3
      refine zi_iconst (pc' := 17) rfl rfl ?_
      exact zi_zret rfl rfl (Or.inl rfl) h
    · replace h := h.2 c3
      refine zi_iconst (pc' := 13) rfl rfl ?_
      refine zi_goto (x := 17) rfl ?_
      exact zi_zret rfl rfl (Or.inr rfl) h
-- SpoutNews.set(III)Z
noncomputable def w_S_set_b163 (l1 : Int) (l2 : Int) (l3 : Int) (l5 : Int) (g : zi_M) (Q : Int → zi_M → Prop) : Prop := (zi_r l5 ∧ ((¬ l5 = 0 → w_Past_forget g (fun _ g6 => (zi_r l1 ∧ ((l1 < 0 ∨ 2 < l1 → ((0 ≤ l2 ∧ l2 < 8) ∧ (∀ g11, g11 = zi_u g6 10 l2 l3 → Q 1 g11))) ∧ (l1 = 0 → (∀ g12, g12 = zi_u g6 2 14 l3 → Q 1 g12)) ∧ (l1 = 1 → ((0 ≤ l2 ∧ l2 < 10) ∧ (∀ g14, g14 = zi_u g6 5 l2 l3 → Q 1 g14))) ∧ (l1 = 2 → ((0 ≤ l2 ∧ l2 < 10) ∧ (∀ g16, g16 = zi_u g6 7 l2 l3 → Q 1 g16))))))) ∧ (l5 = 0 → Q 0 g)))
noncomputable def w_S_set_b18 (l1 : Int) (l2 : Int) (l3 : Int) (s0 : Int) (g : zi_M) (Q : Int → zi_M → Prop) : Prop := (zi_r l1 ∧ ((l1 < 0 ∨ 3 < l1 → w_S_set_b163 l1 l2 l3 0 g Q) ∧ (l1 = 0 → (zi_r s0 ∧ ((s0 = 0 → w_S_set_b163 l1 l2 l3 0 g Q) ∧ (¬ s0 = 0 → (zi_r l3 ∧ ((9 < l3 → w_S_set_b163 l1 l2 l3 0 g Q) ∧ (l3 ≤ 9 → w_S_set_b163 l1 l2 l3 1 g Q))))))) ∧ (l1 = 1 → (zi_r s0 ∧ ((s0 = 0 → w_S_set_b163 l1 l2 l3 0 g Q) ∧ (¬ s0 = 0 → w_World_isSpout 2 l2 g (fun v23 g24 => ((v23 = 0 → w_S_set_b163 l1 l2 l3 0 g24 Q) ∧ (¬ v23 = 0 → (zi_r l3 ∧ ((99 < l3 → w_S_set_b163 l1 l2 l3 0 g24 Q) ∧ (l3 ≤ 99 → w_S_set_b163 l1 l2 l3 1 g24 Q)))))))))) ∧ (l1 = 2 → (zi_r s0 ∧ ((s0 = 0 → w_S_set_b163 l1 l2 l3 0 g Q) ∧ (¬ s0 = 0 → w_World_isSpout 2 l2 g (fun v31 g32 => ((v31 = 0 → w_S_set_b163 l1 l2 l3 0 g32 Q) ∧ (¬ v31 = 0 → (zi_r l3 ∧ ((999 < l3 → w_S_set_b163 l1 l2 l3 0 g32 Q) ∧ (l3 ≤ 999 → w_S_set_b163 l1 l2 l3 1 g32 Q)))))))))) ∧ (l1 = 3 → w_World_isSitter l2 g (fun v38 g39 => ((v38 = 0 → w_S_set_b163 l1 l2 l3 0 g39 Q) ∧ (¬ v38 = 0 → w_S_isWordSet l3 g39 (fun v41 g42 => ((v41 = 0 → w_S_set_b163 l1 l2 l3 0 g42 Q) ∧ (¬ v41 = 0 → w_S_set_b163 l1 l2 l3 1 g42 Q)))))))))
noncomputable def w_S_set (l1 : Int) (l2 : Int) (l3 : Int) (g : zi_M) (Q : Int → zi_M → Prop) : Prop := (zi_r l3 ∧ ((l3 < 0 → w_S_set_b18 l1 l2 l3 0 g Q) ∧ (0 ≤ l3 → w_S_set_b18 l1 l2 l3 1 g Q)))
set_option maxRecDepth 100000 in
theorem s_S_set_b163 {E : sx_E} {d : Nat} (hd : 2 ≤ d) {l1 : Int} {l2 : Int} {l3 : Int} {l5 : Int} {Q : Int → zi_M → Prop} {g : zi_M} (h : w_S_set_b163 l1 l2 l3 l5 g Q) : zi_W E d 21 163 [some (.ref 0), some (zi_i l1), some (zi_i l2), some (zi_i l3), some (.ref 2), some (zi_i l5)] [] g (zi_Qb Q) := by
  unfold w_S_set_b163 at h
  refine zi_iload (pc' := 165) rfl rfl rfl ?_
  obtain ⟨o4, h⟩ := h
  refine zi_if_ne (x := 170) (pc' := 168) rfl rfl o4  (fun c17 => ?_) (fun c17 => ?_)
  · replace h := h.1 c17
    refine zi_aload_n (pc' := 171) rfl rfl rfl ?_
    refine zi_getr (pc' := 174) rfl rfl rfl rfl rfl ?_
    refine zi_callV (d' := 1) (as := []) (pc' := 177) rfl rfl rfl rfl (Nat.lt_of_lt_of_le (by decide) hd) (s_Past_forget (Nat.le_refl _) h) (zi_kv (fun g6 h => ?_))
    refine zi_iload_n (pc' := 178) rfl rfl rfl ?_
    obtain ⟨o8, h⟩ := h
    refine zi_tsw [(0, 204), (1, 213), (2, 224)] 235 rfl rfl o8 (fun c9 => ?_) (And.intro (fun c9 => ?_) (And.intro (fun c9 => ?_) (And.intro (fun c9 => ?_) trivial)))
    · replace h := h.1 c9
      refine zi_aload (pc' := 237) rfl rfl rfl ?_
      refine zi_getr (pc' := 240) rfl rfl rfl rfl rfl ?_
      refine zi_iload_n (pc' := 241) rfl rfl rfl ?_
      refine zi_iload_n (pc' := 242) rfl rfl rfl ?_
      obtain ⟨o10, h⟩ := h
      refine zi_iast (pc' := 243) rfl rfl rfl o10 ?_
      replace h := h _ rfl
      refine zi_iconst (pc' := 244) rfl rfl ?_
      exact zi_zret rfl rfl (Or.inr rfl) h
    · replace h := h.2.1 c9
      refine zi_aload (pc' := 206) rfl rfl rfl ?_
      refine zi_iload_n (pc' := 207) rfl rfl rfl ?_
      refine zi_puti (pc' := 210) 14 rfl rfl rfl rfl rfl  ?_
      replace h := h _ rfl
      refine zi_goto (x := 243) rfl ?_
      refine zi_iconst (pc' := 244) rfl rfl ?_
      exact zi_zret rfl rfl (Or.inr rfl) h
    · replace h := h.2.2.1 c9
      refine zi_aload (pc' := 215) rfl rfl rfl ?_
      refine zi_getr (pc' := 218) rfl rfl rfl rfl rfl ?_
      refine zi_iload_n (pc' := 219) rfl rfl rfl ?_
      refine zi_iload_n (pc' := 220) rfl rfl rfl ?_
      obtain ⟨o13, h⟩ := h
      refine zi_iast (pc' := 221) rfl rfl rfl o13 ?_
      replace h := h _ rfl
      refine zi_goto (x := 243) rfl ?_
      refine zi_iconst (pc' := 244) rfl rfl ?_
      exact zi_zret rfl rfl (Or.inr rfl) h
    · replace h := h.2.2.2 c9
      refine zi_aload (pc' := 226) rfl rfl rfl ?_
      refine zi_getr (pc' := 229) rfl rfl rfl rfl rfl ?_
      refine zi_iload_n (pc' := 230) rfl rfl rfl ?_
      refine zi_iload_n (pc' := 231) rfl rfl rfl ?_
      obtain ⟨o15, h⟩ := h
      refine zi_iast (pc' := 232) rfl rfl rfl o15 ?_
      replace h := h _ rfl
      refine zi_goto (x := 243) rfl ?_
      refine zi_iconst (pc' := 244) rfl rfl ?_
      exact zi_zret rfl rfl (Or.inr rfl) h
  · replace h := h.2 c17
    refine zi_iconst (pc' := 169) rfl rfl ?_
    exact zi_zret rfl rfl (Or.inl rfl) h
set_option maxRecDepth 100000 in
theorem s_S_set_b18 {E : sx_E} {d : Nat} (hd : 2 ≤ d) {l1 : Int} {l2 : Int} {l3 : Int} {s0 : Int} {Q : Int → zi_M → Prop} {g : zi_M} (h : w_S_set_b18 l1 l2 l3 s0 g Q) : zi_W E d 21 18 [some (.ref 0), some (zi_i l1), some (zi_i l2), some (zi_i l3), some (.ref 2), none] [zi_i s0] g (zi_Qb Q) := by
  unfold w_S_set_b18 at h
  refine zi_istore (pc' := 20) [some _, some _, some _, some _, some _, some _] rfl rfl rfl ?_
  refine zi_iload_n (pc' := 21) rfl rfl rfl ?_
  obtain ⟨o2, h⟩ := h
  refine zi_tsw [(0, 52), (1, 73), (2, 103), (3, 134)] 160 rfl rfl o2 (fun c3 => ?_) (And.intro (fun c3 => ?_) (And.intro (fun c3 => ?_) (And.intro (fun c3 => ?_) (And.intro (fun c3 => ?_) trivial))))
  · replace h := h.1 c3
    refine zi_iconst (pc' := 161) rfl rfl ?_
    refine zi_istore (pc' := 163) [some _, some _, some _, some _, some _, some _] rfl rfl rfl ?_
    exact zi_wk (s_S_set_b163 hd h) (And.intro rfl (And.intro rfl (And.intro rfl (And.intro rfl (And.intro rfl (And.intro rfl trivial))))))
  · replace h := h.2.1 c3
    refine zi_iload (pc' := 54) rfl rfl rfl ?_
    obtain ⟨o18, h⟩ := h
    refine zi_if_eq (x := 67) (pc' := 57) rfl rfl o18  (fun c21 => ?_) (fun c21 => ?_)
    · replace h := h.1 c21
      refine zi_iconst (pc' := 68) rfl rfl ?_
      refine zi_istore (pc' := 70) [some _, some _, some _, some _, some _, some _] rfl rfl rfl ?_
      refine zi_goto (x := 163) rfl ?_
      exact zi_wk (s_S_set_b163 hd h) (And.intro rfl (And.intro rfl (And.intro rfl (And.intro rfl (And.intro rfl (And.intro rfl trivial))))))
    · replace h := h.2 c21
      refine zi_iload_n (pc' := 58) rfl rfl rfl ?_
      refine zi_bipush (pc' := 60) rfl rfl (by decide) ?_
      obtain ⟨o19, h⟩ := h
      refine zi_icmp_gt (x := 67) (pc' := 63) rfl rfl o19 (by decide) (fun c20 => ?_) (fun c20 => ?_)
      · replace h := h.1 c20
        refine zi_iconst (pc' := 68) rfl rfl ?_
        refine zi_istore (pc' := 70) [some _, some _, some _, some _, some _, some _] rfl rfl rfl ?_
        refine zi_goto (x := 163) rfl ?_
        exact zi_wk (s_S_set_b163 hd h) (And.intro rfl (And.intro rfl (And.intro rfl (And.intro rfl (And.intro rfl (And.intro rfl trivial))))))
      · replace h := h.2 c20
        refine zi_iconst (pc' := 64) rfl rfl ?_
        refine zi_goto (x := 68) rfl ?_
        refine zi_istore (pc' := 70) [some _, some _, some _, some _, some _, some _] rfl rfl rfl ?_
        refine zi_goto (x := 163) rfl ?_
        exact zi_wk (s_S_set_b163 hd h) (And.intro rfl (And.intro rfl (And.intro rfl (And.intro rfl (And.intro rfl (And.intro rfl trivial))))))
  · replace h := h.2.2.1 c3
    refine zi_iload (pc' := 75) rfl rfl rfl ?_
    obtain ⟨o22, h⟩ := h
    refine zi_if_eq (x := 97) (pc' := 78) rfl rfl o22  (fun c29 => ?_) (fun c29 => ?_)
    · replace h := h.1 c29
      refine zi_iconst (pc' := 98) rfl rfl ?_
      refine zi_istore (pc' := 100) [some _, some _, some _, some _, some _, some _] rfl rfl rfl ?_
      refine zi_goto (x := 163) rfl ?_
      exact zi_wk (s_S_set_b163 hd h) (And.intro rfl (And.intro rfl (And.intro rfl (And.intro rfl (And.intro rfl (And.intro rfl trivial))))))
    · replace h := h.2 c29
      refine zi_aload (pc' := 80) rfl rfl rfl ?_
      refine zi_iload_n (pc' := 81) rfl rfl rfl ?_
      refine zi_callV (d' := 1) (as := [_]) (pc' := 84) rfl rfl rfl rfl (Nat.lt_of_lt_of_le (by decide) hd) (s_World_isSpout (Nat.le_refl _) rfl h) (zi_kb (fun v23 g24 b25 h => ?_))
      refine zi_if_eq (x := 97) (pc' := 87) rfl rfl (zi_r_bit b25)  (fun c28 => ?_) (fun c28 => ?_)
      · replace h := h.1 c28
        refine zi_iconst (pc' := 98) rfl rfl ?_
        refine zi_istore (pc' := 100) [some _, some _, some _, some _, some _, some _] rfl rfl rfl ?_
        refine zi_goto (x := 163) rfl ?_
        exact zi_wk (s_S_set_b163 hd h) (And.intro rfl (And.intro rfl (And.intro rfl (And.intro rfl (And.intro rfl (And.intro rfl trivial))))))
      · replace h := h.2 c28
        refine zi_iload_n (pc' := 88) rfl rfl rfl ?_
        refine zi_bipush (pc' := 90) rfl rfl (by decide) ?_
        obtain ⟨o26, h⟩ := h
        refine zi_icmp_gt (x := 97) (pc' := 93) rfl rfl o26 (by decide) (fun c27 => ?_) (fun c27 => ?_)
        · replace h := h.1 c27
          refine zi_iconst (pc' := 98) rfl rfl ?_
          refine zi_istore (pc' := 100) [some _, some _, some _, some _, some _, some _] rfl rfl rfl ?_
          refine zi_goto (x := 163) rfl ?_
          exact zi_wk (s_S_set_b163 hd h) (And.intro rfl (And.intro rfl (And.intro rfl (And.intro rfl (And.intro rfl (And.intro rfl trivial))))))
        · replace h := h.2 c27
          refine zi_iconst (pc' := 94) rfl rfl ?_
          refine zi_goto (x := 98) rfl ?_
          refine zi_istore (pc' := 100) [some _, some _, some _, some _, some _, some _] rfl rfl rfl ?_
          refine zi_goto (x := 163) rfl ?_
          exact zi_wk (s_S_set_b163 hd h) (And.intro rfl (And.intro rfl (And.intro rfl (And.intro rfl (And.intro rfl (And.intro rfl trivial))))))
  · replace h := h.2.2.2.1 c3
    refine zi_iload (pc' := 105) rfl rfl rfl ?_
    obtain ⟨o30, h⟩ := h
    refine zi_if_eq (x := 128) (pc' := 108) rfl rfl o30  (fun c37 => ?_) (fun c37 => ?_)
    · replace h := h.1 c37
      refine zi_iconst (pc' := 129) rfl rfl ?_
      refine zi_istore (pc' := 131) [some _, some _, some _, some _, some _, some _] rfl rfl rfl ?_
      refine zi_goto (x := 163) rfl ?_
      exact zi_wk (s_S_set_b163 hd h) (And.intro rfl (And.intro rfl (And.intro rfl (And.intro rfl (And.intro rfl (And.intro rfl trivial))))))
    · replace h := h.2 c37
      refine zi_aload (pc' := 110) rfl rfl rfl ?_
      refine zi_iload_n (pc' := 111) rfl rfl rfl ?_
      refine zi_callV (d' := 1) (as := [_]) (pc' := 114) rfl rfl rfl rfl (Nat.lt_of_lt_of_le (by decide) hd) (s_World_isSpout (Nat.le_refl _) rfl h) (zi_kb (fun v31 g32 b33 h => ?_))
      refine zi_if_eq (x := 128) (pc' := 117) rfl rfl (zi_r_bit b33)  (fun c36 => ?_) (fun c36 => ?_)
      · replace h := h.1 c36
        refine zi_iconst (pc' := 129) rfl rfl ?_
        refine zi_istore (pc' := 131) [some _, some _, some _, some _, some _, some _] rfl rfl rfl ?_
        refine zi_goto (x := 163) rfl ?_
        exact zi_wk (s_S_set_b163 hd h) (And.intro rfl (And.intro rfl (And.intro rfl (And.intro rfl (And.intro rfl (And.intro rfl trivial))))))
      · replace h := h.2 c36
        refine zi_iload_n (pc' := 118) rfl rfl rfl ?_
        refine zi_sipush (pc' := 121) rfl rfl (by decide) ?_
        obtain ⟨o34, h⟩ := h
        refine zi_icmp_gt (x := 128) (pc' := 124) rfl rfl o34 (by decide) (fun c35 => ?_) (fun c35 => ?_)
        · replace h := h.1 c35
          refine zi_iconst (pc' := 129) rfl rfl ?_
          refine zi_istore (pc' := 131) [some _, some _, some _, some _, some _, some _] rfl rfl rfl ?_
          refine zi_goto (x := 163) rfl ?_
          exact zi_wk (s_S_set_b163 hd h) (And.intro rfl (And.intro rfl (And.intro rfl (And.intro rfl (And.intro rfl (And.intro rfl trivial))))))
        · replace h := h.2 c35
          refine zi_iconst (pc' := 125) rfl rfl ?_
          refine zi_goto (x := 129) rfl ?_
          refine zi_istore (pc' := 131) [some _, some _, some _, some _, some _, some _] rfl rfl rfl ?_
          refine zi_goto (x := 163) rfl ?_
          exact zi_wk (s_S_set_b163 hd h) (And.intro rfl (And.intro rfl (And.intro rfl (And.intro rfl (And.intro rfl (And.intro rfl trivial))))))
  · replace h := h.2.2.2.2 c3
    refine zi_aload (pc' := 136) rfl rfl rfl ?_
    refine zi_iload_n (pc' := 137) rfl rfl rfl ?_
    refine zi_callV (d' := 1) (as := [_]) (pc' := 140) rfl rfl rfl rfl (Nat.lt_of_lt_of_le (by decide) hd) (s_World_isSitter (Nat.le_refl _) h) (zi_kb (fun v38 g39 b40 h => ?_))
    refine zi_if_eq (x := 154) (pc' := 143) rfl rfl (zi_r_bit b40)  (fun c45 => ?_) (fun c45 => ?_)
    · replace h := h.1 c45
      refine zi_iconst (pc' := 155) rfl rfl ?_
      refine zi_istore (pc' := 157) [some _, some _, some _, some _, some _, some _] rfl rfl rfl ?_
      refine zi_goto (x := 163) rfl ?_
      exact zi_wk (s_S_set_b163 hd h) (And.intro rfl (And.intro rfl (And.intro rfl (And.intro rfl (And.intro rfl (And.intro rfl trivial))))))
    · replace h := h.2 c45
      refine zi_iload_n (pc' := 144) rfl rfl rfl ?_
      refine zi_callS (d' := 1) (as := [_]) (pc' := 147) rfl rfl rfl (Nat.lt_of_lt_of_le (by decide) hd) (s_S_isWordSet (Nat.le_refl _) h) (zi_kb (fun v41 g42 b43 h => ?_))
      refine zi_if_eq (x := 154) (pc' := 150) rfl rfl (zi_r_bit b43)  (fun c44 => ?_) (fun c44 => ?_)
      · replace h := h.1 c44
        refine zi_iconst (pc' := 155) rfl rfl ?_
        refine zi_istore (pc' := 157) [some _, some _, some _, some _, some _, some _] rfl rfl rfl ?_
        refine zi_goto (x := 163) rfl ?_
        exact zi_wk (s_S_set_b163 hd h) (And.intro rfl (And.intro rfl (And.intro rfl (And.intro rfl (And.intro rfl (And.intro rfl trivial))))))
      · replace h := h.2 c44
        refine zi_iconst (pc' := 151) rfl rfl ?_
        refine zi_goto (x := 155) rfl ?_
        refine zi_istore (pc' := 157) [some _, some _, some _, some _, some _, some _] rfl rfl rfl ?_
        refine zi_goto (x := 163) rfl ?_
        exact zi_wk (s_S_set_b163 hd h) (And.intro rfl (And.intro rfl (And.intro rfl (And.intro rfl (And.intro rfl (And.intro rfl trivial))))))
set_option maxRecDepth 100000 in
theorem s_S_set {E : sx_E} {d : Nat} (hd : 2 ≤ d) {l1 : Int} {l2 : Int} {l3 : Int} {g : zi_M} {Q : Int → zi_M → Prop} (h : w_S_set l1 l2 l3 g Q) : zi_S E d 21 [.ref 0, zi_i l1, zi_i l2, zi_i l3] g (zi_Qb Q) := by
  refine zi_Sof jf_21 [some (.ref 0), some (zi_i l1), some (zi_i l2), some (zi_i l3), none, none] rfl (And.intro rfl (And.intro rfl (And.intro rfl (And.intro rfl trivial)))) ?_
  unfold w_S_set at h
  refine zi_aload_n (pc' := 1) rfl rfl rfl ?_
  refine zi_getr (pc' := 4) rfl rfl rfl rfl rfl ?_
  refine zi_getr (pc' := 7) rfl rfl rfl rfl rfl ?_
  refine zi_astore (pc' := 9) [some _, some _, some _, some _, some _, none] rfl rfl rfl ?_
  refine zi_iload_n (pc' := 10) rfl rfl rfl ?_
  obtain ⟨o1, h⟩ := h
  refine zi_if_lt (x := 17) (pc' := 13) rfl rfl o1  (fun c46 => ?_) (fun c46 => ?_)
  · replace h := h.1 c46
    refine zi_iconst (pc' := 18) rfl rfl ?_
    exact zi_wk (s_S_set_b18 hd h) (And.intro rfl (And.intro rfl (And.intro rfl (And.intro rfl (And.intro rfl trivial)))))
  · replace h := h.2 c46
    refine zi_iconst (pc' := 14) rfl rfl ?_
    refine zi_goto (x := 18) rfl ?_
    exact zi_wk (s_S_set_b18 hd h) (And.intro rfl (And.intro rfl (And.intro rfl (And.intro rfl (And.intro rfl trivial)))))
-- SpoutNewsModel.isSpout(I)Z
noncomputable def w_M_isSpout (l1 : Int) (g : zi_M) (Q : Int → zi_M → Prop) : Prop := (zi_r l1 ∧ ((l1 < 0 → Q 0 g) ∧ (0 ≤ l1 → (zi_r (g 214 6) ∧ (((g 214 6) ≤ l1 → Q 0 g) ∧ (l1 < (g 214 6) → Q 1 g))))))
set_option maxRecDepth 100000 in
theorem s_M_isSpout {E : sx_E} {d : Nat} (hd : 1 ≤ d) {l1 : Int} {g : zi_M} {Q : Int → zi_M → Prop} (h : w_M_isSpout l1 g Q) : zi_S E d 197 [.ref 214, zi_i l1] g (zi_Qb Q) := by
  refine zi_Sof jf_197 [some (.ref 214), some (zi_i l1)] rfl (And.intro rfl (And.intro rfl trivial)) ?_
  unfold w_M_isSpout at h
  refine zi_iload_n (pc' := 1) rfl rfl rfl ?_
  obtain ⟨o1, h⟩ := h
  refine zi_if_lt (x := 16) (pc' := 4) rfl rfl o1  (fun c4 => ?_) (fun c4 => ?_)
  · replace h := h.1 c4
    refine zi_iconst (pc' := 17) rfl rfl ?_
    exact zi_zret rfl rfl (Or.inl rfl) h
  · replace h := h.2 c4
    refine zi_iload_n (pc' := 5) rfl rfl rfl ?_
    refine zi_aload_n (pc' := 6) rfl rfl rfl ?_
    refine zi_geti (pc' := 9) 6 rfl rfl rfl rfl rfl rfl ?_
    obtain ⟨o2, h⟩ := h
    refine zi_icmp_ge (x := 16) (pc' := 12) rfl rfl o1 o2 (fun c3 => ?_) (fun c3 => ?_)
    · replace h := h.1 c3
      refine zi_iconst (pc' := 17) rfl rfl ?_
      exact zi_zret rfl rfl (Or.inl rfl) h
    · replace h := h.2 c3
      refine zi_iconst (pc' := 13) rfl rfl ?_
      refine zi_goto (x := 17) rfl ?_
      exact zi_zret rfl rfl (Or.inr rfl) h
-- SpoutNewsModel.isSitter(I)Z
noncomputable def w_M_isSitter (l1 : Int) (g : zi_M) (Q : Int → zi_M → Prop) : Prop := (zi_r l1 ∧ ((l1 < 0 → Q 0 g) ∧ (0 ≤ l1 → (zi_r (g 214 7) ∧ (((g 214 7) ≤ l1 → Q 0 g) ∧ (l1 < (g 214 7) → Q 1 g))))))
set_option maxRecDepth 100000 in
theorem s_M_isSitter {E : sx_E} {d : Nat} (hd : 1 ≤ d) {l1 : Int} {g : zi_M} {Q : Int → zi_M → Prop} (h : w_M_isSitter l1 g Q) : zi_S E d 196 [.ref 214, zi_i l1] g (zi_Qb Q) := by
  refine zi_Sof jf_196 [some (.ref 214), some (zi_i l1)] rfl (And.intro rfl (And.intro rfl trivial)) ?_
  unfold w_M_isSitter at h
  refine zi_iload_n (pc' := 1) rfl rfl rfl ?_
  obtain ⟨o1, h⟩ := h
  refine zi_if_lt (x := 16) (pc' := 4) rfl rfl o1  (fun c4 => ?_) (fun c4 => ?_)
  · replace h := h.1 c4
    refine zi_iconst (pc' := 17) rfl rfl ?_
    exact zi_zret rfl rfl (Or.inl rfl) h
  · replace h := h.2 c4
    refine zi_iload_n (pc' := 5) rfl rfl rfl ?_
    refine zi_aload_n (pc' := 6) rfl rfl rfl ?_
    refine zi_geti (pc' := 9) 7 rfl rfl rfl rfl rfl rfl ?_
    obtain ⟨o2, h⟩ := h
    refine zi_icmp_ge (x := 16) (pc' := 12) rfl rfl o1 o2 (fun c3 => ?_) (fun c3 => ?_)
    · replace h := h.1 c3
      refine zi_iconst (pc' := 17) rfl rfl ?_
      exact zi_zret rfl rfl (Or.inl rfl) h
    · replace h := h.2 c3
      refine zi_iconst (pc' := 13) rfl rfl ?_
      refine zi_goto (x := 17) rfl ?_
      exact zi_zret rfl rfl (Or.inr rfl) h
-- SpoutNewsModel.canSet(III)Z
noncomputable def w_M_canSet (l1 : Int) (l2 : Int) (l3 : Int) (g : zi_M) (Q : Int → zi_M → Prop) : Prop := (zi_r l1 ∧ ((¬ l1 = 0 → ((¬ l1 = 3 → w_M_isIn l1 1 2 g (fun v2 g3 => ((v2 = 0 → Q 0 g3) ∧ (¬ v2 = 0 → w_M_isSpout l2 g3 (fun v5 g6 => ((v5 = 0 → Q 0 g6) ∧ (¬ v5 = 0 → ((¬ l1 = 1 → w_M_isIn l3 0 999 g6 (fun v8 g9 => ((v8 = 0 → Q 0 g9) ∧ (¬ v8 = 0 → Q 1 g9)))) ∧ (l1 = 1 → w_M_isIn l3 0 99 g6 (fun v12 g13 => ((v12 = 0 → Q 0 g13) ∧ (¬ v12 = 0 → Q 1 g13)))))))))))) ∧ (l1 = 3 → w_M_isSitter l2 g (fun v19 g20 => ((v19 = 0 → Q 0 g20) ∧ (¬ v19 = 0 → w_M_isIn l3 0 65535 g20 (fun v22 g23 => ((v22 = 0 → Q 0 g23) ∧ (¬ v22 = 0 → Q 1 g23))))))))) ∧ (l1 = 0 → w_M_isIn l3 0 9 g (fun v28 g29 => Q v28 g29))))
set_option maxRecDepth 100000 in
theorem s_M_canSet {E : sx_E} {d : Nat} (hd : 2 ≤ d) {l1 : Int} {l2 : Int} {l3 : Int} {g : zi_M} {Q : Int → zi_M → Prop} (h : w_M_canSet l1 l2 l3 g Q) : zi_S E d 195 [.ref 214, zi_i l1, zi_i l2, zi_i l3] g (zi_Qb Q) := by
  refine zi_Sof jf_195 [some (.ref 214), some (zi_i l1), some (zi_i l2), some (zi_i l3)] rfl (And.intro rfl (And.intro rfl (And.intro rfl (And.intro rfl trivial)))) ?_
  unfold w_M_canSet at h
  refine zi_iload_n (pc' := 1) rfl rfl rfl ?_
  obtain ⟨o1, h⟩ := h
  refine zi_if_ne (x := 13) (pc' := 4) rfl rfl o1  (fun c31 => ?_) (fun c31 => ?_)
  · replace h := h.1 c31
    refine zi_iload_n (pc' := 14) rfl rfl rfl ?_
    refine zi_iconst (pc' := 15) rfl rfl ?_
    refine zi_icmp_ne (x := 43) (pc' := 18) rfl rfl o1 (by decide) (fun c27 => ?_) (fun c27 => ?_)
    · replace h := h.1 c27
      refine zi_aload_n (pc' := 44) rfl rfl rfl ?_
      refine zi_iload_n (pc' := 45) rfl rfl rfl ?_
      refine zi_iconst (pc' := 46) rfl rfl ?_
      refine zi_iconst (pc' := 47) rfl rfl ?_
      refine zi_callV (d' := 1) (as := [_, _, _]) (pc' := 50) rfl rfl rfl rfl (Nat.lt_of_lt_of_le (by decide) hd) (s_M_isIn (Nat.le_refl _) h) (zi_kb (fun v2 g3 b4 h => ?_))
      refine zi_if_eq (x := 87) (pc' := 53) rfl rfl (zi_r_bit b4)  (fun c18 => ?_) (fun c18 => ?_)
      · replace h := h.1 c18
        refine zi_iconst (pc' := 88) rfl rfl ?_
        exact zi_zret rfl rfl (Or.inl rfl) h
      · replace h := h.2 c18
        refine zi_aload_n (pc' := 54) rfl rfl rfl ?_
        refine zi_iload_n (pc' := 55) rfl rfl rfl ?_
        refine zi_callV (d' := 1) (as := [_]) (pc' := 58) rfl rfl rfl rfl (Nat.lt_of_lt_of_le (by decide) hd) (s_M_isSpout (Nat.le_refl _) h) (zi_kb (fun v5 g6 b7 h => ?_))
        refine zi_if_eq (x := 87) (pc' := 61) rfl rfl (zi_r_bit b7)  (fun c17 => ?_) (fun c17 => ?_)
        · replace h := h.1 c17
          refine zi_iconst (pc' := 88) rfl rfl ?_
          exact zi_zret rfl rfl (Or.inl rfl) h
        · replace h := h.2 c17
          refine zi_aload_n (pc' := 62) rfl rfl rfl ?_
          refine zi_iload_n (pc' := 63) rfl rfl rfl ?_
          refine zi_iconst (pc' := 64) rfl rfl ?_
          refine zi_iload_n (pc' := 65) rfl rfl rfl ?_
          refine zi_iconst (pc' := 66) rfl rfl ?_
          refine zi_icmp_ne (x := 74) (pc' := 69) rfl rfl o1 (by decide) (fun c16 => ?_) (fun c16 => ?_)
          · replace h := h.1 c16
            refine zi_sipush (pc' := 77) rfl rfl (by decide) ?_
            refine zi_callV (d' := 1) (as := [_, _, _]) (pc' := 80) rfl rfl rfl rfl (Nat.lt_of_lt_of_le (by decide) hd) (s_M_isIn (Nat.le_refl _) h) (zi_kb (fun v8 g9 b10 h => ?_))
            refine zi_if_eq (x := 87) (pc' := 83) rfl rfl (zi_r_bit b10)  (fun c11 => ?_) (fun c11 => ?_)
            · replace h := h.1 c11
              refine zi_iconst (pc' := 88) rfl rfl ?_
              exact zi_zret rfl rfl (Or.inl rfl) h
            · replace h := h.2 c11
              refine zi_iconst (pc' := 84) rfl rfl ?_
              refine zi_goto (x := 88) rfl ?_
              exact zi_zret rfl rfl (Or.inr rfl) h
          · replace h := h.2 c16
            refine zi_bipush (pc' := 71) rfl rfl (by decide) ?_
            refine zi_goto (x := 77) rfl ?_
            refine zi_callV (d' := 1) (as := [_, _, _]) (pc' := 80) rfl rfl rfl rfl (Nat.lt_of_lt_of_le (by decide) hd) (s_M_isIn (Nat.le_refl _) h) (zi_kb (fun v12 g13 b14 h => ?_))
            refine zi_if_eq (x := 87) (pc' := 83) rfl rfl (zi_r_bit b14)  (fun c15 => ?_) (fun c15 => ?_)
            · replace h := h.1 c15
              refine zi_iconst (pc' := 88) rfl rfl ?_
              exact zi_zret rfl rfl (Or.inl rfl) h
            · replace h := h.2 c15
              refine zi_iconst (pc' := 84) rfl rfl ?_
              refine zi_goto (x := 88) rfl ?_
              exact zi_zret rfl rfl (Or.inr rfl) h
    · replace h := h.2 c27
      refine zi_aload_n (pc' := 19) rfl rfl rfl ?_
      refine zi_iload_n (pc' := 20) rfl rfl rfl ?_
      refine zi_callV (d' := 1) (as := [_]) (pc' := 23) rfl rfl rfl rfl (Nat.lt_of_lt_of_le (by decide) hd) (s_M_isSitter (Nat.le_refl _) h) (zi_kb (fun v19 g20 b21 h => ?_))
      refine zi_if_eq (x := 41) (pc' := 26) rfl rfl (zi_r_bit b21)  (fun c26 => ?_) (fun c26 => ?_)
      · replace h := h.1 c26
        refine zi_iconst (pc' := 42) rfl rfl ?_
        exact zi_zret rfl rfl (Or.inl rfl) h
      · replace h := h.2 c26
        refine zi_aload_n (pc' := 27) rfl rfl rfl ?_
        refine zi_iload_n (pc' := 28) rfl rfl rfl ?_
        refine zi_iconst (pc' := 29) rfl rfl ?_
        refine zi_ldc (v := 65535) (pc' := 31) rfl rfl (by decide +kernel) ?_
        refine zi_callV (d' := 1) (as := [_, _, _]) (pc' := 34) rfl rfl rfl rfl (Nat.lt_of_lt_of_le (by decide) hd) (s_M_isIn (Nat.le_refl _) h) (zi_kb (fun v22 g23 b24 h => ?_))
        refine zi_if_eq (x := 41) (pc' := 37) rfl rfl (zi_r_bit b24)  (fun c25 => ?_) (fun c25 => ?_)
        · replace h := h.1 c25
          refine zi_iconst (pc' := 42) rfl rfl ?_
          exact zi_zret rfl rfl (Or.inl rfl) h
        · replace h := h.2 c25
          refine zi_iconst (pc' := 38) rfl rfl ?_
          refine zi_goto (x := 42) rfl ?_
          exact zi_zret rfl rfl (Or.inr rfl) h
  · replace h := h.2 c31
    refine zi_aload_n (pc' := 5) rfl rfl rfl ?_
    refine zi_iload_n (pc' := 6) rfl rfl rfl ?_
    refine zi_iconst (pc' := 7) rfl rfl ?_
    refine zi_bipush (pc' := 9) rfl rfl (by decide) ?_
    refine zi_callV (d' := 1) (as := [_, _, _]) (pc' := 12) rfl rfl rfl rfl (Nat.lt_of_lt_of_le (by decide) hd) (s_M_isIn (Nat.le_refl _) h) (zi_kb (fun v28 g29 b30 h => ?_))
    exact zi_zret rfl rfl b30 h
-- SpoutNewsModel.set(III)Z
noncomputable def w_M_set_b55 (l1 : Int) (l2 : Int) (l3 : Int) (g : zi_M) (Q : Int → zi_M → Prop) : Prop := (zi_r l1 ∧ ((¬ l1 = 3 → (∀ g9, g9 = zi_u g 214 3 0 → Q 1 g9)) ∧ (l1 = 3 → ((0 ≤ (236 + l2) ∧ (236 + l2) < 264) ∧ (∀ g11, g11 = zi_u g 215 (236 + l2) l3 → (∀ g12, g12 = zi_u g11 214 3 0 → Q 1 g12))))))
noncomputable def w_M_set_b40 (l1 : Int) (l2 : Int) (l3 : Int) (g : zi_M) (Q : Int → zi_M → Prop) : Prop := (zi_r l1 ∧ ((¬ l1 = 2 → w_M_set_b55 l1 l2 l3 g Q) ∧ (l1 = 2 → ((0 ≤ (16 + l2) ∧ (16 + l2) < 264) ∧ (∀ g15, g15 = zi_u g 215 (16 + l2) l3 → w_M_set_b55 l1 l2 l3 g15 Q)))))
noncomputable def w_M_set_b28 (l1 : Int) (l2 : Int) (l3 : Int) (g : zi_M) (Q : Int → zi_M → Prop) : Prop := (zi_r l1 ∧ ((¬ l1 = 1 → w_M_set_b40 l1 l2 l3 g Q) ∧ (l1 = 1 → ((0 ≤ l2 ∧ l2 < 10) ∧ (∀ g18, g18 = zi_u g 220 l2 l3 → w_M_set_b40 l1 l2 l3 g18 Q)))))
noncomputable def w_M_set (l1 : Int) (l2 : Int) (l3 : Int) (g : zi_M) (Q : Int → zi_M → Prop) : Prop := (∀ g1, g1 = zi_u g 214 0 0 → w_M_canSet l1 l2 l3 g1 (fun v2 g3 => ((¬ v2 = 0 → (zi_r l1 ∧ ((¬ l1 = 0 → w_M_set_b28 l1 l2 l3 g3 Q) ∧ (l1 = 0 → (∀ g20, g20 = zi_u g3 215 3 l3 → w_M_set_b28 l1 l2 l3 g20 Q))))) ∧ (v2 = 0 → Q 0 g3))))
set_option maxRecDepth 100000 in
theorem s_M_set_b55 {E : sx_E} {d : Nat} (hd : 3 ≤ d) {l1 : Int} {l2 : Int} {l3 : Int} {Q : Int → zi_M → Prop} {g : zi_M} (h : w_M_set_b55 l1 l2 l3 g Q) : zi_W E d 194 55 [some (.ref 214), some (zi_i l1), some (zi_i l2), some (zi_i l3)] [] g (zi_Qb Q) := by
  unfold w_M_set_b55 at h
  refine zi_iload_n (pc' := 56) rfl rfl rfl ?_
  refine zi_iconst (pc' := 57) rfl rfl ?_
  obtain ⟨o8, h⟩ := h
  refine zi_icmp_ne (x := 71) (pc' := 60) rfl rfl o8 (by decide) (fun c13 => ?_) (fun c13 => ?_)
  · replace h := h.1 c13
    refine zi_aload_n (pc' := 72) rfl rfl rfl ?_
    refine zi_iconst (pc' := 73) rfl rfl ?_
    refine zi_puti (pc' := 76) 3 rfl rfl rfl rfl rfl  ?_
    replace h := h _ rfl
    refine zi_iconst (pc' := 77) rfl rfl ?_
    exact zi_zret rfl rfl (Or.inr rfl) h
  · replace h := h.2 c13
    refine zi_aload_n (pc' := 61) rfl rfl rfl ?_
    refine zi_getr (pc' := 64) rfl rfl rfl rfl rfl ?_
    refine zi_sipush (pc' := 67) rfl rfl (by decide) ?_
    refine zi_iload_n (pc' := 68) rfl rfl rfl ?_
    refine zi_iadd (pc' := 69) rfl rfl ?_
    refine zi_iload_n (pc' := 70) rfl rfl rfl ?_
    obtain ⟨o10, h⟩ := h
    refine zi_iast (pc' := 71) rfl rfl rfl o10 ?_
    replace h := h _ rfl
    refine zi_aload_n (pc' := 72) rfl rfl rfl ?_
    refine zi_iconst (pc' := 73) rfl rfl ?_
    refine zi_puti (pc' := 76) 3 rfl rfl rfl rfl rfl  ?_
    replace h := h _ rfl
    refine zi_iconst (pc' := 77) rfl rfl ?_
    exact zi_zret rfl rfl (Or.inr rfl) h
set_option maxRecDepth 100000 in
theorem s_M_set_b40 {E : sx_E} {d : Nat} (hd : 3 ≤ d) {l1 : Int} {l2 : Int} {l3 : Int} {Q : Int → zi_M → Prop} {g : zi_M} (h : w_M_set_b40 l1 l2 l3 g Q) : zi_W E d 194 40 [some (.ref 214), some (zi_i l1), some (zi_i l2), some (zi_i l3)] [] g (zi_Qb Q) := by
  unfold w_M_set_b40 at h
  refine zi_iload_n (pc' := 41) rfl rfl rfl ?_
  refine zi_iconst (pc' := 42) rfl rfl ?_
  obtain ⟨o7, h⟩ := h
  refine zi_icmp_ne (x := 55) (pc' := 45) rfl rfl o7 (by decide) (fun c16 => ?_) (fun c16 => ?_)
  · replace h := h.1 c16
    exact zi_wk (s_M_set_b55 hd h) (And.intro rfl (And.intro rfl (And.intro rfl (And.intro rfl trivial))))
  · replace h := h.2 c16
    refine zi_aload_n (pc' := 46) rfl rfl rfl ?_
    refine zi_getr (pc' := 49) rfl rfl rfl rfl rfl ?_
    refine zi_bipush (pc' := 51) rfl rfl (by decide) ?_
    refine zi_iload_n (pc' := 52) rfl rfl rfl ?_
    refine zi_iadd (pc' := 53) rfl rfl ?_
    refine zi_iload_n (pc' := 54) rfl rfl rfl ?_
    obtain ⟨o14, h⟩ := h
    refine zi_iast (pc' := 55) rfl rfl rfl o14 ?_
    replace h := h _ rfl
    exact zi_wk (s_M_set_b55 hd h) (And.intro rfl (And.intro rfl (And.intro rfl (And.intro rfl trivial))))
set_option maxRecDepth 100000 in
theorem s_M_set_b28 {E : sx_E} {d : Nat} (hd : 3 ≤ d) {l1 : Int} {l2 : Int} {l3 : Int} {Q : Int → zi_M → Prop} {g : zi_M} (h : w_M_set_b28 l1 l2 l3 g Q) : zi_W E d 194 28 [some (.ref 214), some (zi_i l1), some (zi_i l2), some (zi_i l3)] [] g (zi_Qb Q) := by
  unfold w_M_set_b28 at h
  refine zi_iload_n (pc' := 29) rfl rfl rfl ?_
  refine zi_iconst (pc' := 30) rfl rfl ?_
  obtain ⟨o6, h⟩ := h
  refine zi_icmp_ne (x := 40) (pc' := 33) rfl rfl o6 (by decide) (fun c19 => ?_) (fun c19 => ?_)
  · replace h := h.1 c19
    exact zi_wk (s_M_set_b40 hd h) (And.intro rfl (And.intro rfl (And.intro rfl (And.intro rfl trivial))))
  · replace h := h.2 c19
    refine zi_aload_n (pc' := 34) rfl rfl rfl ?_
    refine zi_getr (pc' := 37) rfl rfl rfl rfl rfl ?_
    refine zi_iload_n (pc' := 38) rfl rfl rfl ?_
    refine zi_iload_n (pc' := 39) rfl rfl rfl ?_
    obtain ⟨o17, h⟩ := h
    refine zi_iast (pc' := 40) rfl rfl rfl o17 ?_
    replace h := h _ rfl
    exact zi_wk (s_M_set_b40 hd h) (And.intro rfl (And.intro rfl (And.intro rfl (And.intro rfl trivial))))
set_option maxRecDepth 100000 in
theorem s_M_set {E : sx_E} {d : Nat} (hd : 3 ≤ d) {l1 : Int} {l2 : Int} {l3 : Int} {g : zi_M} {Q : Int → zi_M → Prop} (h : w_M_set l1 l2 l3 g Q) : zi_S E d 194 [.ref 214, zi_i l1, zi_i l2, zi_i l3] g (zi_Qb Q) := by
  refine zi_Sof jf_194 [some (.ref 214), some (zi_i l1), some (zi_i l2), some (zi_i l3)] rfl (And.intro rfl (And.intro rfl (And.intro rfl (And.intro rfl trivial)))) ?_
  unfold w_M_set at h
  refine zi_aload_n (pc' := 1) rfl rfl rfl ?_
  refine zi_iconst (pc' := 2) rfl rfl ?_
  refine zi_puti (pc' := 5) 0 rfl rfl rfl rfl rfl  ?_
  replace h := h _ rfl
  refine zi_aload_n (pc' := 6) rfl rfl rfl ?_
  refine zi_iload_n (pc' := 7) rfl rfl rfl ?_
  refine zi_iload_n (pc' := 8) rfl rfl rfl ?_
  refine zi_iload_n (pc' := 9) rfl rfl rfl ?_
  refine zi_callV (d' := 2) (as := [_, _, _]) (pc' := 12) rfl rfl rfl rfl (Nat.lt_of_lt_of_le (by decide) hd) (s_M_canSet (Nat.le_refl _) h) (zi_kb (fun v2 g3 b4 h => ?_))
  refine zi_if_ne (x := 17) (pc' := 15) rfl rfl (zi_r_bit b4)  (fun c22 => ?_) (fun c22 => ?_)
  · replace h := h.1 c22
    refine zi_iload_n (pc' := 18) rfl rfl rfl ?_
    obtain ⟨o5, h⟩ := h
    refine zi_if_ne (x := 28) (pc' := 21) rfl rfl o5  (fun c21 => ?_) (fun c21 => ?_)
    · replace h := h.1 c21
      exact zi_wk (s_M_set_b28 hd h) (And.intro rfl (And.intro rfl (And.intro rfl (And.intro rfl trivial))))
    · replace h := h.2 c21
      refine zi_aload_n (pc' := 22) rfl rfl rfl ?_
      refine zi_getr (pc' := 25) rfl rfl rfl rfl rfl ?_
      refine zi_iconst (pc' := 26) rfl rfl ?_
      refine zi_iload_n (pc' := 27) rfl rfl rfl ?_
      refine zi_iast (pc' := 28) rfl rfl rfl (by decide) ?_
      replace h := h _ rfl
      exact zi_wk (s_M_set_b28 hd h) (And.intro rfl (And.intro rfl (And.intro rfl (And.intro rfl trivial))))
  · replace h := h.2 c22
    refine zi_iconst (pc' := 16) rfl rfl ?_
    exact zi_zret rfl rfl (Or.inl rfl) h
-- SpoutNews$World.countOfWho(I)I
noncomputable def w_World_countOfWho (r0 : Nat) (l1 : Int) (g : zi_M) (Q : Int → zi_M → Prop) : Prop := (zi_r l1 ∧ ((l1 < 0 ∨ 7 < l1 → Q 0 g) ∧ (l1 = 0 → Q (g r0 11) g) ∧ (l1 = 1 → Q (g r0 11) g) ∧ (l1 = 2 → Q 6 g) ∧ (l1 = 3 → Q (g r0 8) g) ∧ (l1 = 4 → Q (g r0 8) g) ∧ (l1 = 5 → Q (g r0 8) g) ∧ (l1 = 6 → Q (g r0 11) g) ∧ (l1 = 7 → Q 6 g)))
set_option maxRecDepth 100000 in
theorem s_World_countOfWho {E : sx_E} {d : Nat} (hd : 1 ≤ d) {r0 : Nat} (hr0 : zs_sh r0 = some (10, 20)) {l1 : Int} {g : zi_M} {Q : Int → zi_M → Prop} (h : w_World_countOfWho r0 l1 g Q) : zi_S E d 26 [.ref r0, zi_i l1] g (zi_Q Q) := by
  refine zi_Sof jf_26 [some (.ref r0), some (zi_i l1)] rfl (And.intro rfl (And.intro rfl trivial)) ?_
  unfold w_World_countOfWho at h
  refine zi_iload_n (pc' := 1) rfl rfl rfl ?_
  obtain ⟨o1, h⟩ := h
  refine zi_tsw [(0, 48), (1, 48), (2, 53), (3, 56), (4, 56), (5, 56), (6, 48), (7, 53)] 61 rfl rfl o1 (fun c2 => ?_) (And.intro (fun c2 => ?_) (And.intro (fun c2 => ?_) (And.intro (fun c2 => ?_) (And.intro (fun c2 => ?_) (And.intro (fun c2 => ?_) (And.intro (fun c2 => ?_) (And.intro (fun c2 => ?_) (And.intro (fun c2 => ?_) trivial))))))))
  · replace h := h.1 c2
    refine zi_iconst (pc' := 62) rfl rfl ?_
    exact zi_iret rfl rfl h
  · replace h := h.2.1 c2
    refine zi_aload_n (pc' := 49) rfl rfl rfl ?_
    refine zi_geti (pc' := 52) 11 rfl rfl rfl hr0 rfl rfl ?_
    exact zi_iret rfl rfl h
  · replace h := h.2.2.1 c2
    refine zi_aload_n (pc' := 49) rfl rfl rfl ?_
    refine zi_geti (pc' := 52) 11 rfl rfl rfl hr0 rfl rfl ?_
    exact zi_iret rfl rfl h
  · replace h := h.2.2.2.1 c2
    refine zi_bipush (pc' := 55) rfl rfl (by decide) ?_
    exact zi_iret rfl rfl h
  · replace h := h.2.2.2.2.1 c2
    refine zi_aload_n (pc' := 57) rfl rfl rfl ?_
    refine zi_geti (pc' := 60) 8 rfl rfl rfl hr0 rfl rfl ?_
    exact zi_iret rfl rfl h
  · replace h := h.2.2.2.2.2.1 c2
    refine zi_aload_n (pc' := 57) rfl rfl rfl ?_
    refine zi_geti (pc' := 60) 8 rfl rfl rfl hr0 rfl rfl ?_
    exact zi_iret rfl rfl h
  · replace h := h.2.2.2.2.2.2.1 c2
    refine zi_aload_n (pc' := 57) rfl rfl rfl ?_
    refine zi_geti (pc' := 60) 8 rfl rfl rfl hr0 rfl rfl ?_
    exact zi_iret rfl rfl h
  · replace h := h.2.2.2.2.2.2.2.1 c2
    refine zi_aload_n (pc' := 49) rfl rfl rfl ?_
    refine zi_geti (pc' := 52) 11 rfl rfl rfl hr0 rfl rfl ?_
    exact zi_iret rfl rfl h
  · replace h := h.2.2.2.2.2.2.2.2 c2
    refine zi_bipush (pc' := 55) rfl rfl (by decide) ?_
    exact zi_iret rfl rfl h
-- SpoutNews$World.countOfWhat(I)I
noncomputable def w_World_countOfWhat (r0 : Nat) (l1 : Int) (g : zi_M) (Q : Int → zi_M → Prop) : Prop := (zi_r l1 ∧ ((l1 ≠ 0 → l1 ≠ 2 → l1 ≠ 6 → Q (-1) g) ∧ (l1 = 0 → Q (g r0 8) g) ∧ (l1 = 2 → Q (g r0 8) g) ∧ (l1 = 6 → Q 16 g)))
set_option maxRecDepth 100000 in
theorem s_World_countOfWhat {E : sx_E} {d : Nat} (hd : 1 ≤ d) {r0 : Nat} (hr0 : zs_sh r0 = some (10, 20)) {l1 : Int} {g : zi_M} {Q : Int → zi_M → Prop} (h : w_World_countOfWhat r0 l1 g Q) : zi_S E d 27 [.ref r0, zi_i l1] g (zi_Q Q) := by
  refine zi_Sof jf_27 [some (.ref r0), some (zi_i l1)] rfl (And.intro rfl (And.intro rfl trivial)) ?_
  unfold w_World_countOfWhat at h
  refine zi_iload_n (pc' := 1) rfl rfl rfl ?_
  obtain ⟨o1, h⟩ := h
  refine zi_lsw [(0, 36), (2, 36), (6, 41)] 44 rfl rfl o1 (fun c2 => ?_) (And.intro (fun c2 => ?_) (And.intro (fun c2 => ?_) (And.intro (fun c2 => ?_) trivial)))
  · replace h := h.1 (c2 _ (List.mem_cons_self)) (c2 _ (List.mem_cons_of_mem _ (List.mem_cons_self))) (c2 _ (List.mem_cons_of_mem _ (List.mem_cons_of_mem _ (List.mem_cons_self))))
    refine zi_iconst (pc' := 45) rfl rfl ?_
    exact zi_iret rfl rfl h
  · replace h := h.2.1 c2
    refine zi_aload_n (pc' := 37) rfl rfl rfl ?_
    refine zi_geti (pc' := 40) 8 rfl rfl rfl hr0 rfl rfl ?_
    exact zi_iret rfl rfl h
  · replace h := h.2.2.1 c2
    refine zi_aload_n (pc' := 37) rfl rfl rfl ?_
    refine zi_geti (pc' := 40) 8 rfl rfl rfl hr0 rfl rfl ?_
    exact zi_iret rfl rfl h
  · replace h := h.2.2.2 c2
    refine zi_bipush (pc' := 43) rfl rfl (by decide) ?_
    exact zi_iret rfl rfl h
-- SpoutNews$World.canDo(III)Z
noncomputable def w_World_canDo (r0 : Nat) (l1 : Int) (l2 : Int) (l3 : Int) (g : zi_M) (Q : Int → zi_M → Prop) : Prop := (zi_r l2 ∧ ((l2 < 0 → Q 0 g) ∧ (0 ≤ l2 → w_World_countOfWho r0 l1 g (fun v2 g3 => (zi_r v2 ∧ ((l2 < v2 → w_World_countOfWhat r0 l1 g3 (fun v6 g7 => (zi_r v6 ∧ ((v6 = (-1) → Q 1 g7) ∧ (¬ v6 = (-1) → (zi_r l3 ∧ ((l3 < 0 → Q 0 g7) ∧ (0 ≤ l3 → ((v6 ≤ l3 → Q 0 g7) ∧ (l3 < v6 → Q 1 g7)))))))))) ∧ (v2 ≤ l2 → Q 0 g3)))))))
set_option maxRecDepth 100000 in
theorem s_World_canDo {E : sx_E} {d : Nat} (hd : 2 ≤ d) {r0 : Nat} (hr0 : zs_sh r0 = some (10, 20)) {l1 : Int} {l2 : Int} {l3 : Int} {g : zi_M} {Q : Int → zi_M → Prop} (h : w_World_canDo r0 l1 l2 l3 g Q) : zi_S E d 25 [.ref r0, zi_i l1, zi_i l2, zi_i l3] g (zi_Qb Q) := by
  refine zi_Sof jf_25 [some (.ref r0), some (zi_i l1), some (zi_i l2), some (zi_i l3), none] rfl (And.intro rfl (And.intro rfl (And.intro rfl (And.intro rfl trivial)))) ?_
  unfold w_World_canDo at h
  refine zi_iload_n (pc' := 1) rfl rfl rfl ?_
  obtain ⟨o1, h⟩ := h
  refine zi_if_lt (x := 13) (pc' := 4) rfl rfl o1  (fun c15 => ?_) (fun c15 => ?_)
  · replace h := h.1 c15
    refine zi_iconst (pc' := 14) rfl rfl ?_
    exact zi_zret rfl rfl (Or.inl rfl) h
  · replace h := h.2 c15
    refine zi_iload_n (pc' := 5) rfl rfl rfl ?_
    refine zi_aload_n (pc' := 6) rfl rfl rfl ?_
    refine zi_iload_n (pc' := 7) rfl rfl rfl ?_
    refine zi_callV (d' := 1) (as := [_]) (pc' := 10) rfl rfl rfl hr0 (Nat.lt_of_lt_of_le (by decide) hd) (s_World_countOfWho (Nat.le_refl _) hr0 h) (zi_ki (fun v2 g3 h => ?_))
    obtain ⟨o5, h⟩ := h
    refine zi_icmp_lt (x := 15) (pc' := 13) rfl rfl o1 o5 (fun c14 => ?_) (fun c14 => ?_)
    · replace h := h.1 c14
      refine zi_aload_n (pc' := 16) rfl rfl rfl ?_
      refine zi_iload_n (pc' := 17) rfl rfl rfl ?_
      refine zi_callV (d' := 1) (as := [_]) (pc' := 20) rfl rfl rfl hr0 (Nat.lt_of_lt_of_le (by decide) hd) (s_World_countOfWhat (Nat.le_refl _) hr0 h) (zi_ki (fun v6 g7 h => ?_))
      refine zi_istore (pc' := 22) [some _, some _, some _, some _, some _] rfl rfl rfl ?_
      refine zi_iload (pc' := 24) rfl rfl rfl ?_
      refine zi_iconst (pc' := 25) rfl rfl ?_
      obtain ⟨o9, h⟩ := h
      refine zi_icmp_eq (x := 38) (pc' := 28) rfl rfl o9 (by decide) (fun c13 => ?_) (fun c13 => ?_)
      · replace h := h.1 c13
        refine zi_iconst (pc' := 39) rfl rfl ?_
        refine zi_goto (x := 43) rfl ?_
        exact zi_zret rfl rfl (Or.inr rfl) h
      · replace h := h.2 c13
        refine zi_iload_n (pc' := 29) rfl rfl rfl ?_
        obtain ⟨o10, h⟩ := h
        refine zi_if_lt (x := 42) (pc' := 32) rfl rfl o10  (fun c12 => ?_) (fun c12 => ?_)
        · replace h := h.1 c12
          refine zi_iconst (pc' := 43) rfl rfl ?_
          exact zi_zret rfl rfl (Or.inl rfl) h
        · replace h := h.2 c12
          refine zi_iload_n (pc' := 33) rfl rfl rfl ?_
          refine zi_iload (pc' := 35) rfl rfl rfl ?_
          refine zi_icmp_ge (x := 42) (pc' := 38) rfl rfl o10 o9 (fun c11 => ?_) (fun c11 => ?_)
          · replace h := h.1 c11
            refine zi_iconst (pc' := 43) rfl rfl ?_
            exact zi_zret rfl rfl (Or.inl rfl) h
          · replace h := h.2 c11
            refine zi_iconst (pc' := 39) rfl rfl ?_
            refine zi_goto (x := 43) rfl ?_
            exact zi_zret rfl rfl (Or.inr rfl) h
    · replace h := h.2 c14
      refine zi_iconst (pc' := 14) rfl rfl ?_
      exact zi_zret rfl rfl (Or.inl rfl) h
-- SpoutNews$World.copyFrom(LSpoutNews$World;)V
noncomputable def w_World_copyFrom (r0 : Nat) (r1 : Nat) (g : zi_M) (Q : Int → zi_M → Prop) : Prop := (∀ g2, g2 = zi_cp g (r1 + 1) 0 (r0 + 1) 0 10 → (∀ g4, g4 = zi_cp g2 (r1 + 2) 0 (r0 + 2) 0 10 → (∀ g6, g6 = zi_cp g4 (r1 + 3) 0 (r0 + 3) 0 10 → (∀ g8, g8 = zi_cp g6 (r1 + 4) 0 (r0 + 4) 0 10 → (∀ g10, g10 = zi_cp g8 (r1 + 5) 0 (r0 + 5) 0 10 → (∀ g12, g12 = zi_cp g10 (r1 + 6) 0 (r0 + 6) 0 10 → (∀ g14, g14 = zi_cp g12 (r1 + 7) 0 (r0 + 7) 0 200 → (∀ g15, g15 = zi_u g14 r0 8 (g14 r1 8) → (∀ g17, g17 = zi_cp g15 (r1 + 8) 0 (r0 + 8) 0 8 → (∀ g19, g19 = zi_cp g17 (r1 + 9) 0 (r0 + 9) 0 8 → (∀ g20, g20 = zi_u g19 r0 11 (g19 r1 11) → (∀ g22, g22 = zi_cp g20 (r1 + 10) 0 (r0 + 10) 0 6 → (∀ g24, g24 = zi_cp g22 (r1 + 11) 0 (r0 + 11) 0 6 → (∀ g25, g25 = zi_u g24 r0 14 (g24 r1 14) → (∀ g26, g26 = zi_u g25 r0 15 (g25 r1 15) → (∀ g27, g27 = zi_u g26 r0 16 (g26 r1 16) → (∀ g28, g28 = zi_u g27 r0 17 (g27 r1 17) → (∀ g29, g29 = zi_u g28 r0 18 (g28 r1 18) → (∀ g30, g30 = zi_u g29 r0 19 (g29 r1 19) → Q 0 g30)))))))))))))))))))
set_option maxRecDepth 100000 in
theorem s_World_copyFrom {E : sx_E} {d : Nat} (hd : 1 ≤ d) {r0 : Nat} (hr0 : zs_sh r0 = some (10, 20)) {r1 : Nat} (hr1 : zs_sh r1 = some (10, 20)) {g : zi_M} {Q : Int → zi_M → Prop} (h : w_World_copyFrom r0 r1 g Q) : zi_S E d 29 [.ref r0, .ref r1] g (zi_Qv Q) := by
  refine zi_Sof jf_29 [some (.ref r0), some (.ref r1)] rfl (And.intro rfl (And.intro rfl trivial)) ?_
  unfold w_World_copyFrom at h
  refine zi_aload_n (pc' := 1) rfl rfl rfl ?_
  refine zi_getr (pc' := 4) rfl rfl hr1 (zs_f10_1 hr1).1 rfl ?_
  refine zi_iconst (pc' := 5) rfl rfl ?_
  refine zi_aload_n (pc' := 6) rfl rfl rfl ?_
  refine zi_getr (pc' := 9) rfl rfl hr0 (zs_f10_1 hr0).1 rfl ?_
  refine zi_iconst (pc' := 10) rfl rfl ?_
  refine zi_bipush (pc' := 12) rfl rfl (by decide) ?_
  refine zi_copy (pc' := 15) rfl rfl (Nat.le_trans (by decide) hd) rfl (zs_f10_1 hr1).2 (zs_f10_1 hr0).2 (by decide) ?_
  replace h := h _ rfl
  refine zi_aload_n (pc' := 16) rfl rfl rfl ?_
  refine zi_getr (pc' := 19) rfl rfl hr1 (zs_f10_2 hr1).1 rfl ?_
  refine zi_iconst (pc' := 20) rfl rfl ?_
  refine zi_aload_n (pc' := 21) rfl rfl rfl ?_
  refine zi_getr (pc' := 24) rfl rfl hr0 (zs_f10_2 hr0).1 rfl ?_
  refine zi_iconst (pc' := 25) rfl rfl ?_
  refine zi_bipush (pc' := 27) rfl rfl (by decide) ?_
  refine zi_copy (pc' := 30) rfl rfl (Nat.le_trans (by decide) hd) rfl (zs_f10_2 hr1).2 (zs_f10_2 hr0).2 (by decide) ?_
  replace h := h _ rfl
  refine zi_aload_n (pc' := 31) rfl rfl rfl ?_
  refine zi_getr (pc' := 34) rfl rfl hr1 (zs_f10_3 hr1).1 rfl ?_
  refine zi_iconst (pc' := 35) rfl rfl ?_
  refine zi_aload_n (pc' := 36) rfl rfl rfl ?_
  refine zi_getr (pc' := 39) rfl rfl hr0 (zs_f10_3 hr0).1 rfl ?_
  refine zi_iconst (pc' := 40) rfl rfl ?_
  refine zi_bipush (pc' := 42) rfl rfl (by decide) ?_
  refine zi_copy (pc' := 45) rfl rfl (Nat.le_trans (by decide) hd) rfl (zs_f10_3 hr1).2 (zs_f10_3 hr0).2 (by decide) ?_
  replace h := h _ rfl
  refine zi_aload_n (pc' := 46) rfl rfl rfl ?_
  refine zi_getr (pc' := 49) rfl rfl hr1 (zs_f10_4 hr1).1 rfl ?_
  refine zi_iconst (pc' := 50) rfl rfl ?_
  refine zi_aload_n (pc' := 51) rfl rfl rfl ?_
  refine zi_getr (pc' := 54) rfl rfl hr0 (zs_f10_4 hr0).1 rfl ?_
  refine zi_iconst (pc' := 55) rfl rfl ?_
  refine zi_bipush (pc' := 57) rfl rfl (by decide) ?_
  refine zi_copy (pc' := 60) rfl rfl (Nat.le_trans (by decide) hd) rfl (zs_f10_4 hr1).2 (zs_f10_4 hr0).2 (by decide) ?_
  replace h := h _ rfl
  refine zi_aload_n (pc' := 61) rfl rfl rfl ?_
  refine zi_getr (pc' := 64) rfl rfl hr1 (zs_f10_5 hr1).1 rfl ?_
  refine zi_iconst (pc' := 65) rfl rfl ?_
  refine zi_aload_n (pc' := 66) rfl rfl rfl ?_
  refine zi_getr (pc' := 69) rfl rfl hr0 (zs_f10_5 hr0).1 rfl ?_
  refine zi_iconst (pc' := 70) rfl rfl ?_
  refine zi_bipush (pc' := 72) rfl rfl (by decide) ?_
  refine zi_copy (pc' := 75) rfl rfl (Nat.le_trans (by decide) hd) rfl (zs_f10_5 hr1).2 (zs_f10_5 hr0).2 (by decide) ?_
  replace h := h _ rfl
  refine zi_aload_n (pc' := 76) rfl rfl rfl ?_
  refine zi_getr (pc' := 79) rfl rfl hr1 (zs_f10_6 hr1).1 rfl ?_
  refine zi_iconst (pc' := 80) rfl rfl ?_
  refine zi_aload_n (pc' := 81) rfl rfl rfl ?_
  refine zi_getr (pc' := 84) rfl rfl hr0 (zs_f10_6 hr0).1 rfl ?_
  refine zi_iconst (pc' := 85) rfl rfl ?_
  refine zi_bipush (pc' := 87) rfl rfl (by decide) ?_
  refine zi_copy (pc' := 90) rfl rfl (Nat.le_trans (by decide) hd) rfl (zs_f10_6 hr1).2 (zs_f10_6 hr0).2 (by decide) ?_
  replace h := h _ rfl
  refine zi_aload_n (pc' := 91) rfl rfl rfl ?_
  refine zi_getr (pc' := 94) rfl rfl hr1 (zs_f10_7 hr1).1 rfl ?_
  refine zi_iconst (pc' := 95) rfl rfl ?_
  refine zi_aload_n (pc' := 96) rfl rfl rfl ?_
  refine zi_getr (pc' := 99) rfl rfl hr0 (zs_f10_7 hr0).1 rfl ?_
  refine zi_iconst (pc' := 100) rfl rfl ?_
  refine zi_sipush (pc' := 103) rfl rfl (by decide) ?_
  refine zi_copy (pc' := 106) rfl rfl (Nat.le_trans (by decide) hd) rfl (zs_f10_7 hr1).2 (zs_f10_7 hr0).2 (by decide) ?_
  replace h := h _ rfl
  refine zi_aload_n (pc' := 107) rfl rfl rfl ?_
  refine zi_aload_n (pc' := 108) rfl rfl rfl ?_
  refine zi_geti (pc' := 111) 8 rfl rfl rfl hr1 rfl rfl ?_
  refine zi_puti (pc' := 114) 8 rfl rfl rfl hr0 rfl  ?_
  replace h := h _ rfl
  refine zi_aload_n (pc' := 115) rfl rfl rfl ?_
  refine zi_getr (pc' := 118) rfl rfl hr1 (zs_f10_9 hr1).1 rfl ?_
  refine zi_iconst (pc' := 119) rfl rfl ?_
  refine zi_aload_n (pc' := 120) rfl rfl rfl ?_
  refine zi_getr (pc' := 123) rfl rfl hr0 (zs_f10_9 hr0).1 rfl ?_
  refine zi_iconst (pc' := 124) rfl rfl ?_
  refine zi_bipush (pc' := 126) rfl rfl (by decide) ?_
  refine zi_copy (pc' := 129) rfl rfl (Nat.le_trans (by decide) hd) rfl (zs_f10_9 hr1).2 (zs_f10_9 hr0).2 (by decide) ?_
  replace h := h _ rfl
  refine zi_aload_n (pc' := 130) rfl rfl rfl ?_
  refine zi_getr (pc' := 133) rfl rfl hr1 (zs_f10_10 hr1).1 rfl ?_
  refine zi_iconst (pc' := 134) rfl rfl ?_
  refine zi_aload_n (pc' := 135) rfl rfl rfl ?_
  refine zi_getr (pc' := 138) rfl rfl hr0 (zs_f10_10 hr0).1 rfl ?_
  refine zi_iconst (pc' := 139) rfl rfl ?_
  refine zi_bipush (pc' := 141) rfl rfl (by decide) ?_
  refine zi_copy (pc' := 144) rfl rfl (Nat.le_trans (by decide) hd) rfl (zs_f10_10 hr1).2 (zs_f10_10 hr0).2 (by decide) ?_
  replace h := h _ rfl
  refine zi_aload_n (pc' := 145) rfl rfl rfl ?_
  refine zi_aload_n (pc' := 146) rfl rfl rfl ?_
  refine zi_geti (pc' := 149) 11 rfl rfl rfl hr1 rfl rfl ?_
  refine zi_puti (pc' := 152) 11 rfl rfl rfl hr0 rfl  ?_
  replace h := h _ rfl
  refine zi_aload_n (pc' := 153) rfl rfl rfl ?_
  refine zi_getr (pc' := 156) rfl rfl hr1 (zs_f10_12 hr1).1 rfl ?_
  refine zi_iconst (pc' := 157) rfl rfl ?_
  refine zi_aload_n (pc' := 158) rfl rfl rfl ?_
  refine zi_getr (pc' := 161) rfl rfl hr0 (zs_f10_12 hr0).1 rfl ?_
  refine zi_iconst (pc' := 162) rfl rfl ?_
  refine zi_bipush (pc' := 164) rfl rfl (by decide) ?_
  refine zi_copy (pc' := 167) rfl rfl (Nat.le_trans (by decide) hd) rfl (zs_f10_12 hr1).2 (zs_f10_12 hr0).2 (by decide) ?_
  replace h := h _ rfl
  refine zi_aload_n (pc' := 168) rfl rfl rfl ?_
  refine zi_getr (pc' := 171) rfl rfl hr1 (zs_f10_13 hr1).1 rfl ?_
  refine zi_iconst (pc' := 172) rfl rfl ?_
  refine zi_aload_n (pc' := 173) rfl rfl rfl ?_
  refine zi_getr (pc' := 176) rfl rfl hr0 (zs_f10_13 hr0).1 rfl ?_
  refine zi_iconst (pc' := 177) rfl rfl ?_
  refine zi_bipush (pc' := 179) rfl rfl (by decide) ?_
  refine zi_copy (pc' := 182) rfl rfl (Nat.le_trans (by decide) hd) rfl (zs_f10_13 hr1).2 (zs_f10_13 hr0).2 (by decide) ?_
  replace h := h _ rfl
  refine zi_aload_n (pc' := 183) rfl rfl rfl ?_
  refine zi_aload_n (pc' := 184) rfl rfl rfl ?_
  refine zi_geti (pc' := 187) 14 rfl rfl rfl hr1 rfl rfl ?_
  refine zi_puti (pc' := 190) 14 rfl rfl rfl hr0 rfl  ?_
  replace h := h _ rfl
  refine zi_aload_n (pc' := 191) rfl rfl rfl ?_
  refine zi_aload_n (pc' := 192) rfl rfl rfl ?_
  refine zi_geti (pc' := 195) 15 rfl rfl rfl hr1 rfl rfl ?_
  refine zi_puti (pc' := 198) 15 rfl rfl rfl hr0 rfl  ?_
  replace h := h _ rfl
  refine zi_aload_n (pc' := 199) rfl rfl rfl ?_
  refine zi_aload_n (pc' := 200) rfl rfl rfl ?_
  refine zi_geti (pc' := 203) 16 rfl rfl rfl hr1 rfl rfl ?_
  refine zi_puti (pc' := 206) 16 rfl rfl rfl hr0 rfl  ?_
  replace h := h _ rfl
  refine zi_aload_n (pc' := 207) rfl rfl rfl ?_
  refine zi_aload_n (pc' := 208) rfl rfl rfl ?_
  refine zi_geti (pc' := 211) 17 rfl rfl rfl hr1 rfl rfl ?_
  refine zi_puti (pc' := 214) 17 rfl rfl rfl hr0 rfl  ?_
  replace h := h _ rfl
  refine zi_aload_n (pc' := 215) rfl rfl rfl ?_
  refine zi_aload_n (pc' := 216) rfl rfl rfl ?_
  refine zi_geti (pc' := 219) 18 rfl rfl rfl hr1 rfl rfl ?_
  refine zi_puti (pc' := 222) 18 rfl rfl rfl hr0 rfl  ?_
  replace h := h _ rfl
  refine zi_aload_n (pc' := 223) rfl rfl rfl ?_
  refine zi_aload_n (pc' := 224) rfl rfl rfl ?_
  refine zi_geti (pc' := 227) 19 rfl rfl rfl hr1 rfl rfl ?_
  refine zi_puti (pc' := 230) 19 rfl rfl rfl hr0 rfl  ?_
  replace h := h _ rfl
  exact zi_vret rfl rfl h
-- SpoutNews$Past.keep(LSpoutNews$World;)V
noncomputable def w_Past_keep (g : zi_M) (Q : Int → zi_M → Prop) : Prop := ((0 ≤ (g 91 2) ∧ (g 91 2) < 6) ∧ w_World_copyFrom (93 + 12 * (g 91 2).toNat) 2 g (fun _ g3 => (zi_r ((g3 91 2) + 1) ∧ (∀ g6, g6 = zi_u g3 91 2 (Int.tmod ((g3 91 2) + 1) 6) → (zi_r ((g6 91 1) + 1) ∧ (∀ g8, g8 = zi_u g6 91 1 (min ((g6 91 1) + 1) 6) → Q 0 g8))))))
set_option maxRecDepth 100000 in
theorem s_Past_keep {E : sx_E} {d : Nat} (hd : 2 ≤ d) {g : zi_M} {Q : Int → zi_M → Prop} (h : w_Past_keep g Q) : zi_S E d 28 [.ref 91, .ref 2] g (zi_Qv Q) := by
  refine zi_Sof jf_28 [some (.ref 91), some (.ref 2)] rfl (And.intro rfl (And.intro rfl trivial)) ?_
  unfold w_Past_keep at h
  refine zi_aload_n (pc' := 1) rfl rfl rfl ?_
  refine zi_getr (pc' := 4) rfl rfl rfl rfl rfl ?_
  refine zi_aload_n (pc' := 5) rfl rfl rfl ?_
  refine zi_geti (pc' := 8) 2 rfl rfl rfl rfl rfl rfl ?_
  obtain ⟨o1, h⟩ := h
  refine zi_aald (pc' := 9) rfl rfl rfl o1 (zs_ring o1).1 ?_
  refine zi_aload_n (pc' := 10) rfl rfl rfl ?_
  refine zi_callV (d' := 1) (as := [_]) (pc' := 13) rfl rfl rfl (zs_ring o1).2 (Nat.lt_of_lt_of_le (by decide) hd) (s_World_copyFrom (Nat.le_refl _) (zs_ring o1).2 rfl h) (zi_kv (fun g3 h => ?_))
  refine zi_aload_n (pc' := 14) rfl rfl rfl ?_
  refine zi_aload_n (pc' := 15) rfl rfl rfl ?_
  refine zi_geti (pc' := 18) 2 rfl rfl rfl rfl rfl rfl ?_
  refine zi_iconst (pc' := 19) rfl rfl ?_
  refine zi_iadd (pc' := 20) rfl rfl ?_
  refine zi_bipush (pc' := 22) rfl rfl (by decide) ?_
  obtain ⟨o5, h⟩ := h
  refine zi_irem (pc' := 23) rfl rfl o5 (by decide) (by decide) ?_
  refine zi_puti (pc' := 26) 2 rfl rfl rfl rfl rfl  ?_
  replace h := h _ rfl
  refine zi_aload_n (pc' := 27) rfl rfl rfl ?_
  refine zi_aload_n (pc' := 28) rfl rfl rfl ?_
  refine zi_geti (pc' := 31) 1 rfl rfl rfl rfl rfl rfl ?_
  refine zi_iconst (pc' := 32) rfl rfl ?_
  refine zi_iadd (pc' := 33) rfl rfl ?_
  refine zi_bipush (pc' := 35) rfl rfl (by decide) ?_
  obtain ⟨o7, h⟩ := h
  refine zi_min (pc' := 38) rfl rfl o7 (by decide) (Nat.le_trans (by decide) hd) rfl ?_
  refine zi_puti (pc' := 41) 1 rfl rfl rfl rfl rfl  ?_
  replace h := h _ rfl
  exact zi_vret rfl rfl h
-- SpoutNews$World.carryOut(III)V
noncomputable def w_World_carryOut (r0 : Nat) (l1 : Int) (l2 : Int) (l3 : Int) (g : zi_M) (Q : Int → zi_M → Prop) : Prop := w_World_canDo r0 l1 l2 l3 g (fun v1 g2 => ((¬ v1 = 0 → (zi_r l1 ∧ ((l1 < 0 ∨ 6 < l1 → ((0 ≤ l2 ∧ l2 < 6) ∧ (∀ g7, g7 = zi_u g2 (r0 + 11) l2 0 → Q 0 g7))) ∧ (l1 = 0 → ((0 ≤ l2 ∧ l2 < 8) ∧ (∀ g9, g9 = zi_u g2 (r0 + 9) l2 l3 → Q 0 g9))) ∧ (l1 = 1 → ((0 ≤ l2 ∧ l2 < 8) ∧ (∀ g11, g11 = zi_u g2 (r0 + 9) l2 (-1) → Q 0 g11))) ∧ (l1 = 2 → ((0 ≤ l2 ∧ l2 < 6) ∧ (∀ g13, g13 = zi_u g2 (r0 + 10) l2 l3 → Q 0 g13))) ∧ (l1 = 3 → ((0 ≤ l2 ∧ l2 < 10) ∧ (∀ g15, g15 = zi_u g2 (r0 + 4) l2 1 → Q 0 g15))) ∧ (l1 = 4 → ((0 ≤ l2 ∧ l2 < 10) ∧ (∀ g17, g17 = zi_u g2 (r0 + 4) l2 2 → Q 0 g17))) ∧ (l1 = 5 → ((0 ≤ l2 ∧ l2 < 10) ∧ (∀ g19, g19 = zi_u g2 (r0 + 4) l2 0 → Q 0 g19))) ∧ (l1 = 6 → ((0 ≤ l2 ∧ l2 < 8) ∧ (∀ g21, g21 = zi_u g2 (r0 + 8) l2 (zi_or (g2 (r0 + 8) l2) (zi_shl 1 l3)) → Q 0 g21)))))) ∧ (v1 = 0 → Q 0 g2)))
set_option maxRecDepth 100000 in
theorem s_World_carryOut {E : sx_E} {d : Nat} (hd : 3 ≤ d) {r0 : Nat} (hr0 : zs_sh r0 = some (10, 20)) {l1 : Int} {l2 : Int} {l3 : Int} {g : zi_M} {Q : Int → zi_M → Prop} (h : w_World_carryOut r0 l1 l2 l3 g Q) : zi_S E d 31 [.ref r0, zi_i l1, zi_i l2, zi_i l3] g (zi_Qv Q) := by
  refine zi_Sof jf_31 [some (.ref r0), some (zi_i l1), some (zi_i l2), some (zi_i l3)] rfl (And.intro rfl (And.intro rfl (And.intro rfl (And.intro rfl trivial)))) ?_
  unfold w_World_carryOut at h
  refine zi_aload_n (pc' := 1) rfl rfl rfl ?_
  refine zi_iload_n (pc' := 2) rfl rfl rfl ?_
  refine zi_iload_n (pc' := 3) rfl rfl rfl ?_
  refine zi_iload_n (pc' := 4) rfl rfl rfl ?_
  refine zi_callV (d' := 2) (as := [_, _, _]) (pc' := 7) rfl rfl rfl hr0 (Nat.lt_of_lt_of_le (by decide) hd) (s_World_canDo (Nat.le_refl _) hr0 h) (zi_kb (fun v1 g2 b3 h => ?_))
  refine zi_if_ne (x := 11) (pc' := 10) rfl rfl (zi_r_bit b3)  (fun c22 => ?_) (fun c22 => ?_)
  · replace h := h.1 c22
    refine zi_iload_n (pc' := 12) rfl rfl rfl ?_
    obtain ⟨o4, h⟩ := h
    refine zi_tsw [(0, 56), (1, 66), (2, 76), (3, 86), (4, 96), (5, 106), (6, 116)] 131 rfl rfl o4 (fun c5 => ?_) (And.intro (fun c5 => ?_) (And.intro (fun c5 => ?_) (And.intro (fun c5 => ?_) (And.intro (fun c5 => ?_) (And.intro (fun c5 => ?_) (And.intro (fun c5 => ?_) (And.intro (fun c5 => ?_) trivial)))))))
    · replace h := h.1 c5
      refine zi_aload_n (pc' := 132) rfl rfl rfl ?_
      refine zi_getr (pc' := 135) rfl rfl hr0 (zs_f10_13 hr0).1 rfl ?_
      refine zi_iload_n (pc' := 136) rfl rfl rfl ?_
      refine zi_iconst (pc' := 137) rfl rfl ?_
      obtain ⟨o6, h⟩ := h
      refine zi_iast (pc' := 138) rfl rfl (zs_f10_13 hr0).2 o6 ?_
      replace h := h _ rfl
      exact zi_vret rfl rfl h
    · replace h := h.2.1 c5
      refine zi_aload_n (pc' := 57) rfl rfl rfl ?_
      refine zi_getr (pc' := 60) rfl rfl hr0 (zs_f10_10 hr0).1 rfl ?_
      refine zi_iload_n (pc' := 61) rfl rfl rfl ?_
      refine zi_iload_n (pc' := 62) rfl rfl rfl ?_
      obtain ⟨o8, h⟩ := h
      refine zi_iast (pc' := 63) rfl rfl (zs_f10_10 hr0).2 o8 ?_
      replace h := h _ rfl
      refine zi_goto (x := 138) rfl ?_
      exact zi_vret rfl rfl h
    · replace h := h.2.2.1 c5
      refine zi_aload_n (pc' := 67) rfl rfl rfl ?_
      refine zi_getr (pc' := 70) rfl rfl hr0 (zs_f10_10 hr0).1 rfl ?_
      refine zi_iload_n (pc' := 71) rfl rfl rfl ?_
      refine zi_iconst (pc' := 72) rfl rfl ?_
      obtain ⟨o10, h⟩ := h
      refine zi_iast (pc' := 73) rfl rfl (zs_f10_10 hr0).2 o10 ?_
      replace h := h _ rfl
      refine zi_goto (x := 138) rfl ?_
      exact zi_vret rfl rfl h
    · replace h := h.2.2.2.1 c5
      refine zi_aload_n (pc' := 77) rfl rfl rfl ?_
      refine zi_getr (pc' := 80) rfl rfl hr0 (zs_f10_12 hr0).1 rfl ?_
      refine zi_iload_n (pc' := 81) rfl rfl rfl ?_
      refine zi_iload_n (pc' := 82) rfl rfl rfl ?_
      obtain ⟨o12, h⟩ := h
      refine zi_iast (pc' := 83) rfl rfl (zs_f10_12 hr0).2 o12 ?_
      replace h := h _ rfl
      refine zi_goto (x := 138) rfl ?_
      exact zi_vret rfl rfl h
    · replace h := h.2.2.2.2.1 c5
      refine zi_aload_n (pc' := 87) rfl rfl rfl ?_
      refine zi_getr (pc' := 90) rfl rfl hr0 (zs_f10_4 hr0).1 rfl ?_
      refine zi_iload_n (pc' := 91) rfl rfl rfl ?_
      refine zi_iconst (pc' := 92) rfl rfl ?_
      obtain ⟨o14, h⟩ := h
      refine zi_iast (pc' := 93) rfl rfl (zs_f10_4 hr0).2 o14 ?_
      replace h := h _ rfl
      refine zi_goto (x := 138) rfl ?_
      exact zi_vret rfl rfl h
    · replace h := h.2.2.2.2.2.1 c5
      refine zi_aload_n (pc' := 97) rfl rfl rfl ?_
      refine zi_getr (pc' := 100) rfl rfl hr0 (zs_f10_4 hr0).1 rfl ?_
      refine zi_iload_n (pc' := 101) rfl rfl rfl ?_
      refine zi_iconst (pc' := 102) rfl rfl ?_
      obtain ⟨o16, h⟩ := h
      refine zi_iast (pc' := 103) rfl rfl (zs_f10_4 hr0).2 o16 ?_
      replace h := h _ rfl
      refine zi_goto (x := 138) rfl ?_
      exact zi_vret rfl rfl h
    · replace h := h.2.2.2.2.2.2.1 c5
      refine zi_aload_n (pc' := 107) rfl rfl rfl ?_
      refine zi_getr (pc' := 110) rfl rfl hr0 (zs_f10_4 hr0).1 rfl ?_
      refine zi_iload_n (pc' := 111) rfl rfl rfl ?_
      refine zi_iconst (pc' := 112) rfl rfl ?_
      obtain ⟨o18, h⟩ := h
      refine zi_iast (pc' := 113) rfl rfl (zs_f10_4 hr0).2 o18 ?_
      replace h := h _ rfl
      refine zi_goto (x := 138) rfl ?_
      exact zi_vret rfl rfl h
    · replace h := h.2.2.2.2.2.2.2 c5
      refine zi_aload_n (pc' := 117) rfl rfl rfl ?_
      refine zi_getr (pc' := 120) rfl rfl hr0 (zs_f10_9 hr0).1 rfl ?_
      refine zi_iload_n (pc' := 121) rfl rfl rfl ?_
      refine zi_dup2 (pc' := 122) rfl rfl rfl rfl ?_
      obtain ⟨o20, h⟩ := h
      refine zi_iald (pc' := 123) rfl rfl (zs_f10_9 hr0).2 o20 ?_
      refine zi_iconst (pc' := 124) rfl rfl ?_
      refine zi_iload_n (pc' := 125) rfl rfl rfl ?_
      refine zi_ishl (pc' := 126) rfl rfl ?_
      refine zi_ior (pc' := 127) rfl rfl ?_
      refine zi_iast (pc' := 128) rfl rfl (zs_f10_9 hr0).2 o20 ?_
      replace h := h _ rfl
      refine zi_goto (x := 138) rfl ?_
      exact zi_vret rfl rfl h
  · replace h := h.2 c22
    exact zi_vret rfl rfl h
-- SpoutNews.act(III)Z
noncomputable def w_S_act (l1 : Int) (l2 : Int) (l3 : Int) (g : zi_M) (Q : Int → zi_M → Prop) : Prop := w_World_canDo 2 l1 l2 l3 g (fun v1 g2 => ((¬ v1 = 0 → w_Past_keep g2 (fun _ g5 => w_World_carryOut 2 l1 l2 l3 g5 (fun _ g8 => Q 1 g8))) ∧ (v1 = 0 → Q 0 g2)))
set_option maxRecDepth 100000 in
theorem s_S_act {E : sx_E} {d : Nat} (hd : 4 ≤ d) {l1 : Int} {l2 : Int} {l3 : Int} {g : zi_M} {Q : Int → zi_M → Prop} (h : w_S_act l1 l2 l3 g Q) : zi_S E d 24 [.ref 0, zi_i l1, zi_i l2, zi_i l3] g (zi_Qb Q) := by
  refine zi_Sof jf_24 [some (.ref 0), some (zi_i l1), some (zi_i l2), some (zi_i l3)] rfl (And.intro rfl (And.intro rfl (And.intro rfl (And.intro rfl trivial)))) ?_
  unfold w_S_act at h
  refine zi_aload_n (pc' := 1) rfl rfl rfl ?_
  refine zi_getr (pc' := 4) rfl rfl rfl rfl rfl ?_
  refine zi_getr (pc' := 7) rfl rfl rfl rfl rfl ?_
  refine zi_iload_n (pc' := 8) rfl rfl rfl ?_
  refine zi_iload_n (pc' := 9) rfl rfl rfl ?_
  refine zi_iload_n (pc' := 10) rfl rfl rfl ?_
  refine zi_callV (d' := 2) (as := [_, _, _]) (pc' := 13) rfl rfl rfl rfl (Nat.lt_of_lt_of_le (by decide) hd) (s_World_canDo (Nat.le_refl _) rfl h) (zi_kb (fun v1 g2 b3 h => ?_))
  refine zi_if_ne (x := 18) (pc' := 16) rfl rfl (zi_r_bit b3)  (fun c10 => ?_) (fun c10 => ?_)
  · replace h := h.1 c10
    refine zi_aload_n (pc' := 19) rfl rfl rfl ?_
    refine zi_getr (pc' := 22) rfl rfl rfl rfl rfl ?_
    refine zi_aload_n (pc' := 23) rfl rfl rfl ?_
    refine zi_getr (pc' := 26) rfl rfl rfl rfl rfl ?_
    refine zi_getr (pc' := 29) rfl rfl rfl rfl rfl ?_
    refine zi_callV (d' := 2) (as := [_]) (pc' := 32) rfl rfl rfl rfl (Nat.lt_of_lt_of_le (by decide) hd) (s_Past_keep (Nat.le_refl _) h) (zi_kv (fun g5 h => ?_))
    refine zi_aload_n (pc' := 33) rfl rfl rfl ?_
    refine zi_getr (pc' := 36) rfl rfl rfl rfl rfl ?_
    refine zi_getr (pc' := 39) rfl rfl rfl rfl rfl ?_
    refine zi_iload_n (pc' := 40) rfl rfl rfl ?_
    refine zi_iload_n (pc' := 41) rfl rfl rfl ?_
    refine zi_iload_n (pc' := 42) rfl rfl rfl ?_
    refine zi_callV (d' := 3) (as := [_, _, _]) (pc' := 45) rfl rfl rfl rfl (Nat.lt_of_lt_of_le (by decide) hd) (s_World_carryOut (Nat.le_refl _) rfl h) (zi_kv (fun g8 h => ?_))
    refine zi_iconst (pc' := 46) rfl rfl ?_
    exact zi_zret rfl rfl (Or.inr rfl) h
  · replace h := h.2 c10
    refine zi_iconst (pc' := 17) rfl rfl ?_
    exact zi_zret rfl rfl (Or.inl rfl) h
-- SpoutNewsModel.canAct(III)Z
noncomputable def w_M_canAct (l1 : Int) (l2 : Int) (l3 : Int) (g : zi_M) (Q : Int → zi_M → Prop) : Prop := (zi_r l1 ∧ ((¬ l1 = 0 → ((¬ l1 = 1 → ((¬ l1 = 6 → ((¬ l1 = 2 → ((¬ l1 = 7 → w_M_isIn l1 3 5 g (fun v2 g3 => ((v2 = 0 → Q 0 g3) ∧ (¬ v2 = 0 → w_M_isSpout l2 g3 (fun v5 g6 => ((v5 = 0 → Q 0 g6) ∧ (¬ v5 = 0 → Q 1 g6))))))) ∧ (l1 = 7 → w_M_isIn l2 0 5 g (fun v10 g11 => Q v10 g11)))) ∧ (l1 = 2 → w_M_isIn l2 0 5 g (fun v14 g15 => ((v14 = 0 → Q 0 g15) ∧ (¬ v14 = 0 → w_M_isSpout l3 g15 (fun v17 g18 => ((v17 = 0 → Q 0 g18) ∧ (¬ v17 = 0 → Q 1 g18))))))))) ∧ (l1 = 6 → w_M_isSitter l2 g (fun v23 g24 => ((v23 = 0 → Q 0 g24) ∧ (¬ v23 = 0 → w_M_isIn l3 0 15 g24 (fun v26 g27 => ((v26 = 0 → Q 0 g27) ∧ (¬ v26 = 0 → Q 1 g27))))))))) ∧ (l1 = 1 → w_M_isSitter l2 g (fun v32 g33 => Q v32 g33)))) ∧ (l1 = 0 → w_M_isSitter l2 g (fun v36 g37 => ((v36 = 0 → Q 0 g37) ∧ (¬ v36 = 0 → w_M_isSpout l3 g37 (fun v39 g40 => ((v39 = 0 → Q 0 g40) ∧ (¬ v39 = 0 → Q 1 g40)))))))))
set_option maxRecDepth 100000 in
theorem s_M_canAct {E : sx_E} {d : Nat} (hd : 2 ≤ d) {l1 : Int} {l2 : Int} {l3 : Int} {g : zi_M} {Q : Int → zi_M → Prop} (h : w_M_canAct l1 l2 l3 g Q) : zi_S E d 237 [.ref 214, zi_i l1, zi_i l2, zi_i l3] g (zi_Qb Q) := by
  refine zi_Sof jf_237 [some (.ref 214), some (zi_i l1), some (zi_i l2), some (zi_i l3)] rfl (And.intro rfl (And.intro rfl (And.intro rfl (And.intro rfl trivial)))) ?_
  unfold w_M_canAct at h
  refine zi_iload_n (pc' := 1) rfl rfl rfl ?_
  obtain ⟨o1, h⟩ := h
  refine zi_if_ne (x := 26) (pc' := 4) rfl rfl o1  (fun c44 => ?_) (fun c44 => ?_)
  · replace h := h.1 c44
    refine zi_iload_n (pc' := 27) rfl rfl rfl ?_
    refine zi_iconst (pc' := 28) rfl rfl ?_
    refine zi_icmp_ne (x := 37) (pc' := 31) rfl rfl o1 (by decide) (fun c35 => ?_) (fun c35 => ?_)
    · replace h := h.1 c35
      refine zi_iload_n (pc' := 38) rfl rfl rfl ?_
      refine zi_bipush (pc' := 40) rfl rfl (by decide) ?_
      refine zi_icmp_ne (x := 68) (pc' := 43) rfl rfl o1 (by decide) (fun c31 => ?_) (fun c31 => ?_)
      · replace h := h.1 c31
        refine zi_iload_n (pc' := 69) rfl rfl rfl ?_
        refine zi_iconst (pc' := 70) rfl rfl ?_
        refine zi_icmp_ne (x := 97) (pc' := 73) rfl rfl o1 (by decide) (fun c22 => ?_) (fun c22 => ?_)
        · replace h := h.1 c22
          refine zi_iload_n (pc' := 98) rfl rfl rfl ?_
          refine zi_bipush (pc' := 100) rfl rfl (by decide) ?_
          refine zi_icmp_ne (x := 113) (pc' := 103) rfl rfl o1 (by decide) (fun c13 => ?_) (fun c13 => ?_)
          · replace h := h.1 c13
            refine zi_aload_n (pc' := 114) rfl rfl rfl ?_
            refine zi_iload_n (pc' := 115) rfl rfl rfl ?_
            refine zi_iconst (pc' := 116) rfl rfl ?_
            refine zi_iconst (pc' := 117) rfl rfl ?_
            refine zi_callV (d' := 1) (as := [_, _, _]) (pc' := 120) rfl rfl rfl rfl (Nat.lt_of_lt_of_le (by decide) hd) (s_M_isIn (Nat.le_refl _) h) (zi_kb (fun v2 g3 b4 h => ?_))
            refine zi_if_eq (x := 135) (pc' := 123) rfl rfl (zi_r_bit b4)  (fun c9 => ?_) (fun c9 => ?_)
            · replace h := h.1 c9
              refine zi_iconst (pc' := 136) rfl rfl ?_
              exact zi_zret rfl rfl (Or.inl rfl) h
            · replace h := h.2 c9
              refine zi_aload_n (pc' := 124) rfl rfl rfl ?_
              refine zi_iload_n (pc' := 125) rfl rfl rfl ?_
              refine zi_callV (d' := 1) (as := [_]) (pc' := 128) rfl rfl rfl rfl (Nat.lt_of_lt_of_le (by decide) hd) (s_M_isSpout (Nat.le_refl _) h) (zi_kb (fun v5 g6 b7 h => ?_))
              refine zi_if_eq (x := 135) (pc' := 131) rfl rfl (zi_r_bit b7)  (fun c8 => ?_) (fun c8 => ?_)
              · replace h := h.1 c8
                refine zi_iconst (pc' := 136) rfl rfl ?_
                exact zi_zret rfl rfl (Or.inl rfl) h
              · replace h := h.2 c8
                refine zi_iconst (pc' := 132) rfl rfl ?_
                refine zi_goto (x := 136) rfl ?_
                exact zi_zret rfl rfl (Or.inr rfl) h
          · replace h := h.2 c13
            refine zi_aload_n (pc' := 104) rfl rfl rfl ?_
            refine zi_iload_n (pc' := 105) rfl rfl rfl ?_
            refine zi_iconst (pc' := 106) rfl rfl ?_
            refine zi_iconst (pc' := 107) rfl rfl ?_
            refine zi_callV (d' := 1) (as := [_, _, _]) (pc' := 110) rfl rfl rfl rfl (Nat.lt_of_lt_of_le (by decide) hd) (s_M_isIn (Nat.le_refl _) h) (zi_kb (fun v10 g11 b12 h => ?_))
            refine zi_goto (x := 136) rfl ?_
            exact zi_zret rfl rfl b12 h
        · replace h := h.2 c22
          refine zi_aload_n (pc' := 74) rfl rfl rfl ?_
          refine zi_iload_n (pc' := 75) rfl rfl rfl ?_
          refine zi_iconst (pc' := 76) rfl rfl ?_
          refine zi_iconst (pc' := 77) rfl rfl ?_
          refine zi_callV (d' := 1) (as := [_, _, _]) (pc' := 80) rfl rfl rfl rfl (Nat.lt_of_lt_of_le (by decide) hd) (s_M_isIn (Nat.le_refl _) h) (zi_kb (fun v14 g15 b16 h => ?_))
          refine zi_if_eq (x := 95) (pc' := 83) rfl rfl (zi_r_bit b16)  (fun c21 => ?_) (fun c21 => ?_)
          · replace h := h.1 c21
            refine zi_iconst (pc' := 96) rfl rfl ?_
            exact zi_zret rfl rfl (Or.inl rfl) h
          · replace h := h.2 c21
            refine zi_aload_n (pc' := 84) rfl rfl rfl ?_
            refine zi_iload_n (pc' := 85) rfl rfl rfl ?_
            refine zi_callV (d' := 1) (as := [_]) (pc' := 88) rfl rfl rfl rfl (Nat.lt_of_lt_of_le (by decide) hd) (s_M_isSpout (Nat.le_refl _) h) (zi_kb (fun v17 g18 b19 h => ?_))
            refine zi_if_eq (x := 95) (pc' := 91) rfl rfl (zi_r_bit b19)  (fun c20 => ?_) (fun c20 => ?_)
            · replace h := h.1 c20
              refine zi_iconst (pc' := 96) rfl rfl ?_
              exact zi_zret rfl rfl (Or.inl rfl) h
            · replace h := h.2 c20
              refine zi_iconst (pc' := 92) rfl rfl ?_
              refine zi_goto (x := 96) rfl ?_
              exact zi_zret rfl rfl (Or.inr rfl) h
      · replace h := h.2 c31
        refine zi_aload_n (pc' := 44) rfl rfl rfl ?_
        refine zi_iload_n (pc' := 45) rfl rfl rfl ?_
        refine zi_callV (d' := 1) (as := [_]) (pc' := 48) rfl rfl rfl rfl (Nat.lt_of_lt_of_le (by decide) hd) (s_M_isSitter (Nat.le_refl _) h) (zi_kb (fun v23 g24 b25 h => ?_))
        refine zi_if_eq (x := 66) (pc' := 51) rfl rfl (zi_r_bit b25)  (fun c30 => ?_) (fun c30 => ?_)
        · replace h := h.1 c30
          refine zi_iconst (pc' := 67) rfl rfl ?_
          exact zi_zret rfl rfl (Or.inl rfl) h
        · replace h := h.2 c30
          refine zi_aload_n (pc' := 52) rfl rfl rfl ?_
          refine zi_iload_n (pc' := 53) rfl rfl rfl ?_
          refine zi_iconst (pc' := 54) rfl rfl ?_
          refine zi_bipush (pc' := 56) rfl rfl (by decide) ?_
          refine zi_callV (d' := 1) (as := [_, _, _]) (pc' := 59) rfl rfl rfl rfl (Nat.lt_of_lt_of_le (by decide) hd) (s_M_isIn (Nat.le_refl _) h) (zi_kb (fun v26 g27 b28 h => ?_))
          refine zi_if_eq (x := 66) (pc' := 62) rfl rfl (zi_r_bit b28)  (fun c29 => ?_) (fun c29 => ?_)
          · replace h := h.1 c29
            refine zi_iconst (pc' := 67) rfl rfl ?_
            exact zi_zret rfl rfl (Or.inl rfl) h
          · replace h := h.2 c29
            refine zi_iconst (pc' := 63) rfl rfl ?_
            refine zi_goto (x := 67) rfl ?_
            exact zi_zret rfl rfl (Or.inr rfl) h
    · replace h := h.2 c35
      refine zi_aload_n (pc' := 32) rfl rfl rfl ?_
      refine zi_iload_n (pc' := 33) rfl rfl rfl ?_
      refine zi_callV (d' := 1) (as := [_]) (pc' := 36) rfl rfl rfl rfl (Nat.lt_of_lt_of_le (by decide) hd) (s_M_isSitter (Nat.le_refl _) h) (zi_kb (fun v32 g33 b34 h => ?_))
      exact zi_zret rfl rfl b34 h
  · replace h := h.2 c44
    refine zi_aload_n (pc' := 5) rfl rfl rfl ?_
    refine zi_iload_n (pc' := 6) rfl rfl rfl ?_
    refine zi_callV (d' := 1) (as := [_]) (pc' := 9) rfl rfl rfl rfl (Nat.lt_of_lt_of_le (by decide) hd) (s_M_isSitter (Nat.le_refl _) h) (zi_kb (fun v36 g37 b38 h => ?_))
    refine zi_if_eq (x := 24) (pc' := 12) rfl rfl (zi_r_bit b38)  (fun c43 => ?_) (fun c43 => ?_)
    · replace h := h.1 c43
      refine zi_iconst (pc' := 25) rfl rfl ?_
      exact zi_zret rfl rfl (Or.inl rfl) h
    · replace h := h.2 c43
      refine zi_aload_n (pc' := 13) rfl rfl rfl ?_
      refine zi_iload_n (pc' := 14) rfl rfl rfl ?_
      refine zi_callV (d' := 1) (as := [_]) (pc' := 17) rfl rfl rfl rfl (Nat.lt_of_lt_of_le (by decide) hd) (s_M_isSpout (Nat.le_refl _) h) (zi_kb (fun v39 g40 b41 h => ?_))
      refine zi_if_eq (x := 24) (pc' := 20) rfl rfl (zi_r_bit b41)  (fun c42 => ?_) (fun c42 => ?_)
      · replace h := h.1 c42
        refine zi_iconst (pc' := 25) rfl rfl ?_
        exact zi_zret rfl rfl (Or.inl rfl) h
      · replace h := h.2 c42
        refine zi_iconst (pc' := 21) rfl rfl ?_
        refine zi_goto (x := 25) rfl ?_
        exact zi_zret rfl rfl (Or.inr rfl) h
-- SpoutNewsModel.keepsAhead()V
noncomputable def w_M_keepsAhead_l57 (K91 : zi_M → Prop) (Q : Int → zi_M → Prop) : Nat → Int → zi_M → Prop
  | 0, _, _ => False
  | f + 1, l1, g => (zi_r l1 ∧ ((264 ≤ l1 → K91 g) ∧ (l1 < 264 → ((0 ≤ l1 ∧ l1 < 264) ∧ ((0 ≤ ((264 * (g 214 3)) + l1) ∧ ((264 * (g 214 3)) + l1) < 1584) ∧ (∀ g5, g5 = zi_u g 216 ((264 * (g 214 3)) + l1) (g 215 l1) → w_M_keepsAhead_l57 K91 Q f (l1 + 1) g5))))))
noncomputable def w_M_keepsAhead_l21 (K55 : zi_M → Prop) (Q : Int → zi_M → Prop) : Nat → Int → zi_M → Prop
  | 0, _, _ => False
  | f + 1, l1, g => (zi_r l1 ∧ zi_r (264 * (g 214 3)) ∧ (((264 * (g 214 3)) ≤ l1 → K55 g) ∧ (l1 < (264 * (g 214 3)) → ((0 ≤ (l1 + 264) ∧ (l1 + 264) < 1584) ∧ ((0 ≤ l1 ∧ l1 < 1584) ∧ (∀ g15, g15 = zi_u g 216 l1 (g 216 (l1 + 264)) → w_M_keepsAhead_l21 K55 Q f (l1 + 1) g15))))))
noncomputable def w_M_keepsAhead (g : zi_M) (Q : Int → zi_M → Prop) : Prop := (zi_r (g 214 3) ∧ ((¬ (g 214 3) = 6 → (∃ f9, w_M_keepsAhead_l57 (fun g7 => (∀ g8, g8 = zi_u g7 214 3 ((g7 214 3) + 1) → Q 0 g8)) Q f9 0 g)) ∧ ((g 214 3) = 6 → (∀ g10, g10 = zi_u g 214 3 ((g 214 3) - 1) → (∃ f21, w_M_keepsAhead_l21 (fun g17 => (∃ f20, w_M_keepsAhead_l57 (fun g18 => (∀ g19, g19 = zi_u g18 214 3 ((g18 214 3) + 1) → Q 0 g19)) Q f20 0 g17)) Q f21 0 g10)))))
set_option maxRecDepth 100000 in
theorem s_M_keepsAhead_l57_r {E : sx_E} {d : Nat} (hd : 1 ≤ d) {K91 : zi_M → Prop} {Q : Int → zi_M → Prop} (hK91 : ∀ (g : zi_M), K91 g → zi_W E d 238 91 [some (.ref 214), none] [] g (zi_Qv Q)) : ∀ (f : Nat) {l1 : Int} {g : zi_M}, w_M_keepsAhead_l57 K91 Q f l1 g → zi_W E d 238 57 [some (.ref 214), some (zi_i l1)] [] g (zi_Qv Q)
  | 0, _, _, h => False.elim h
  | f + 1, l1, g, h => by
    refine zi_iload_n (pc' := 58) rfl rfl rfl ?_
    refine zi_sipush (pc' := 61) rfl rfl (by decide) ?_
    obtain ⟨o2, h⟩ := h
    refine zi_icmp_ge (x := 91) (pc' := 64) rfl rfl o2 (by decide) (fun c6 => ?_) (fun c6 => ?_)
    · replace h := h.1 c6
      exact zi_wk (hK91 _ h) (And.intro rfl trivial)
    · replace h := h.2 c6
      refine zi_aload_n (pc' := 65) rfl rfl rfl ?_
      refine zi_getr (pc' := 68) rfl rfl rfl rfl rfl ?_
      refine zi_sipush (pc' := 71) rfl rfl (by decide) ?_
      refine zi_aload_n (pc' := 72) rfl rfl rfl ?_
      refine zi_geti (pc' := 75) 3 rfl rfl rfl rfl rfl rfl ?_
      refine zi_imul (pc' := 76) rfl rfl ?_
      refine zi_iload_n (pc' := 77) rfl rfl rfl ?_
      refine zi_iadd (pc' := 78) rfl rfl ?_
      refine zi_aload_n (pc' := 79) rfl rfl rfl ?_
      refine zi_getr (pc' := 82) rfl rfl rfl rfl rfl ?_
      refine zi_iload_n (pc' := 83) rfl rfl rfl ?_
      obtain ⟨o3, h⟩ := h
      refine zi_iald (pc' := 84) rfl rfl rfl o3 ?_
      obtain ⟨o4, h⟩ := h
      refine zi_iast (pc' := 85) rfl rfl rfl o4 ?_
      replace h := h _ rfl
      refine zi_iinc (pc' := 88) [some _, some _] rfl rfl rfl rfl ?_
      refine zi_goto (x := 57) rfl ?_
      exact zi_wk (s_M_keepsAhead_l57_r hd hK91 f h) (And.intro rfl (And.intro rfl trivial))
set_option maxRecDepth 100000 in
theorem s_M_keepsAhead_l57 {E : sx_E} {d : Nat} (hd : 1 ≤ d) {K91 : zi_M → Prop} {Q : Int → zi_M → Prop} {l1 : Int} {g : zi_M} (h : ∃ f, w_M_keepsAhead_l57 K91 Q f l1 g) (hK91 : ∀ (g : zi_M), K91 g → zi_W E d 238 91 [some (.ref 214), none] [] g (zi_Qv Q)) : zi_W E d 238 57 [some (.ref 214), some (zi_i l1)] [] g (zi_Qv Q) := by
  obtain ⟨f, h⟩ := h
  exact s_M_keepsAhead_l57_r hd hK91 f h
set_option maxRecDepth 100000 in
theorem s_M_keepsAhead_l21_r {E : sx_E} {d : Nat} (hd : 1 ≤ d) {K55 : zi_M → Prop} {Q : Int → zi_M → Prop} (hK55 : ∀ (g : zi_M), K55 g → zi_W E d 238 55 [some (.ref 214), none] [] g (zi_Qv Q)) : ∀ (f : Nat) {l1 : Int} {g : zi_M}, w_M_keepsAhead_l21 K55 Q f l1 g → zi_W E d 238 21 [some (.ref 214), some (zi_i l1)] [] g (zi_Qv Q)
  | 0, _, _, h => False.elim h
  | f + 1, l1, g, h => by
    refine zi_iload_n (pc' := 22) rfl rfl rfl ?_
    refine zi_sipush (pc' := 25) rfl rfl (by decide) ?_
    refine zi_aload_n (pc' := 26) rfl rfl rfl ?_
    refine zi_geti (pc' := 29) 3 rfl rfl rfl rfl rfl rfl ?_
    refine zi_imul (pc' := 30) rfl rfl ?_
    obtain ⟨o11, o12, h⟩ := h
    refine zi_icmp_ge (x := 55) (pc' := 33) rfl rfl o11 o12 (fun c16 => ?_) (fun c16 => ?_)
    · replace h := h.1 c16
      exact zi_wk (hK55 _ h) (And.intro rfl trivial)
    · replace h := h.2 c16
      refine zi_aload_n (pc' := 34) rfl rfl rfl ?_
      refine zi_getr (pc' := 37) rfl rfl rfl rfl rfl ?_
      refine zi_iload_n (pc' := 38) rfl rfl rfl ?_
      refine zi_aload_n (pc' := 39) rfl rfl rfl ?_
      refine zi_getr (pc' := 42) rfl rfl rfl rfl rfl ?_
      refine zi_iload_n (pc' := 43) rfl rfl rfl ?_
      refine zi_sipush (pc' := 46) rfl rfl (by decide) ?_
      refine zi_iadd (pc' := 47) rfl rfl ?_
      obtain ⟨o13, h⟩ := h
      refine zi_iald (pc' := 48) rfl rfl rfl o13 ?_
      obtain ⟨o14, h⟩ := h
      refine zi_iast (pc' := 49) rfl rfl rfl o14 ?_
      replace h := h _ rfl
      refine zi_iinc (pc' := 52) [some _, some _] rfl rfl rfl rfl ?_
      refine zi_goto (x := 21) rfl ?_
      exact zi_wk (s_M_keepsAhead_l21_r hd hK55 f h) (And.intro rfl (And.intro rfl trivial))
set_option maxRecDepth 100000 in
theorem s_M_keepsAhead_l21 {E : sx_E} {d : Nat} (hd : 1 ≤ d) {K55 : zi_M → Prop} {Q : Int → zi_M → Prop} {l1 : Int} {g : zi_M} (h : ∃ f, w_M_keepsAhead_l21 K55 Q f l1 g) (hK55 : ∀ (g : zi_M), K55 g → zi_W E d 238 55 [some (.ref 214), none] [] g (zi_Qv Q)) : zi_W E d 238 21 [some (.ref 214), some (zi_i l1)] [] g (zi_Qv Q) := by
  obtain ⟨f, h⟩ := h
  exact s_M_keepsAhead_l21_r hd hK55 f h
set_option maxRecDepth 100000 in
theorem s_M_keepsAhead {E : sx_E} {d : Nat} (hd : 1 ≤ d) {g : zi_M} {Q : Int → zi_M → Prop} (h : w_M_keepsAhead g Q) : zi_S E d 238 [.ref 214] g (zi_Qv Q) := by
  refine zi_Sof jf_238 [some (.ref 214), none] rfl (And.intro rfl trivial) ?_
  unfold w_M_keepsAhead at h
  refine zi_aload_n (pc' := 1) rfl rfl rfl ?_
  refine zi_geti (pc' := 4) 3 rfl rfl rfl rfl rfl rfl ?_
  refine zi_bipush (pc' := 6) rfl rfl (by decide) ?_
  obtain ⟨o1, h⟩ := h
  refine zi_icmp_ne (x := 55) (pc' := 9) rfl rfl o1 (by decide) (fun c22 => ?_) (fun c22 => ?_)
  · replace h := h.1 c22
    refine zi_iconst (pc' := 56) rfl rfl ?_
    refine zi_istore_n (pc' := 57) [some _, some _] rfl rfl rfl ?_
    refine zi_wk (s_M_keepsAhead_l57 hd h (fun g7 h => ?_)) (And.intro rfl (And.intro rfl trivial))
    refine zi_aload_n (pc' := 92) rfl rfl rfl ?_
    refine zi_aload_n (pc' := 93) rfl rfl rfl ?_
    refine zi_geti (pc' := 96) 3 rfl rfl rfl rfl rfl rfl ?_
    refine zi_iconst (pc' := 97) rfl rfl ?_
    refine zi_iadd (pc' := 98) rfl rfl ?_
    refine zi_puti (pc' := 101) 3 rfl rfl rfl rfl rfl  ?_
    replace h := h _ rfl
    exact zi_vret rfl rfl h
  · replace h := h.2 c22
    refine zi_aload_n (pc' := 10) rfl rfl rfl ?_
    refine zi_aload_n (pc' := 11) rfl rfl rfl ?_
    refine zi_geti (pc' := 14) 3 rfl rfl rfl rfl rfl rfl ?_
    refine zi_iconst (pc' := 15) rfl rfl ?_
    refine zi_isub (pc' := 16) rfl rfl ?_
    refine zi_puti (pc' := 19) 3 rfl rfl rfl rfl rfl  ?_
    replace h := h _ rfl
    refine zi_iconst (pc' := 20) rfl rfl ?_
    refine zi_istore_n (pc' := 21) [some _, some _] rfl rfl rfl ?_
    refine zi_wk (s_M_keepsAhead_l21 hd h (fun g17 h => ?_)) (And.intro rfl (And.intro rfl trivial))
    refine zi_iconst (pc' := 56) rfl rfl ?_
    refine zi_istore_n (pc' := 57) [some _, some _] rfl rfl rfl ?_
    refine zi_wk (s_M_keepsAhead_l57 hd h (fun g18 h => ?_)) (And.intro rfl (And.intro rfl trivial))
    refine zi_aload_n (pc' := 92) rfl rfl rfl ?_
    refine zi_aload_n (pc' := 93) rfl rfl rfl ?_
    refine zi_geti (pc' := 96) 3 rfl rfl rfl rfl rfl rfl ?_
    refine zi_iconst (pc' := 97) rfl rfl ?_
    refine zi_iadd (pc' := 98) rfl rfl ?_
    refine zi_puti (pc' := 101) 3 rfl rfl rfl rfl rfl  ?_
    replace h := h _ rfl
    exact zi_vret rfl rfl h
-- SpoutNewsModel.acts(III)V
noncomputable def w_M_acts_b114 (l1 : Int) (l2 : Int) (g : zi_M) (Q : Int → zi_M → Prop) : Prop := (zi_r l1 ∧ ((¬ l1 = 7 → Q 0 g) ∧ (l1 = 7 → ((0 ≤ (258 + l2) ∧ (258 + l2) < 264) ∧ (∀ g8, g8 = zi_u g 215 (258 + l2) 0 → Q 0 g8)))))
noncomputable def w_M_acts_b84 (l1 : Int) (l2 : Int) (l3 : Int) (g : zi_M) (Q : Int → zi_M → Prop) : Prop := (zi_r l1 ∧ ((¬ l1 = 6 → w_M_acts_b114 l1 l2 g Q) ∧ (l1 = 6 → ((0 ≤ (236 + l2) ∧ (236 + l2) < 264) ∧ (∀ g11, g11 = zi_u g 215 (236 + l2) (zi_or (g 215 (236 + l2)) (zi_shl 1 l3)) → w_M_acts_b114 l1 l2 g11 Q)))))
noncomputable def w_M_acts_b51 (l1 : Int) (l2 : Int) (l3 : Int) (g : zi_M) (Q : Int → zi_M → Prop) : Prop := (zi_r l1 ∧ ((l1 < 3 → w_M_acts_b84 l1 l2 l3 g Q) ∧ (3 ≤ l1 → ((5 < l1 → w_M_acts_b84 l1 l2 l3 g Q) ∧ (l1 ≤ 5 → ((¬ l1 = 5 → ((0 ≤ (6 + l2) ∧ (6 + l2) < 264) ∧ (∀ g14, g14 = zi_u g 215 (6 + l2) ((l1 - 3) + 1) → w_M_acts_b84 l1 l2 l3 g14 Q))) ∧ (l1 = 5 → ((0 ≤ (6 + l2) ∧ (6 + l2) < 264) ∧ (∀ g16, g16 = zi_u g 215 (6 + l2) 0 → w_M_acts_b84 l1 l2 l3 g16 Q)))))))))
noncomputable def w_M_acts_b33 (l1 : Int) (l2 : Int) (l3 : Int) (g : zi_M) (Q : Int → zi_M → Prop) : Prop := (zi_r l1 ∧ ((¬ l1 = 2 → w_M_acts_b51 l1 l2 l3 g Q) ∧ (l1 = 2 → ((0 ≤ (252 + l2) ∧ (252 + l2) < 264) ∧ (∀ g21, g21 = zi_u g 215 (252 + l2) (l3 + 1) → w_M_acts_b51 l1 l2 l3 g21 Q)))))
noncomputable def w_M_acts_b17 (l1 : Int) (l2 : Int) (l3 : Int) (g : zi_M) (Q : Int → zi_M → Prop) : Prop := (zi_r l1 ∧ ((¬ l1 = 1 → w_M_acts_b33 l1 l2 l3 g Q) ∧ (l1 = 1 → ((0 ≤ (244 + l2) ∧ (244 + l2) < 264) ∧ (∀ g24, g24 = zi_u g 215 (244 + l2) 0 → w_M_acts_b33 l1 l2 l3 g24 Q)))))
noncomputable def w_M_acts (l1 : Int) (l2 : Int) (l3 : Int) (g : zi_M) (Q : Int → zi_M → Prop) : Prop := (zi_r l1 ∧ ((¬ l1 = 0 → w_M_acts_b17 l1 l2 l3 g Q) ∧ (l1 = 0 → ((0 ≤ (244 + l2) ∧ (244 + l2) < 264) ∧ (∀ g27, g27 = zi_u g 215 (244 + l2) (l3 + 1) → w_M_acts_b17 l1 l2 l3 g27 Q)))))
set_option maxRecDepth 100000 in
theorem s_M_acts_b114 {E : sx_E} {d : Nat} (hd : 1 ≤ d) {l1 : Int} {l2 : Int} {Q : Int → zi_M → Prop} {g : zi_M} (h : w_M_acts_b114 l1 l2 g Q) : zi_W E d 239 114 [some (.ref 214), some (zi_i l1), some (zi_i l2), none] [] g (zi_Qv Q) := by
  unfold w_M_acts_b114 at h
  refine zi_iload_n (pc' := 115) rfl rfl rfl ?_
  refine zi_bipush (pc' := 117) rfl rfl (by decide) ?_
  obtain ⟨o6, h⟩ := h
  refine zi_icmp_ne (x := 131) (pc' := 120) rfl rfl o6 (by decide) (fun c9 => ?_) (fun c9 => ?_)
  · replace h := h.1 c9
    exact zi_vret rfl rfl h
  · replace h := h.2 c9
    refine zi_aload_n (pc' := 121) rfl rfl rfl ?_
    refine zi_getr (pc' := 124) rfl rfl rfl rfl rfl ?_
    refine zi_sipush (pc' := 127) rfl rfl (by decide) ?_
    refine zi_iload_n (pc' := 128) rfl rfl rfl ?_
    refine zi_iadd (pc' := 129) rfl rfl ?_
    refine zi_iconst (pc' := 130) rfl rfl ?_
    obtain ⟨o7, h⟩ := h
    refine zi_iast (pc' := 131) rfl rfl rfl o7 ?_
    replace h := h _ rfl
    exact zi_vret rfl rfl h
set_option maxRecDepth 100000 in
theorem s_M_acts_b84 {E : sx_E} {d : Nat} (hd : 1 ≤ d) {l1 : Int} {l2 : Int} {l3 : Int} {Q : Int → zi_M → Prop} {g : zi_M} (h : w_M_acts_b84 l1 l2 l3 g Q) : zi_W E d 239 84 [some (.ref 214), some (zi_i l1), some (zi_i l2), some (zi_i l3)] [] g (zi_Qv Q) := by
  unfold w_M_acts_b84 at h
  refine zi_iload_n (pc' := 85) rfl rfl rfl ?_
  refine zi_bipush (pc' := 87) rfl rfl (by decide) ?_
  obtain ⟨o5, h⟩ := h
  refine zi_icmp_ne (x := 114) (pc' := 90) rfl rfl o5 (by decide) (fun c12 => ?_) (fun c12 => ?_)
  · replace h := h.1 c12
    exact zi_wk (s_M_acts_b114 hd h) (And.intro rfl (And.intro rfl (And.intro rfl trivial)))
  · replace h := h.2 c12
    refine zi_aload_n (pc' := 91) rfl rfl rfl ?_
    refine zi_getr (pc' := 94) rfl rfl rfl rfl rfl ?_
    refine zi_sipush (pc' := 97) rfl rfl (by decide) ?_
    refine zi_iload_n (pc' := 98) rfl rfl rfl ?_
    refine zi_iadd (pc' := 99) rfl rfl ?_
    refine zi_aload_n (pc' := 100) rfl rfl rfl ?_
    refine zi_getr (pc' := 103) rfl rfl rfl rfl rfl ?_
    refine zi_sipush (pc' := 106) rfl rfl (by decide) ?_
    refine zi_iload_n (pc' := 107) rfl rfl rfl ?_
    refine zi_iadd (pc' := 108) rfl rfl ?_
    obtain ⟨o10, h⟩ := h
    refine zi_iald (pc' := 109) rfl rfl rfl o10 ?_
    refine zi_iconst (pc' := 110) rfl rfl ?_
    refine zi_iload_n (pc' := 111) rfl rfl rfl ?_
    refine zi_ishl (pc' := 112) rfl rfl ?_
    refine zi_ior (pc' := 113) rfl rfl ?_
    refine zi_iast (pc' := 114) rfl rfl rfl o10 ?_
    replace h := h _ rfl
    exact zi_wk (s_M_acts_b114 hd h) (And.intro rfl (And.intro rfl (And.intro rfl trivial)))
set_option maxRecDepth 100000 in
theorem s_M_acts_b51 {E : sx_E} {d : Nat} (hd : 1 ≤ d) {l1 : Int} {l2 : Int} {l3 : Int} {Q : Int → zi_M → Prop} {g : zi_M} (h : w_M_acts_b51 l1 l2 l3 g Q) : zi_W E d 239 51 [some (.ref 214), some (zi_i l1), some (zi_i l2), some (zi_i l3)] [] g (zi_Qv Q) := by
  unfold w_M_acts_b51 at h
  refine zi_iload_n (pc' := 52) rfl rfl rfl ?_
  refine zi_iconst (pc' := 53) rfl rfl ?_
  obtain ⟨o4, h⟩ := h
  refine zi_icmp_lt (x := 84) (pc' := 56) rfl rfl o4 (by decide) (fun c19 => ?_) (fun c19 => ?_)
  · replace h := h.1 c19
    exact zi_wk (s_M_acts_b84 hd h) (And.intro rfl (And.intro rfl (And.intro rfl (And.intro rfl trivial))))
  · replace h := h.2 c19
    refine zi_iload_n (pc' := 57) rfl rfl rfl ?_
    refine zi_iconst (pc' := 58) rfl rfl ?_
    refine zi_icmp_gt (x := 84) (pc' := 61) rfl rfl o4 (by decide) (fun c18 => ?_) (fun c18 => ?_)
    · replace h := h.1 c18
      exact zi_wk (s_M_acts_b84 hd h) (And.intro rfl (And.intro rfl (And.intro rfl (And.intro rfl trivial))))
    · replace h := h.2 c18
      refine zi_aload_n (pc' := 62) rfl rfl rfl ?_
      refine zi_getr (pc' := 65) rfl rfl rfl rfl rfl ?_
      refine zi_bipush (pc' := 67) rfl rfl (by decide) ?_
      refine zi_iload_n (pc' := 68) rfl rfl rfl ?_
      refine zi_iadd (pc' := 69) rfl rfl ?_
      refine zi_iload_n (pc' := 70) rfl rfl rfl ?_
      refine zi_iconst (pc' := 71) rfl rfl ?_
      refine zi_icmp_ne (x := 78) (pc' := 74) rfl rfl o4 (by decide) (fun c17 => ?_) (fun c17 => ?_)
      · replace h := h.1 c17
        refine zi_iload_n (pc' := 79) rfl rfl rfl ?_
        refine zi_iconst (pc' := 80) rfl rfl ?_
        refine zi_isub (pc' := 81) rfl rfl ?_
        refine zi_iconst (pc' := 82) rfl rfl ?_
        refine zi_iadd (pc' := 83) rfl rfl ?_
        obtain ⟨o13, h⟩ := h
        refine zi_iast (pc' := 84) rfl rfl rfl o13 ?_
        replace h := h _ rfl
        exact zi_wk (s_M_acts_b84 hd h) (And.intro rfl (And.intro rfl (And.intro rfl (And.intro rfl trivial))))
      · replace h := h.2 c17
        refine zi_iconst (pc' := 75) rfl rfl ?_
        refine zi_goto (x := 83) rfl ?_
        obtain ⟨o15, h⟩ := h
        refine zi_iast (pc' := 84) rfl rfl rfl o15 ?_
        replace h := h _ rfl
        exact zi_wk (s_M_acts_b84 hd h) (And.intro rfl (And.intro rfl (And.intro rfl (And.intro rfl trivial))))
set_option maxRecDepth 100000 in
theorem s_M_acts_b33 {E : sx_E} {d : Nat} (hd : 1 ≤ d) {l1 : Int} {l2 : Int} {l3 : Int} {Q : Int → zi_M → Prop} {g : zi_M} (h : w_M_acts_b33 l1 l2 l3 g Q) : zi_W E d 239 33 [some (.ref 214), some (zi_i l1), some (zi_i l2), some (zi_i l3)] [] g (zi_Qv Q) := by
  unfold w_M_acts_b33 at h
  refine zi_iload_n (pc' := 34) rfl rfl rfl ?_
  refine zi_iconst (pc' := 35) rfl rfl ?_
  obtain ⟨o3, h⟩ := h
  refine zi_icmp_ne (x := 51) (pc' := 38) rfl rfl o3 (by decide) (fun c22 => ?_) (fun c22 => ?_)
  · replace h := h.1 c22
    exact zi_wk (s_M_acts_b51 hd h) (And.intro rfl (And.intro rfl (And.intro rfl (And.intro rfl trivial))))
  · replace h := h.2 c22
    refine zi_aload_n (pc' := 39) rfl rfl rfl ?_
    refine zi_getr (pc' := 42) rfl rfl rfl rfl rfl ?_
    refine zi_sipush (pc' := 45) rfl rfl (by decide) ?_
    refine zi_iload_n (pc' := 46) rfl rfl rfl ?_
    refine zi_iadd (pc' := 47) rfl rfl ?_
    refine zi_iload_n (pc' := 48) rfl rfl rfl ?_
    refine zi_iconst (pc' := 49) rfl rfl ?_
    refine zi_iadd (pc' := 50) rfl rfl ?_
    obtain ⟨o20, h⟩ := h
    refine zi_iast (pc' := 51) rfl rfl rfl o20 ?_
    replace h := h _ rfl
    exact zi_wk (s_M_acts_b51 hd h) (And.intro rfl (And.intro rfl (And.intro rfl (And.intro rfl trivial))))
set_option maxRecDepth 100000 in
theorem s_M_acts_b17 {E : sx_E} {d : Nat} (hd : 1 ≤ d) {l1 : Int} {l2 : Int} {l3 : Int} {Q : Int → zi_M → Prop} {g : zi_M} (h : w_M_acts_b17 l1 l2 l3 g Q) : zi_W E d 239 17 [some (.ref 214), some (zi_i l1), some (zi_i l2), some (zi_i l3)] [] g (zi_Qv Q) := by
  unfold w_M_acts_b17 at h
  refine zi_iload_n (pc' := 18) rfl rfl rfl ?_
  refine zi_iconst (pc' := 19) rfl rfl ?_
  obtain ⟨o2, h⟩ := h
  refine zi_icmp_ne (x := 33) (pc' := 22) rfl rfl o2 (by decide) (fun c25 => ?_) (fun c25 => ?_)
  · replace h := h.1 c25
    exact zi_wk (s_M_acts_b33 hd h) (And.intro rfl (And.intro rfl (And.intro rfl (And.intro rfl trivial))))
  · replace h := h.2 c25
    refine zi_aload_n (pc' := 23) rfl rfl rfl ?_
    refine zi_getr (pc' := 26) rfl rfl rfl rfl rfl ?_
    refine zi_sipush (pc' := 29) rfl rfl (by decide) ?_
    refine zi_iload_n (pc' := 30) rfl rfl rfl ?_
    refine zi_iadd (pc' := 31) rfl rfl ?_
    refine zi_iconst (pc' := 32) rfl rfl ?_
    obtain ⟨o23, h⟩ := h
    refine zi_iast (pc' := 33) rfl rfl rfl o23 ?_
    replace h := h _ rfl
    exact zi_wk (s_M_acts_b33 hd h) (And.intro rfl (And.intro rfl (And.intro rfl (And.intro rfl trivial))))
set_option maxRecDepth 100000 in
theorem s_M_acts {E : sx_E} {d : Nat} (hd : 1 ≤ d) {l1 : Int} {l2 : Int} {l3 : Int} {g : zi_M} {Q : Int → zi_M → Prop} (h : w_M_acts l1 l2 l3 g Q) : zi_S E d 239 [.ref 214, zi_i l1, zi_i l2, zi_i l3] g (zi_Qv Q) := by
  refine zi_Sof jf_239 [some (.ref 214), some (zi_i l1), some (zi_i l2), some (zi_i l3)] rfl (And.intro rfl (And.intro rfl (And.intro rfl (And.intro rfl trivial)))) ?_
  unfold w_M_acts at h
  refine zi_iload_n (pc' := 1) rfl rfl rfl ?_
  obtain ⟨o1, h⟩ := h
  refine zi_if_ne (x := 17) (pc' := 4) rfl rfl o1  (fun c28 => ?_) (fun c28 => ?_)
  · replace h := h.1 c28
    exact zi_wk (s_M_acts_b17 hd h) (And.intro rfl (And.intro rfl (And.intro rfl (And.intro rfl trivial))))
  · replace h := h.2 c28
    refine zi_aload_n (pc' := 5) rfl rfl rfl ?_
    refine zi_getr (pc' := 8) rfl rfl rfl rfl rfl ?_
    refine zi_sipush (pc' := 11) rfl rfl (by decide) ?_
    refine zi_iload_n (pc' := 12) rfl rfl rfl ?_
    refine zi_iadd (pc' := 13) rfl rfl ?_
    refine zi_iload_n (pc' := 14) rfl rfl rfl ?_
    refine zi_iconst (pc' := 15) rfl rfl ?_
    refine zi_iadd (pc' := 16) rfl rfl ?_
    obtain ⟨o26, h⟩ := h
    refine zi_iast (pc' := 17) rfl rfl rfl o26 ?_
    replace h := h _ rfl
    exact zi_wk (s_M_acts_b17 hd h) (And.intro rfl (And.intro rfl (And.intro rfl (And.intro rfl trivial))))
-- SpoutNewsModel.act(III)Z
noncomputable def w_M_act (l1 : Int) (l2 : Int) (l3 : Int) (g : zi_M) (Q : Int → zi_M → Prop) : Prop := (∀ g1, g1 = zi_u g 214 0 0 → w_M_canAct l1 l2 l3 g1 (fun v2 g3 => ((¬ v2 = 0 → w_M_keepsAhead g3 (fun _ g6 => w_M_acts l1 l2 l3 g6 (fun _ g9 => Q 1 g9))) ∧ (v2 = 0 → Q 0 g3))))
set_option maxRecDepth 100000 in
theorem s_M_act {E : sx_E} {d : Nat} (hd : 3 ≤ d) {l1 : Int} {l2 : Int} {l3 : Int} {g : zi_M} {Q : Int → zi_M → Prop} (h : w_M_act l1 l2 l3 g Q) : zi_S E d 236 [.ref 214, zi_i l1, zi_i l2, zi_i l3] g (zi_Qb Q) := by
  refine zi_Sof jf_236 [some (.ref 214), some (zi_i l1), some (zi_i l2), some (zi_i l3)] rfl (And.intro rfl (And.intro rfl (And.intro rfl (And.intro rfl trivial)))) ?_
  unfold w_M_act at h
  refine zi_aload_n (pc' := 1) rfl rfl rfl ?_
  refine zi_iconst (pc' := 2) rfl rfl ?_
  refine zi_puti (pc' := 5) 0 rfl rfl rfl rfl rfl  ?_
  replace h := h _ rfl
  refine zi_aload_n (pc' := 6) rfl rfl rfl ?_
  refine zi_iload_n (pc' := 7) rfl rfl rfl ?_
  refine zi_iload_n (pc' := 8) rfl rfl rfl ?_
  refine zi_iload_n (pc' := 9) rfl rfl rfl ?_
  refine zi_callV (d' := 2) (as := [_, _, _]) (pc' := 12) rfl rfl rfl rfl (Nat.lt_of_lt_of_le (by decide) hd) (s_M_canAct (Nat.le_refl _) h) (zi_kb (fun v2 g3 b4 h => ?_))
  refine zi_if_ne (x := 17) (pc' := 15) rfl rfl (zi_r_bit b4)  (fun c11 => ?_) (fun c11 => ?_)
  · replace h := h.1 c11
    refine zi_aload_n (pc' := 18) rfl rfl rfl ?_
    refine zi_callV (d' := 1) (as := []) (pc' := 21) rfl rfl rfl rfl (Nat.lt_of_lt_of_le (by decide) hd) (s_M_keepsAhead (Nat.le_refl _) h) (zi_kv (fun g6 h => ?_))
    refine zi_aload_n (pc' := 22) rfl rfl rfl ?_
    refine zi_iload_n (pc' := 23) rfl rfl rfl ?_
    refine zi_iload_n (pc' := 24) rfl rfl rfl ?_
    refine zi_iload_n (pc' := 25) rfl rfl rfl ?_
    refine zi_callV (d' := 1) (as := [_, _, _]) (pc' := 28) rfl rfl rfl rfl (Nat.lt_of_lt_of_le (by decide) hd) (s_M_acts (Nat.le_refl _) h) (zi_kv (fun g9 h => ?_))
    refine zi_iconst (pc' := 29) rfl rfl ?_
    exact zi_zret rfl rfl (Or.inr rfl) h
  · replace h := h.2 c11
    refine zi_iconst (pc' := 16) rfl rfl ?_
    exact zi_zret rfl rfl (Or.inl rfl) h
-- SpoutNews$Texts.rainOn(I)I
noncomputable def w_Texts_rainOn_l2 (l1 : Int) (K20 : Int → zi_M → Prop) (K33 : zi_M → Prop) (Q : Int → zi_M → Prop) : Nat → Int → zi_M → Prop
  | 0, _, _ => False
  | f + 1, l2, g => (zi_r l2 ∧ zi_r (g 19 5) ∧ (((g 19 5) ≤ l2 → K33 g) ∧ (l2 < (g 19 5) → ((0 ≤ l2 ∧ l2 < 16) ∧ (zi_r (g 30 l2) ∧ zi_r l1 ∧ ((¬ (g 30 l2) = l1 → w_Texts_rainOn_l2 l1 K20 K33 Q f (l2 + 1) g) ∧ ((g 30 l2) = l1 → K20 l2 g)))))))
noncomputable def w_Texts_rainOn (l1 : Int) (g : zi_M) (Q : Int → zi_M → Prop) : Prop := (∃ f12, w_Texts_rainOn_l2 l1 (fun k8 g9 => ((0 ≤ k8 ∧ k8 < 16) ∧ Q (g9 31 k8) g9)) (fun g11 => Q (-1) g11) Q f12 0 g)
set_option maxRecDepth 100000 in
theorem s_Texts_rainOn_l2_r {E : sx_E} {d : Nat} (hd : 1 ≤ d) {l1 : Int} {K20 : Int → zi_M → Prop} {K33 : zi_M → Prop} {Q : Int → zi_M → Prop} (hK20 : ∀ (k2 : Int) (g : zi_M), K20 k2 g → zi_W E d 34 20 [some (.ref 19), some (zi_i l1), some (zi_i k2)] [] g (zi_Q Q)) (hK33 : ∀ (g : zi_M), K33 g → zi_W E d 34 33 [some (.ref 19), some (zi_i l1), none] [] g (zi_Q Q)) : ∀ (f : Nat) {l2 : Int} {g : zi_M}, w_Texts_rainOn_l2 l1 K20 K33 Q f l2 g → zi_W E d 34 2 [some (.ref 19), some (zi_i l1), some (zi_i l2)] [] g (zi_Q Q)
  | 0, _, _, h => False.elim h
  | f + 1, l2, g, h => by
    refine zi_iload_n (pc' := 3) rfl rfl rfl ?_
    refine zi_aload_n (pc' := 4) rfl rfl rfl ?_
    refine zi_geti (pc' := 7) 5 rfl rfl rfl rfl rfl rfl ?_
    obtain ⟨o1, o2, h⟩ := h
    refine zi_icmp_ge (x := 33) (pc' := 10) rfl rfl o1 o2 (fun c7 => ?_) (fun c7 => ?_)
    · replace h := h.1 c7
      exact zi_wk (hK33 _ h) (And.intro rfl (And.intro rfl trivial))
    · replace h := h.2 c7
      refine zi_aload_n (pc' := 11) rfl rfl rfl ?_
      refine zi_getr (pc' := 14) rfl rfl rfl rfl rfl ?_
      refine zi_iload_n (pc' := 15) rfl rfl rfl ?_
      obtain ⟨o3, h⟩ := h
      refine zi_iald (pc' := 16) rfl rfl rfl o3 ?_
      refine zi_iload_n (pc' := 17) rfl rfl rfl ?_
      obtain ⟨o4, o5, h⟩ := h
      refine zi_icmp_ne (x := 27) (pc' := 20) rfl rfl o4 o5 (fun c6 => ?_) (fun c6 => ?_)
      · replace h := h.1 c6
        refine zi_iinc (pc' := 30) [some _, some _, some _] rfl rfl rfl rfl ?_
        refine zi_goto (x := 2) rfl ?_
        exact zi_wk (s_Texts_rainOn_l2_r hd hK20 hK33 f h) (And.intro rfl (And.intro rfl (And.intro rfl trivial)))
      · replace h := h.2 c6
        exact zi_wk (hK20 _ _ h) (And.intro rfl (And.intro rfl (And.intro rfl trivial)))
set_option maxRecDepth 100000 in
theorem s_Texts_rainOn_l2 {E : sx_E} {d : Nat} (hd : 1 ≤ d) {l1 : Int} {K20 : Int → zi_M → Prop} {K33 : zi_M → Prop} {Q : Int → zi_M → Prop} {l2 : Int} {g : zi_M} (h : ∃ f, w_Texts_rainOn_l2 l1 K20 K33 Q f l2 g) (hK20 : ∀ (k2 : Int) (g : zi_M), K20 k2 g → zi_W E d 34 20 [some (.ref 19), some (zi_i l1), some (zi_i k2)] [] g (zi_Q Q)) (hK33 : ∀ (g : zi_M), K33 g → zi_W E d 34 33 [some (.ref 19), some (zi_i l1), none] [] g (zi_Q Q)) : zi_W E d 34 2 [some (.ref 19), some (zi_i l1), some (zi_i l2)] [] g (zi_Q Q) := by
  obtain ⟨f, h⟩ := h
  exact s_Texts_rainOn_l2_r hd hK20 hK33 f h
set_option maxRecDepth 100000 in
theorem s_Texts_rainOn {E : sx_E} {d : Nat} (hd : 1 ≤ d) {l1 : Int} {g : zi_M} {Q : Int → zi_M → Prop} (h : w_Texts_rainOn l1 g Q) : zi_S E d 34 [.ref 19, zi_i l1] g (zi_Q Q) := by
  refine zi_Sof jf_34 [some (.ref 19), some (zi_i l1), none] rfl (And.intro rfl (And.intro rfl trivial)) ?_
  unfold w_Texts_rainOn at h
  refine zi_iconst (pc' := 1) rfl rfl ?_
  refine zi_istore_n (pc' := 2) [some _, some _, some _] rfl rfl rfl ?_
  refine zi_wk (s_Texts_rainOn_l2 hd h (fun k8 g9 h => ?_) (fun g11 h => ?_)) (And.intro rfl (And.intro rfl (And.intro rfl trivial)))
  · refine zi_aload_n (pc' := 21) rfl rfl rfl ?_
    refine zi_getr (pc' := 24) rfl rfl rfl rfl rfl ?_
    refine zi_iload_n (pc' := 25) rfl rfl rfl ?_
    obtain ⟨o10, h⟩ := h
    refine zi_iald (pc' := 26) rfl rfl rfl o10 ?_
    exact zi_iret rfl rfl h
  · refine zi_iconst (pc' := 34) rfl rfl ?_
    exact zi_iret rfl rfl h
-- SpoutNews$World.speaks(I)Z
noncomputable def w_World_speaks (r0 : Nat) (l1 : Int) (g : zi_M) (Q : Int → zi_M → Prop) : Prop := ((0 ≤ l1 ∧ l1 < 10) ∧ (zi_r (g (r0 + 4) l1) ∧ (((g (r0 + 4) l1) = 0 → Q 1 g) ∧ (¬ (g (r0 + 4) l1) = 0 → ((¬ (g (r0 + 4) l1) = 1 → Q 0 g) ∧ ((g (r0 + 4) l1) = 1 → (zi_r (g r0 14) ∧ (((g r0 14) < 5 → Q 0 g) ∧ (5 ≤ (g r0 14) → Q 1 g)))))))))
set_option maxRecDepth 100000 in
theorem s_World_speaks {E : sx_E} {d : Nat} (hd : 1 ≤ d) {r0 : Nat} (hr0 : zs_sh r0 = some (10, 20)) {l1 : Int} {g : zi_M} {Q : Int → zi_M → Prop} (h : w_World_speaks r0 l1 g Q) : zi_S E d 47 [.ref r0, zi_i l1] g (zi_Qb Q) := by
  refine zi_Sof jf_47 [some (.ref r0), some (zi_i l1)] rfl (And.intro rfl (And.intro rfl trivial)) ?_
  unfold w_World_speaks at h
  refine zi_aload_n (pc' := 1) rfl rfl rfl ?_
  refine zi_getr (pc' := 4) rfl rfl hr0 (zs_f10_4 hr0).1 rfl ?_
  refine zi_iload_n (pc' := 5) rfl rfl rfl ?_
  obtain ⟨o1, h⟩ := h
  refine zi_iald (pc' := 6) rfl rfl (zs_f10_4 hr0).2 o1 ?_
  obtain ⟨o2, h⟩ := h
  refine zi_if_eq (x := 27) (pc' := 9) rfl rfl o2  (fun c6 => ?_) (fun c6 => ?_)
  · replace h := h.1 c6
    refine zi_iconst (pc' := 28) rfl rfl ?_
    refine zi_goto (x := 32) rfl ?_
    exact zi_zret rfl rfl (Or.inr rfl) h
  · replace h := h.2 c6
    refine zi_aload_n (pc' := 10) rfl rfl rfl ?_
    refine zi_getr (pc' := 13) rfl rfl hr0 (zs_f10_4 hr0).1 rfl ?_
    refine zi_iload_n (pc' := 14) rfl rfl rfl ?_
    refine zi_iald (pc' := 15) rfl rfl (zs_f10_4 hr0).2 o1 ?_
    refine zi_iconst (pc' := 16) rfl rfl ?_
    refine zi_icmp_ne (x := 31) (pc' := 19) rfl rfl o2 (by decide) (fun c5 => ?_) (fun c5 => ?_)
    · replace h := h.1 c5
      refine zi_iconst (pc' := 32) rfl rfl ?_
      exact zi_zret rfl rfl (Or.inl rfl) h
    · replace h := h.2 c5
      refine zi_aload_n (pc' := 20) rfl rfl rfl ?_
      refine zi_geti (pc' := 23) 14 rfl rfl rfl hr0 rfl rfl ?_
      refine zi_iconst (pc' := 24) rfl rfl ?_
      obtain ⟨o3, h⟩ := h
      refine zi_icmp_lt (x := 31) (pc' := 27) rfl rfl o3 (by decide) (fun c4 => ?_) (fun c4 => ?_)
      · replace h := h.1 c4
        refine zi_iconst (pc' := 32) rfl rfl ?_
        exact zi_zret rfl rfl (Or.inl rfl) h
      · replace h := h.2 c4
        refine zi_iconst (pc' := 28) rfl rfl ?_
        refine zi_goto (x := 32) rfl ?_
        exact zi_zret rfl rfl (Or.inr rfl) h
-- SpoutNews$Law.gatherFacts(LSpoutNews$World;II)V
noncomputable def w_Law_gatherFacts (r1 : Nat) (l2 : Int) (l3 : Int) (g : zi_M) (Q : Int → zi_M → Prop) : Prop := ((0 ≤ l2 ∧ l2 < 10) ∧ (∀ g2, g2 = zi_u g 28 0 (g (r1 + 1) l2) → (∀ g3, g3 = zi_u g2 28 1 (g2 (r1 + 2) l2) → (∀ g4, g4 = zi_u g3 28 2 (g3 (r1 + 3) l2) → (∀ g5, g5 = zi_u g4 28 3 (g4 (r1 + 4) l2) → (∀ g6, g6 = zi_u g5 28 4 (g5 r1 14) → (∀ g7, g7 = zi_u g6 28 5 (g6 (r1 + 6) l2) → (∀ g8, g8 = zi_u g7 28 6 (g7 (r1 + 5) l2) → (∀ g9, g9 = zi_u g8 28 7 l3 → (∀ g10, g10 = zi_u g9 28 8 (g9 r1 17) → Q 0 g10))))))))))
set_option maxRecDepth 100000 in
theorem s_Law_gatherFacts {E : sx_E} {d : Nat} (hd : 1 ≤ d) {r1 : Nat} (hr1 : zs_sh r1 = some (10, 20)) {l2 : Int} {l3 : Int} {g : zi_M} {Q : Int → zi_M → Prop} (h : w_Law_gatherFacts r1 l2 l3 g Q) : zi_S E d 38 [.ref 20, .ref r1, zi_i l2, zi_i l3] g (zi_Qv Q) := by
  refine zi_Sof jf_38 [some (.ref 20), some (.ref r1), some (zi_i l2), some (zi_i l3)] rfl (And.intro rfl (And.intro rfl (And.intro rfl (And.intro rfl trivial)))) ?_
  unfold w_Law_gatherFacts at h
  refine zi_aload_n (pc' := 1) rfl rfl rfl ?_
  refine zi_getr (pc' := 4) rfl rfl rfl rfl rfl ?_
  refine zi_iconst (pc' := 5) rfl rfl ?_
  refine zi_aload_n (pc' := 6) rfl rfl rfl ?_
  refine zi_getr (pc' := 9) rfl rfl hr1 (zs_f10_1 hr1).1 rfl ?_
  refine zi_iload_n (pc' := 10) rfl rfl rfl ?_
  obtain ⟨o1, h⟩ := h
  refine zi_iald (pc' := 11) rfl rfl (zs_f10_1 hr1).2 o1 ?_
  refine zi_iast (pc' := 12) rfl rfl rfl (by decide) ?_
  replace h := h _ rfl
  refine zi_aload_n (pc' := 13) rfl rfl rfl ?_
  refine zi_getr (pc' := 16) rfl rfl rfl rfl rfl ?_
  refine zi_iconst (pc' := 17) rfl rfl ?_
  refine zi_aload_n (pc' := 18) rfl rfl rfl ?_
  refine zi_getr (pc' := 21) rfl rfl hr1 (zs_f10_2 hr1).1 rfl ?_
  refine zi_iload_n (pc' := 22) rfl rfl rfl ?_
  refine zi_iald (pc' := 23) rfl rfl (zs_f10_2 hr1).2 o1 ?_
  refine zi_iast (pc' := 24) rfl rfl rfl (by decide) ?_
  replace h := h _ rfl
  refine zi_aload_n (pc' := 25) rfl rfl rfl ?_
  refine zi_getr (pc' := 28) rfl rfl rfl rfl rfl ?_
  refine zi_iconst (pc' := 29) rfl rfl ?_
  refine zi_aload_n (pc' := 30) rfl rfl rfl ?_
  refine zi_getr (pc' := 33) rfl rfl hr1 (zs_f10_3 hr1).1 rfl ?_
  refine zi_iload_n (pc' := 34) rfl rfl rfl ?_
  refine zi_iald (pc' := 35) rfl rfl (zs_f10_3 hr1).2 o1 ?_
  refine zi_iast (pc' := 36) rfl rfl rfl (by decide) ?_
  replace h := h _ rfl
  refine zi_aload_n (pc' := 37) rfl rfl rfl ?_
  refine zi_getr (pc' := 40) rfl rfl rfl rfl rfl ?_
  refine zi_iconst (pc' := 41) rfl rfl ?_
  refine zi_aload_n (pc' := 42) rfl rfl rfl ?_
  refine zi_getr (pc' := 45) rfl rfl hr1 (zs_f10_4 hr1).1 rfl ?_
  refine zi_iload_n (pc' := 46) rfl rfl rfl ?_
  refine zi_iald (pc' := 47) rfl rfl (zs_f10_4 hr1).2 o1 ?_
  refine zi_iast (pc' := 48) rfl rfl rfl (by decide) ?_
  replace h := h _ rfl
  refine zi_aload_n (pc' := 49) rfl rfl rfl ?_
  refine zi_getr (pc' := 52) rfl rfl rfl rfl rfl ?_
  refine zi_iconst (pc' := 53) rfl rfl ?_
  refine zi_aload_n (pc' := 54) rfl rfl rfl ?_
  refine zi_geti (pc' := 57) 14 rfl rfl rfl hr1 rfl rfl ?_
  refine zi_iast (pc' := 58) rfl rfl rfl (by decide) ?_
  replace h := h _ rfl
  refine zi_aload_n (pc' := 59) rfl rfl rfl ?_
  refine zi_getr (pc' := 62) rfl rfl rfl rfl rfl ?_
  refine zi_iconst (pc' := 63) rfl rfl ?_
  refine zi_aload_n (pc' := 64) rfl rfl rfl ?_
  refine zi_getr (pc' := 67) rfl rfl hr1 (zs_f10_6 hr1).1 rfl ?_
  refine zi_iload_n (pc' := 68) rfl rfl rfl ?_
  refine zi_iald (pc' := 69) rfl rfl (zs_f10_6 hr1).2 o1 ?_
  refine zi_iast (pc' := 70) rfl rfl rfl (by decide) ?_
  replace h := h _ rfl
  refine zi_aload_n (pc' := 71) rfl rfl rfl ?_
  refine zi_getr (pc' := 74) rfl rfl rfl rfl rfl ?_
  refine zi_bipush (pc' := 76) rfl rfl (by decide) ?_
  refine zi_aload_n (pc' := 77) rfl rfl rfl ?_
  refine zi_getr (pc' := 80) rfl rfl hr1 (zs_f10_5 hr1).1 rfl ?_
  refine zi_iload_n (pc' := 81) rfl rfl rfl ?_
  refine zi_iald (pc' := 82) rfl rfl (zs_f10_5 hr1).2 o1 ?_
  refine zi_iast (pc' := 83) rfl rfl rfl (by decide) ?_
  replace h := h _ rfl
  refine zi_aload_n (pc' := 84) rfl rfl rfl ?_
  refine zi_getr (pc' := 87) rfl rfl rfl rfl rfl ?_
  refine zi_bipush (pc' := 89) rfl rfl (by decide) ?_
  refine zi_iload_n (pc' := 90) rfl rfl rfl ?_
  refine zi_iast (pc' := 91) rfl rfl rfl (by decide) ?_
  replace h := h _ rfl
  refine zi_aload_n (pc' := 92) rfl rfl rfl ?_
  refine zi_getr (pc' := 95) rfl rfl rfl rfl rfl ?_
  refine zi_bipush (pc' := 97) rfl rfl (by decide) ?_
  refine zi_aload_n (pc' := 98) rfl rfl rfl ?_
  refine zi_geti (pc' := 101) 17 rfl rfl rfl hr1 rfl rfl ?_
  refine zi_iast (pc' := 102) rfl rfl rfl (by decide) ?_
  replace h := h _ rfl
  exact zi_vret rfl rfl h
-- SpoutNews$Law.joined(III)I
noncomputable def w_Law_joined (l0 : Int) (l1 : Int) (l2 : Int) (g : zi_M) (Q : Int → zi_M → Prop) : Prop := (zi_r l0 ∧ ((l0 < 2 ∨ 10 < l0 → Q (zi_or l1 l2) g) ∧ (l0 = 2 → Q (zi_w (l1 + l2)) g) ∧ (l0 = 3 → Q (zi_w (l1 - l2)) g) ∧ (l0 = 4 → Q (zi_w (l1 * l2)) g) ∧ (l0 = 5 → Q (zi_or l1 l2) g) ∧ (l0 = 6 → (zi_r l1 ∧ zi_r l2 ∧ ((l2 ≤ l1 → Q 0 g) ∧ (l1 < l2 → Q 1 g)))) ∧ (l0 = 7 → (zi_r l1 ∧ zi_r l2 ∧ ((¬ l1 = l2 → Q 0 g) ∧ (l1 = l2 → Q 1 g)))) ∧ (l0 = 8 → (zi_r l1 ∧ zi_r l2 ∧ ((l1 ≤ l2 → Q 0 g) ∧ (l2 < l1 → Q 1 g)))) ∧ (l0 = 9 → Q (zi_or l1 l2) g) ∧ (l0 = 10 → Q (zi_and l1 l2) g)))
set_option maxRecDepth 100000 in
theorem s_Law_joined {E : sx_E} {d : Nat} (hd : 1 ≤ d) {l0 : Int} {l1 : Int} {l2 : Int} {g : zi_M} {Q : Int → zi_M → Prop} (h : w_Law_joined l0 l1 l2 g Q) : zi_S E d 40 [zi_i l0, zi_i l1, zi_i l2] g (zi_Q Q) := by
  refine zi_Sof jf_40 [some (zi_i l0), some (zi_i l1), some (zi_i l2)] rfl (And.intro rfl (And.intro rfl (And.intro rfl trivial))) ?_
  unfold w_Law_joined at h
  refine zi_iload_n (pc' := 1) rfl rfl rfl ?_
  obtain ⟨o1, h⟩ := h
  refine zi_tsw [(2, 52), (3, 56), (4, 60), (5, 101), (6, 64), (7, 75), (8, 86), (9, 101), (10, 97)] 101 rfl rfl o1 (fun c2 => ?_) (And.intro (fun c2 => ?_) (And.intro (fun c2 => ?_) (And.intro (fun c2 => ?_) (And.intro (fun c2 => ?_) (And.intro (fun c2 => ?_) (And.intro (fun c2 => ?_) (And.intro (fun c2 => ?_) (And.intro (fun c2 => ?_) (And.intro (fun c2 => ?_) trivial)))))))))
  · replace h := h.1 c2
    refine zi_iload_n (pc' := 102) rfl rfl rfl ?_
    refine zi_iload_n (pc' := 103) rfl rfl rfl ?_
    refine zi_ior (pc' := 104) rfl rfl ?_
    exact zi_iret rfl rfl h
  · replace h := h.2.1 c2
    refine zi_iload_n (pc' := 53) rfl rfl rfl ?_
    refine zi_iload_n (pc' := 54) rfl rfl rfl ?_
    refine zi_iadd (pc' := 55) rfl rfl ?_
    refine zi_wrap ?_
    exact zi_iret rfl rfl h
  · replace h := h.2.2.1 c2
    refine zi_iload_n (pc' := 57) rfl rfl rfl ?_
    refine zi_iload_n (pc' := 58) rfl rfl rfl ?_
    refine zi_isub (pc' := 59) rfl rfl ?_
    refine zi_wrap ?_
    exact zi_iret rfl rfl h
  · replace h := h.2.2.2.1 c2
    refine zi_iload_n (pc' := 61) rfl rfl rfl ?_
    refine zi_iload_n (pc' := 62) rfl rfl rfl ?_
    refine zi_imul (pc' := 63) rfl rfl ?_
    refine zi_wrap ?_
    exact zi_iret rfl rfl h
  · replace h := h.2.2.2.2.1 c2
    refine zi_iload_n (pc' := 102) rfl rfl rfl ?_
    refine zi_iload_n (pc' := 103) rfl rfl rfl ?_
    refine zi_ior (pc' := 104) rfl rfl ?_
    exact zi_iret rfl rfl h
  · replace h := h.2.2.2.2.2.1 c2
    refine zi_iload_n (pc' := 65) rfl rfl rfl ?_
    refine zi_iload_n (pc' := 66) rfl rfl rfl ?_
    obtain ⟨o3, o4, h⟩ := h
    refine zi_icmp_ge (x := 73) (pc' := 69) rfl rfl o3 o4 (fun c5 => ?_) (fun c5 => ?_)
    · replace h := h.1 c5
      refine zi_iconst (pc' := 74) rfl rfl ?_
      exact zi_iret rfl rfl h
    · replace h := h.2 c5
      refine zi_iconst (pc' := 70) rfl rfl ?_
      refine zi_goto (x := 74) rfl ?_
      exact zi_iret rfl rfl h
  · replace h := h.2.2.2.2.2.2.1 c2
    refine zi_iload_n (pc' := 76) rfl rfl rfl ?_
    refine zi_iload_n (pc' := 77) rfl rfl rfl ?_
    obtain ⟨o6, o7, h⟩ := h
    refine zi_icmp_ne (x := 84) (pc' := 80) rfl rfl o6 o7 (fun c8 => ?_) (fun c8 => ?_)
    · replace h := h.1 c8
      refine zi_iconst (pc' := 85) rfl rfl ?_
      exact zi_iret rfl rfl h
    · replace h := h.2 c8
      refine zi_iconst (pc' := 81) rfl rfl ?_
      refine zi_goto (x := 85) rfl ?_
      exact zi_iret rfl rfl h
  · replace h := h.2.2.2.2.2.2.2.1 c2
    refine zi_iload_n (pc' := 87) rfl rfl rfl ?_
    refine zi_iload_n (pc' := 88) rfl rfl rfl ?_
    obtain ⟨o9, o10, h⟩ := h
    refine zi_icmp_le (x := 95) (pc' := 91) rfl rfl o9 o10 (fun c11 => ?_) (fun c11 => ?_)
    · replace h := h.1 c11
      refine zi_iconst (pc' := 96) rfl rfl ?_
      exact zi_iret rfl rfl h
    · replace h := h.2 c11
      refine zi_iconst (pc' := 92) rfl rfl ?_
      refine zi_goto (x := 96) rfl ?_
      exact zi_iret rfl rfl h
  · replace h := h.2.2.2.2.2.2.2.2.1 c2
    refine zi_iload_n (pc' := 102) rfl rfl rfl ?_
    refine zi_iload_n (pc' := 103) rfl rfl rfl ?_
    refine zi_ior (pc' := 104) rfl rfl ?_
    exact zi_iret rfl rfl h
  · replace h := h.2.2.2.2.2.2.2.2.2 c2
    refine zi_iload_n (pc' := 98) rfl rfl rfl ?_
    refine zi_iload_n (pc' := 99) rfl rfl rfl ?_
    refine zi_iand (pc' := 100) rfl rfl ?_
    exact zi_iret rfl rfl h
-- SpoutNews$Law.worth(II)I
noncomputable def w_Law_worth_l5 (l2 : Int) (K202 : Int → zi_M → Prop) (Q : Int → zi_M → Prop) : Nat → Int → Int → zi_M → Prop
  | 0, _, _, _ => False
  | f + 1, l3, l4, g => (zi_r l4 ∧ zi_r l2 ∧ ((l2 ≤ l4 → K202 l3 g) ∧ (l4 < l2 → ((0 ≤ l4 ∧ l4 < 400) ∧ (zi_r (g 21 l4) ∧ ((1 < (g 21 l4) → ((¬ (g 21 l4) = 5 → ((¬ (g 21 l4) = 9 → (zi_r l3 ∧ ((l3 ≤ 1 → w_Law_worth_l5 l2 K202 Q f l3 (l4 + 1) g) ∧ (1 < l3 → ((0 ≤ ((l3 + (-1)) - 1) ∧ ((l3 + (-1)) - 1) < 40) ∧ ((0 ≤ (l3 + (-1)) ∧ (l3 + (-1)) < 40) ∧ w_Law_joined (g 21 l4) (g 27 ((l3 + (-1)) - 1)) (g 27 (l3 + (-1))) g (fun v8 g9 => (∀ g11, g11 = zi_u g9 27 ((l3 + (-1)) - 1) v8 → w_Law_worth_l5 l2 K202 Q f (l3 + (-1)) (l4 + 1) g11)))))))) ∧ ((g 21 l4) = 9 → (zi_r l3 ∧ ((l3 ≤ 0 → w_Law_worth_l5 l2 K202 Q f l3 (l4 + 1) g) ∧ (0 < l3 → ((0 ≤ (l3 - 1) ∧ (l3 - 1) < 40) ∧ (∀ g15, g15 = zi_u g 27 (l3 - 1) (zi_w (1 - (g 27 (l3 - 1)))) → w_Law_worth_l5 l2 K202 Q f l3 (l4 + 1) g15)))))))) ∧ ((g 21 l4) = 5 → (zi_r l3 ∧ ((l3 ≤ 0 → w_Law_worth_l5 l2 K202 Q f l3 (l4 + 1) g) ∧ (0 < l3 → (zi_r (g 22 l4) ∧ (((g 22 l4) = 0 → w_Law_worth_l5 l2 K202 Q f l3 (l4 + 1) g) ∧ (¬ (g 22 l4) = 0 → ((0 ≤ (l3 - 1) ∧ (l3 - 1) < 40) ∧ (zi_r (g 27 (l3 - 1)) ∧ (g 22 l4) ≠ 0 ∧ (∀ g23, g23 = zi_u g 27 (l3 - 1) (Int.tdiv (g 27 (l3 - 1)) (g 22 l4)) → w_Law_worth_l5 l2 K202 Q f l3 (l4 + 1) g23)))))))))))) ∧ ((g 21 l4) ≤ 1 → (zi_r l3 ∧ ((40 ≤ l3 → w_Law_worth_l5 l2 K202 Q f l3 (l4 + 1) g) ∧ (l3 < 40 → (((g 21 l4) = 0 → ((0 ≤ l3 ∧ l3 < 40) ∧ (∀ g29, g29 = zi_u g 27 l3 (g 22 l4) → w_Law_worth_l5 l2 K202 Q f (l3 + 1) (l4 + 1) g29))) ∧ (¬ (g 21 l4) = 0 → (zi_r (g 22 l4) ∧ (((g 22 l4) < 0 → ((0 ≤ l3 ∧ l3 < 40) ∧ (∀ g32, g32 = zi_u g 27 l3 (g 22 l4) → w_Law_worth_l5 l2 K202 Q f (l3 + 1) (l4 + 1) g32))) ∧ (0 ≤ (g 22 l4) → (((g 22 l4) < 9 → ((0 ≤ (g 22 l4) ∧ (g 22 l4) < 9) ∧ ((0 ≤ l3 ∧ l3 < 40) ∧ (∀ g35, g35 = zi_u g 27 l3 (g 28 (g 22 l4)) → w_Law_worth_l5 l2 K202 Q f (l3 + 1) (l4 + 1) g35)))) ∧ (9 ≤ (g 22 l4) → ((0 ≤ l3 ∧ l3 < 40) ∧ (∀ g37, g37 = zi_u g 27 l3 (g 22 l4) → w_Law_worth_l5 l2 K202 Q f (l3 + 1) (l4 + 1) g37)))))))))))))))))))
noncomputable def w_Law_worth (l1 : Int) (l2 : Int) (g : zi_M) (Q : Int → zi_M → Prop) : Prop := (∃ f48, w_Law_worth_l5 l2 (fun k44 g45 => (zi_r k44 ∧ ((k44 ≤ 0 → Q 0 g45) ∧ (0 < k44 → Q (g45 27 0) g45)))) Q f48 0 l1 g)
set_option maxRecDepth 100000 in
theorem s_Law_worth_l5_r {E : sx_E} {d : Nat} (hd : 2 ≤ d) {l2 : Int} {K202 : Int → zi_M → Prop} {Q : Int → zi_M → Prop} (hK202 : ∀ (k3 : Int) (g : zi_M), K202 k3 g → zi_W E d 39 202 [some (.ref 20), none, some (zi_i l2), some (zi_i k3), none, none] [] g (zi_Q Q)) : ∀ (f : Nat) {l3 : Int} {l4 : Int} {g : zi_M}, w_Law_worth_l5 l2 K202 Q f l3 l4 g → zi_W E d 39 5 [some (.ref 20), none, some (zi_i l2), some (zi_i l3), some (zi_i l4), none] [] g (zi_Q Q)
  | 0, _, _, _, h => False.elim h
  | f + 1, l3, l4, g, h => by
    refine zi_iload (pc' := 7) rfl rfl rfl ?_
    refine zi_iload_n (pc' := 8) rfl rfl rfl ?_
    obtain ⟨o1, o2, h⟩ := h
    refine zi_icmp_ge (x := 202) (pc' := 11) rfl rfl o1 o2 (fun c43 => ?_) (fun c43 => ?_)
    · replace h := h.1 c43
      exact zi_wk (hK202 _ _ h) (And.intro rfl (And.intro rfl (And.intro rfl trivial)))
    · replace h := h.2 c43
      refine zi_aload_n (pc' := 12) rfl rfl rfl ?_
      refine zi_getr (pc' := 15) rfl rfl rfl rfl rfl ?_
      refine zi_iload (pc' := 17) rfl rfl rfl ?_
      obtain ⟨o3, h⟩ := h
      refine zi_iald (pc' := 18) rfl rfl rfl o3 ?_
      refine zi_istore (pc' := 20) [some _, none, some _, some _, some _, some _] rfl rfl rfl ?_
      refine zi_aload_n (pc' := 21) rfl rfl rfl ?_
      refine zi_getr (pc' := 24) rfl rfl rfl rfl rfl ?_
      refine zi_iload (pc' := 26) rfl rfl rfl ?_
      refine zi_iald (pc' := 27) rfl rfl rfl o3 ?_
      refine zi_iconst (pc' := 28) rfl rfl ?_
      obtain ⟨o4, h⟩ := h
      refine zi_icmp_gt (x := 83) (pc' := 31) rfl rfl o4 (by decide) (fun c42 => ?_) (fun c42 => ?_)
      · replace h := h.1 c42
        refine zi_aload_n (pc' := 84) rfl rfl rfl ?_
        refine zi_getr (pc' := 87) rfl rfl rfl rfl rfl ?_
        refine zi_iload (pc' := 89) rfl rfl rfl ?_
        refine zi_iald (pc' := 90) rfl rfl rfl o3 ?_
        refine zi_iconst (pc' := 91) rfl rfl ?_
        refine zi_icmp_ne (x := 119) (pc' := 94) rfl rfl o4 (by decide) (fun c26 => ?_) (fun c26 => ?_)
        · replace h := h.1 c26
          refine zi_aload_n (pc' := 120) rfl rfl rfl ?_
          refine zi_getr (pc' := 123) rfl rfl rfl rfl rfl ?_
          refine zi_iload (pc' := 125) rfl rfl rfl ?_
          refine zi_iald (pc' := 126) rfl rfl rfl o3 ?_
          refine zi_bipush (pc' := 128) rfl rfl (by decide) ?_
          refine zi_icmp_ne (x := 156) (pc' := 131) rfl rfl o4 (by decide) (fun c17 => ?_) (fun c17 => ?_)
          · replace h := h.1 c17
            refine zi_iload_n (pc' := 157) rfl rfl rfl ?_
            refine zi_iconst (pc' := 158) rfl rfl ?_
            obtain ⟨o5, h⟩ := h
            refine zi_icmp_le (x := 196) (pc' := 161) rfl rfl o5 (by decide) (fun c12 => ?_) (fun c12 => ?_)
            · replace h := h.1 c12
              refine zi_iinc (pc' := 199) [some _, none, some _, some _, some _, some _] rfl rfl rfl rfl ?_
              refine zi_goto (x := 5) rfl ?_
              exact zi_wk (s_Law_worth_l5_r hd hK202 f h) (And.intro rfl (And.intro rfl (And.intro rfl (And.intro rfl trivial))))
            · replace h := h.2 c12
              refine zi_iinc (pc' := 164) [some _, none, some _, some _, some _, some _] rfl rfl rfl rfl ?_
              refine zi_aload_n (pc' := 165) rfl rfl rfl ?_
              refine zi_getr (pc' := 168) rfl rfl rfl rfl rfl ?_
              refine zi_iload_n (pc' := 169) rfl rfl rfl ?_
              refine zi_iconst (pc' := 170) rfl rfl ?_
              refine zi_isub (pc' := 171) rfl rfl ?_
              refine zi_aload_n (pc' := 172) rfl rfl rfl ?_
              refine zi_getr (pc' := 175) rfl rfl rfl rfl rfl ?_
              refine zi_iload (pc' := 177) rfl rfl rfl ?_
              refine zi_iald (pc' := 178) rfl rfl rfl o3 ?_
              refine zi_aload_n (pc' := 179) rfl rfl rfl ?_
              refine zi_getr (pc' := 182) rfl rfl rfl rfl rfl ?_
              refine zi_iload_n (pc' := 183) rfl rfl rfl ?_
              refine zi_iconst (pc' := 184) rfl rfl ?_
              refine zi_isub (pc' := 185) rfl rfl ?_
              obtain ⟨o6, h⟩ := h
              refine zi_iald (pc' := 186) rfl rfl rfl o6 ?_
              refine zi_aload_n (pc' := 187) rfl rfl rfl ?_
              refine zi_getr (pc' := 190) rfl rfl rfl rfl rfl ?_
              refine zi_iload_n (pc' := 191) rfl rfl rfl ?_
              obtain ⟨o7, h⟩ := h
              refine zi_iald (pc' := 192) rfl rfl rfl o7 ?_
              refine zi_callS (d' := 1) (as := [_, _, _]) (pc' := 195) rfl rfl rfl (Nat.lt_of_lt_of_le (by decide) hd) (s_Law_joined (Nat.le_refl _) h) (zi_ki (fun v8 g9 h => ?_))
              refine zi_iast (pc' := 196) rfl rfl rfl o6 ?_
              replace h := h _ rfl
              refine zi_iinc (pc' := 199) [some _, none, some _, some _, some _, some _] rfl rfl rfl rfl ?_
              refine zi_goto (x := 5) rfl ?_
              exact zi_wk (s_Law_worth_l5_r hd hK202 f h) (And.intro rfl (And.intro rfl (And.intro rfl (And.intro rfl trivial))))
          · replace h := h.2 c17
            refine zi_iload_n (pc' := 132) rfl rfl rfl ?_
            obtain ⟨o13, h⟩ := h
            refine zi_if_le (x := 196) (pc' := 135) rfl rfl o13  (fun c16 => ?_) (fun c16 => ?_)
            · replace h := h.1 c16
              refine zi_iinc (pc' := 199) [some _, none, some _, some _, some _, some _] rfl rfl rfl rfl ?_
              refine zi_goto (x := 5) rfl ?_
              exact zi_wk (s_Law_worth_l5_r hd hK202 f h) (And.intro rfl (And.intro rfl (And.intro rfl (And.intro rfl trivial))))
            · replace h := h.2 c16
              refine zi_aload_n (pc' := 136) rfl rfl rfl ?_
              refine zi_getr (pc' := 139) rfl rfl rfl rfl rfl ?_
              refine zi_iload_n (pc' := 140) rfl rfl rfl ?_
              refine zi_iconst (pc' := 141) rfl rfl ?_
              refine zi_isub (pc' := 142) rfl rfl ?_
              refine zi_iconst (pc' := 143) rfl rfl ?_
              refine zi_aload_n (pc' := 144) rfl rfl rfl ?_
              refine zi_getr (pc' := 147) rfl rfl rfl rfl rfl ?_
              refine zi_iload_n (pc' := 148) rfl rfl rfl ?_
              refine zi_iconst (pc' := 149) rfl rfl ?_
              refine zi_isub (pc' := 150) rfl rfl ?_
              obtain ⟨o14, h⟩ := h
              refine zi_iald (pc' := 151) rfl rfl rfl o14 ?_
              refine zi_isub (pc' := 152) rfl rfl ?_
              refine zi_wrap ?_
              refine zi_iast (pc' := 153) rfl rfl rfl o14 ?_
              replace h := h _ rfl
              refine zi_goto (x := 196) rfl ?_
              refine zi_iinc (pc' := 199) [some _, none, some _, some _, some _, some _] rfl rfl rfl rfl ?_
              refine zi_goto (x := 5) rfl ?_
              exact zi_wk (s_Law_worth_l5_r hd hK202 f h) (And.intro rfl (And.intro rfl (And.intro rfl (And.intro rfl trivial))))
        · replace h := h.2 c26
          refine zi_iload_n (pc' := 95) rfl rfl rfl ?_
          obtain ⟨o18, h⟩ := h
          refine zi_if_le (x := 196) (pc' := 98) rfl rfl o18  (fun c25 => ?_) (fun c25 => ?_)
          · replace h := h.1 c25
            refine zi_iinc (pc' := 199) [some _, none, some _, some _, some _, some _] rfl rfl rfl rfl ?_
            refine zi_goto (x := 5) rfl ?_
            exact zi_wk (s_Law_worth_l5_r hd hK202 f h) (And.intro rfl (And.intro rfl (And.intro rfl (And.intro rfl trivial))))
          · replace h := h.2 c25
            refine zi_iload (pc' := 100) rfl rfl rfl ?_
            obtain ⟨o19, h⟩ := h
            refine zi_if_eq (x := 196) (pc' := 103) rfl rfl o19  (fun c24 => ?_) (fun c24 => ?_)
            · replace h := h.1 c24
              refine zi_iinc (pc' := 199) [some _, none, some _, some _, some _, some _] rfl rfl rfl rfl ?_
              refine zi_goto (x := 5) rfl ?_
              exact zi_wk (s_Law_worth_l5_r hd hK202 f h) (And.intro rfl (And.intro rfl (And.intro rfl (And.intro rfl trivial))))
            · replace h := h.2 c24
              refine zi_aload_n (pc' := 104) rfl rfl rfl ?_
              refine zi_getr (pc' := 107) rfl rfl rfl rfl rfl ?_
              refine zi_iload_n (pc' := 108) rfl rfl rfl ?_
              refine zi_iconst (pc' := 109) rfl rfl ?_
              refine zi_isub (pc' := 110) rfl rfl ?_
              refine zi_dup2 (pc' := 111) rfl rfl rfl rfl ?_
              obtain ⟨o20, h⟩ := h
              refine zi_iald (pc' := 112) rfl rfl rfl o20 ?_
              refine zi_iload (pc' := 114) rfl rfl rfl ?_
              obtain ⟨o21, o22, h⟩ := h
              refine zi_idiv (pc' := 115) rfl rfl o21 o19 o22 ?_
              refine zi_iast (pc' := 116) rfl rfl rfl o20 ?_
              replace h := h _ rfl
              refine zi_goto (x := 196) rfl ?_
              refine zi_iinc (pc' := 199) [some _, none, some _, some _, some _, some _] rfl rfl rfl rfl ?_
              refine zi_goto (x := 5) rfl ?_
              exact zi_wk (s_Law_worth_l5_r hd hK202 f h) (And.intro rfl (And.intro rfl (And.intro rfl (And.intro rfl trivial))))
      · replace h := h.2 c42
        refine zi_iload_n (pc' := 32) rfl rfl rfl ?_
        refine zi_bipush (pc' := 34) rfl rfl (by decide) ?_
        obtain ⟨o27, h⟩ := h
        refine zi_icmp_ge (x := 196) (pc' := 37) rfl rfl o27 (by decide) (fun c41 => ?_) (fun c41 => ?_)
        · replace h := h.1 c41
          refine zi_iinc (pc' := 199) [some _, none, some _, some _, some _, some _] rfl rfl rfl rfl ?_
          refine zi_goto (x := 5) rfl ?_
          exact zi_wk (s_Law_worth_l5_r hd hK202 f h) (And.intro rfl (And.intro rfl (And.intro rfl (And.intro rfl trivial))))
        · replace h := h.2 c41
          refine zi_aload_n (pc' := 38) rfl rfl rfl ?_
          refine zi_getr (pc' := 41) rfl rfl rfl rfl rfl ?_
          refine zi_iload_n (pc' := 42) rfl rfl rfl ?_
          refine zi_aload_n (pc' := 43) rfl rfl rfl ?_
          refine zi_getr (pc' := 46) rfl rfl rfl rfl rfl ?_
          refine zi_iload (pc' := 48) rfl rfl rfl ?_
          refine zi_iald (pc' := 49) rfl rfl rfl o3 ?_
          refine zi_if_eq (x := 64) (pc' := 52) rfl rfl o4  (fun c40 => ?_) (fun c40 => ?_)
          · replace h := h.1 c40
            refine zi_iload (pc' := 66) rfl rfl rfl ?_
            refine zi_goto (x := 76) rfl ?_
            obtain ⟨o28, h⟩ := h
            refine zi_iast (pc' := 77) rfl rfl rfl o28 ?_
            replace h := h _ rfl
            refine zi_iinc (pc' := 80) [some _, none, some _, some _, some _, some _] rfl rfl rfl rfl ?_
            refine zi_goto (x := 196) rfl ?_
            refine zi_iinc (pc' := 199) [some _, none, some _, some _, some _, some _] rfl rfl rfl rfl ?_
            refine zi_goto (x := 5) rfl ?_
            exact zi_wk (s_Law_worth_l5_r hd hK202 f h) (And.intro rfl (And.intro rfl (And.intro rfl (And.intro rfl trivial))))
          · replace h := h.2 c40
            refine zi_iload (pc' := 54) rfl rfl rfl ?_
            obtain ⟨o30, h⟩ := h
            refine zi_if_lt (x := 64) (pc' := 57) rfl rfl o30  (fun c39 => ?_) (fun c39 => ?_)
            · replace h := h.1 c39
              refine zi_iload (pc' := 66) rfl rfl rfl ?_
              refine zi_goto (x := 76) rfl ?_
              obtain ⟨o31, h⟩ := h
              refine zi_iast (pc' := 77) rfl rfl rfl o31 ?_
              replace h := h _ rfl
              refine zi_iinc (pc' := 80) [some _, none, some _, some _, some _, some _] rfl rfl rfl rfl ?_
              refine zi_goto (x := 196) rfl ?_
              refine zi_iinc (pc' := 199) [some _, none, some _, some _, some _, some _] rfl rfl rfl rfl ?_
              refine zi_goto (x := 5) rfl ?_
              exact zi_wk (s_Law_worth_l5_r hd hK202 f h) (And.intro rfl (And.intro rfl (And.intro rfl (And.intro rfl trivial))))
            · replace h := h.2 c39
              refine zi_iload (pc' := 59) rfl rfl rfl ?_
              refine zi_bipush (pc' := 61) rfl rfl (by decide) ?_
              refine zi_icmp_lt (x := 69) (pc' := 64) rfl rfl o30 (by decide) (fun c38 => ?_) (fun c38 => ?_)
              · replace h := h.1 c38
                refine zi_aload_n (pc' := 70) rfl rfl rfl ?_
                refine zi_getr (pc' := 73) rfl rfl rfl rfl rfl ?_
                refine zi_iload (pc' := 75) rfl rfl rfl ?_
                obtain ⟨o33, h⟩ := h
                refine zi_iald (pc' := 76) rfl rfl rfl o33 ?_
                obtain ⟨o34, h⟩ := h
                refine zi_iast (pc' := 77) rfl rfl rfl o34 ?_
                replace h := h _ rfl
                refine zi_iinc (pc' := 80) [some _, none, some _, some _, some _, some _] rfl rfl rfl rfl ?_
                refine zi_goto (x := 196) rfl ?_
                refine zi_iinc (pc' := 199) [some _, none, some _, some _, some _, some _] rfl rfl rfl rfl ?_
                refine zi_goto (x := 5) rfl ?_
                exact zi_wk (s_Law_worth_l5_r hd hK202 f h) (And.intro rfl (And.intro rfl (And.intro rfl (And.intro rfl trivial))))
              · replace h := h.2 c38
                refine zi_iload (pc' := 66) rfl rfl rfl ?_
                refine zi_goto (x := 76) rfl ?_
                obtain ⟨o36, h⟩ := h
                refine zi_iast (pc' := 77) rfl rfl rfl o36 ?_
                replace h := h _ rfl
                refine zi_iinc (pc' := 80) [some _, none, some _, some _, some _, some _] rfl rfl rfl rfl ?_
                refine zi_goto (x := 196) rfl ?_
                refine zi_iinc (pc' := 199) [some _, none, some _, some _, some _, some _] rfl rfl rfl rfl ?_
                refine zi_goto (x := 5) rfl ?_
                exact zi_wk (s_Law_worth_l5_r hd hK202 f h) (And.intro rfl (And.intro rfl (And.intro rfl (And.intro rfl trivial))))
set_option maxRecDepth 100000 in
theorem s_Law_worth_l5 {E : sx_E} {d : Nat} (hd : 2 ≤ d) {l2 : Int} {K202 : Int → zi_M → Prop} {Q : Int → zi_M → Prop} {l3 : Int} {l4 : Int} {g : zi_M} (h : ∃ f, w_Law_worth_l5 l2 K202 Q f l3 l4 g) (hK202 : ∀ (k3 : Int) (g : zi_M), K202 k3 g → zi_W E d 39 202 [some (.ref 20), none, some (zi_i l2), some (zi_i k3), none, none] [] g (zi_Q Q)) : zi_W E d 39 5 [some (.ref 20), none, some (zi_i l2), some (zi_i l3), some (zi_i l4), none] [] g (zi_Q Q) := by
  obtain ⟨f, h⟩ := h
  exact s_Law_worth_l5_r hd hK202 f h
set_option maxRecDepth 100000 in
theorem s_Law_worth {E : sx_E} {d : Nat} (hd : 2 ≤ d) {l1 : Int} {l2 : Int} {g : zi_M} {Q : Int → zi_M → Prop} (h : w_Law_worth l1 l2 g Q) : zi_S E d 39 [.ref 20, zi_i l1, zi_i l2] g (zi_Q Q) := by
  refine zi_Sof jf_39 [some (.ref 20), some (zi_i l1), some (zi_i l2), none, none, none] rfl (And.intro rfl (And.intro rfl (And.intro rfl trivial))) ?_
  unfold w_Law_worth at h
  refine zi_iconst (pc' := 1) rfl rfl ?_
  refine zi_istore_n (pc' := 2) [some _, some _, some _, some _, none, none] rfl rfl rfl ?_
  refine zi_iload_n (pc' := 3) rfl rfl rfl ?_
  refine zi_istore (pc' := 5) [some _, some _, some _, some _, some _, none] rfl rfl rfl ?_
  refine zi_wk (s_Law_worth_l5 hd h (fun k44 g45 h => ?_)) (And.intro rfl (And.intro rfl (And.intro rfl (And.intro rfl trivial))))
  refine zi_iload_n (pc' := 203) rfl rfl rfl ?_
  obtain ⟨o46, h⟩ := h
  refine zi_if_le (x := 215) (pc' := 206) rfl rfl o46  (fun c47 => ?_) (fun c47 => ?_)
  · replace h := h.1 c47
    refine zi_iconst (pc' := 216) rfl rfl ?_
    exact zi_iret rfl rfl h
  · replace h := h.2 c47
    refine zi_aload_n (pc' := 207) rfl rfl rfl ?_
    refine zi_getr (pc' := 210) rfl rfl rfl rfl rfl ?_
    refine zi_iconst (pc' := 211) rfl rfl ?_
    refine zi_iald (pc' := 212) rfl rfl rfl (by decide) ?_
    refine zi_goto (x := 216) rfl ?_
    exact zi_iret rfl rfl h
