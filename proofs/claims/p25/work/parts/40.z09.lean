-- by program (wip/gen/mkz.py)
-- SpoutNews$Thought.goodTake(LSpoutNews$World;I)I
noncomputable def w_Thought_goodTake_l14 (l1 : Int) (K48 : Int → zi_M → Prop) (Q : Int → zi_M → Prop) : Nat → Int → Int → zi_M → Prop
  | 0, _, _, _ => False
  | f + 1, l2, l3, g => (zi_r l3 ∧ zi_r (g 2 8) ∧ (((g 2 8) ≤ l3 → K48 l2 g) ∧ (l3 < (g 2 8) → (zi_r l1 ∧ ((¬ l3 = l1 → ((0 ≤ l3 ∧ l3 < 10) ∧ (zi_r (g 8 l3) ∧ w_Thought_goodTake_l14 l1 K48 Q f (zi_xor l2 (Int.tmod (g 8 l3) 3)) (l3 + 1) g))) ∧ (l3 = l1 → w_Thought_goodTake_l14 l1 K48 Q f (zi_xor l2 0) (l3 + 1) g))))))
noncomputable def w_Thought_goodTake_l50 (l1 : Int) (l2 : Int) (K79 : Int → zi_M → Prop) (K88 : zi_M → Prop) (Q : Int → zi_M → Prop) : Nat → Int → zi_M → Prop
  | 0, _, _ => False
  | f + 1, l3, g => (zi_r l3 ∧ ((4 < l3 → K88 g) ∧ (l3 ≤ 4 → ((0 ≤ l1 ∧ l1 < 10) ∧ (zi_r (g 8 l1) ∧ (((g 8 l1) < l3 → K88 g) ∧ (l3 ≤ (g 8 l1) → (zi_r ((g 8 l1) - l3) ∧ (zi_r (Int.tmod ((g 8 l1) - l3) 3) ∧ zi_r l2 ∧ ((¬ (Int.tmod ((g 8 l1) - l3) 3) = l2 → w_Thought_goodTake_l50 l1 l2 K79 K88 Q f (l3 * 2) g) ∧ ((Int.tmod ((g 8 l1) - l3) 3) = l2 → K79 l3 g)))))))))))
noncomputable def w_Thought_goodTake (l1 : Int) (g : zi_M) (Q : Int → zi_M → Prop) : Prop := w_World_isSpout 2 l1 g (fun v1 g2 => ((¬ v1 = 0 → (∃ f26, w_Thought_goodTake_l14 l1 (fun k11 g12 => (∃ f25, w_Thought_goodTake_l50 l1 k11 (fun k22 g23 => Q k22 g23) (fun g24 => Q (-1) g24) Q f25 1 g12)) Q f26 0 0 g2)) ∧ (v1 = 0 → Q (-1) g2)))
set_option maxRecDepth 100000 in
theorem s_Thought_goodTake_l14_r {E : sx_E} {d : Nat} (hd : 2 ≤ d) {l1 : Int} {K48 : Int → zi_M → Prop} {Q : Int → zi_M → Prop} (hK48 : ∀ (k2 : Int) (g : zi_M), K48 k2 g → zi_W E d 179 48 [some (.ref 2), some (zi_i l1), some (zi_i k2), none] [] g (zi_Q Q)) : ∀ (f : Nat) {l2 : Int} {l3 : Int} {g : zi_M}, w_Thought_goodTake_l14 l1 K48 Q f l2 l3 g → zi_W E d 179 14 [some (.ref 2), some (zi_i l1), some (zi_i l2), some (zi_i l3)] [] g (zi_Q Q)
  | 0, _, _, _, h => False.elim h
  | f + 1, l2, l3, g, h => by
    refine zi_iload_n (pc' := 15) rfl rfl rfl ?_
    refine zi_aload_n (pc' := 16) rfl rfl rfl ?_
    refine zi_geti (pc' := 19) 8 rfl rfl rfl rfl rfl rfl ?_
    obtain ⟨o4, o5, h⟩ := h
    refine zi_icmp_ge (x := 48) (pc' := 22) rfl rfl o4 o5 (fun c10 => ?_) (fun c10 => ?_)
    · replace h := h.1 c10
      exact zi_wk (hK48 _ _ h) (And.intro rfl (And.intro rfl (And.intro rfl trivial)))
    · replace h := h.2 c10
      refine zi_iload_n (pc' := 23) rfl rfl rfl ?_
      refine zi_iload_n (pc' := 24) rfl rfl rfl ?_
      refine zi_iload_n (pc' := 25) rfl rfl rfl ?_
      obtain ⟨o6, h⟩ := h
      refine zi_icmp_ne (x := 32) (pc' := 28) rfl rfl o4 o6 (fun c9 => ?_) (fun c9 => ?_)
      · replace h := h.1 c9
        refine zi_aload_n (pc' := 33) rfl rfl rfl ?_
        refine zi_getr (pc' := 36) rfl rfl rfl rfl rfl ?_
        refine zi_iload_n (pc' := 37) rfl rfl rfl ?_
        obtain ⟨o7, h⟩ := h
        refine zi_iald (pc' := 38) rfl rfl rfl o7 ?_
        refine zi_iconst (pc' := 39) rfl rfl ?_
        obtain ⟨o8, h⟩ := h
        refine zi_irem (pc' := 40) rfl rfl o8 (by decide) (by decide) ?_
        refine zi_ixor (pc' := 41) rfl rfl ?_
        refine zi_istore_n (pc' := 42) [some _, some _, some _, some _] rfl rfl rfl ?_
        refine zi_iinc (pc' := 45) [some _, some _, some _, some _] rfl rfl rfl rfl ?_
        refine zi_goto (x := 14) rfl ?_
        exact zi_wk (s_Thought_goodTake_l14_r hd hK48 f h) (And.intro rfl (And.intro rfl (And.intro rfl (And.intro rfl trivial))))
      · replace h := h.2 c9
        refine zi_iconst (pc' := 29) rfl rfl ?_
        refine zi_goto (x := 40) rfl ?_
        refine zi_ixor (pc' := 41) rfl rfl ?_
        refine zi_istore_n (pc' := 42) [some _, some _, some _, some _] rfl rfl rfl ?_
        refine zi_iinc (pc' := 45) [some _, some _, some _, some _] rfl rfl rfl rfl ?_
        refine zi_goto (x := 14) rfl ?_
        exact zi_wk (s_Thought_goodTake_l14_r hd hK48 f h) (And.intro rfl (And.intro rfl (And.intro rfl (And.intro rfl trivial))))
set_option maxRecDepth 100000 in
theorem s_Thought_goodTake_l14 {E : sx_E} {d : Nat} (hd : 2 ≤ d) {l1 : Int} {K48 : Int → zi_M → Prop} {Q : Int → zi_M → Prop} {l2 : Int} {l3 : Int} {g : zi_M} (h : ∃ f, w_Thought_goodTake_l14 l1 K48 Q f l2 l3 g) (hK48 : ∀ (k2 : Int) (g : zi_M), K48 k2 g → zi_W E d 179 48 [some (.ref 2), some (zi_i l1), some (zi_i k2), none] [] g (zi_Q Q)) : zi_W E d 179 14 [some (.ref 2), some (zi_i l1), some (zi_i l2), some (zi_i l3)] [] g (zi_Q Q) := by
  obtain ⟨f, h⟩ := h
  exact s_Thought_goodTake_l14_r hd hK48 f h
set_option maxRecDepth 100000 in
theorem s_Thought_goodTake_l50_r {E : sx_E} {d : Nat} (hd : 2 ≤ d) {l1 : Int} {l2 : Int} {K79 : Int → zi_M → Prop} {K88 : zi_M → Prop} {Q : Int → zi_M → Prop} (hK79 : ∀ (k3 : Int) (g : zi_M), K79 k3 g → zi_W E d 179 79 [some (.ref 2), some (zi_i l1), some (zi_i l2), some (zi_i k3)] [] g (zi_Q Q)) (hK88 : ∀ (g : zi_M), K88 g → zi_W E d 179 88 [some (.ref 2), some (zi_i l1), some (zi_i l2), none] [] g (zi_Q Q)) : ∀ (f : Nat) {l3 : Int} {g : zi_M}, w_Thought_goodTake_l50 l1 l2 K79 K88 Q f l3 g → zi_W E d 179 50 [some (.ref 2), some (zi_i l1), some (zi_i l2), some (zi_i l3)] [] g (zi_Q Q)
  | 0, _, _, h => False.elim h
  | f + 1, l3, g, h => by
    refine zi_iload_n (pc' := 51) rfl rfl rfl ?_
    refine zi_iconst (pc' := 52) rfl rfl ?_
    obtain ⟨o13, h⟩ := h
    refine zi_icmp_gt (x := 88) (pc' := 55) rfl rfl o13 (by decide) (fun c21 => ?_) (fun c21 => ?_)
    · replace h := h.1 c21
      exact zi_wk (hK88 _ h) (And.intro rfl (And.intro rfl (And.intro rfl trivial)))
    · replace h := h.2 c21
      refine zi_iload_n (pc' := 56) rfl rfl rfl ?_
      refine zi_aload_n (pc' := 57) rfl rfl rfl ?_
      refine zi_getr (pc' := 60) rfl rfl rfl rfl rfl ?_
      refine zi_iload_n (pc' := 61) rfl rfl rfl ?_
      obtain ⟨o14, h⟩ := h
      refine zi_iald (pc' := 62) rfl rfl rfl o14 ?_
      obtain ⟨o15, h⟩ := h
      refine zi_icmp_gt (x := 88) (pc' := 65) rfl rfl o13 o15 (fun c20 => ?_) (fun c20 => ?_)
      · replace h := h.1 c20
        exact zi_wk (hK88 _ h) (And.intro rfl (And.intro rfl (And.intro rfl trivial)))
      · replace h := h.2 c20
        refine zi_aload_n (pc' := 66) rfl rfl rfl ?_
        refine zi_getr (pc' := 69) rfl rfl rfl rfl rfl ?_
        refine zi_iload_n (pc' := 70) rfl rfl rfl ?_
        refine zi_iald (pc' := 71) rfl rfl rfl o14 ?_
        refine zi_iload_n (pc' := 72) rfl rfl rfl ?_
        refine zi_isub (pc' := 73) rfl rfl ?_
        refine zi_iconst (pc' := 74) rfl rfl ?_
        obtain ⟨o16, h⟩ := h
        refine zi_irem (pc' := 75) rfl rfl o16 (by decide) (by decide) ?_
        refine zi_iload_n (pc' := 76) rfl rfl rfl ?_
        obtain ⟨o17, o18, h⟩ := h
        refine zi_icmp_ne (x := 81) (pc' := 79) rfl rfl o17 o18 (fun c19 => ?_) (fun c19 => ?_)
        · replace h := h.1 c19
          refine zi_iload_n (pc' := 82) rfl rfl rfl ?_
          refine zi_iconst (pc' := 83) rfl rfl ?_
          refine zi_imul (pc' := 84) rfl rfl ?_
          refine zi_istore_n (pc' := 85) [some _, some _, some _, some _] rfl rfl rfl ?_
          refine zi_goto (x := 50) rfl ?_
          exact zi_wk (s_Thought_goodTake_l50_r hd hK79 hK88 f h) (And.intro rfl (And.intro rfl (And.intro rfl (And.intro rfl trivial))))
        · replace h := h.2 c19
          exact zi_wk (hK79 _ _ h) (And.intro rfl (And.intro rfl (And.intro rfl (And.intro rfl trivial))))
set_option maxRecDepth 100000 in
theorem s_Thought_goodTake_l50 {E : sx_E} {d : Nat} (hd : 2 ≤ d) {l1 : Int} {l2 : Int} {K79 : Int → zi_M → Prop} {K88 : zi_M → Prop} {Q : Int → zi_M → Prop} {l3 : Int} {g : zi_M} (h : ∃ f, w_Thought_goodTake_l50 l1 l2 K79 K88 Q f l3 g) (hK79 : ∀ (k3 : Int) (g : zi_M), K79 k3 g → zi_W E d 179 79 [some (.ref 2), some (zi_i l1), some (zi_i l2), some (zi_i k3)] [] g (zi_Q Q)) (hK88 : ∀ (g : zi_M), K88 g → zi_W E d 179 88 [some (.ref 2), some (zi_i l1), some (zi_i l2), none] [] g (zi_Q Q)) : zi_W E d 179 50 [some (.ref 2), some (zi_i l1), some (zi_i l2), some (zi_i l3)] [] g (zi_Q Q) := by
  obtain ⟨f, h⟩ := h
  exact s_Thought_goodTake_l50_r hd hK79 hK88 f h
set_option maxRecDepth 100000 in
theorem s_Thought_goodTake {E : sx_E} {d : Nat} (hd : 2 ≤ d) {l1 : Int} {g : zi_M} {Q : Int → zi_M → Prop} (h : w_Thought_goodTake l1 g Q) : zi_S E d 179 [.ref 2, zi_i l1] g (zi_Q Q) := by
  refine zi_Sof jf_179 [some (.ref 2), some (zi_i l1), none, none] rfl (And.intro rfl (And.intro rfl trivial)) ?_
  unfold w_Thought_goodTake at h
  refine zi_aload_n (pc' := 1) rfl rfl rfl ?_
  refine zi_iload_n (pc' := 2) rfl rfl rfl ?_
  refine zi_callV (d' := 1) (as := [_]) (pc' := 5) rfl rfl rfl rfl (Nat.lt_of_lt_of_le (by decide) hd) (s_World_isSpout (Nat.le_refl _) rfl h) (zi_kb (fun v1 g2 b3 h => ?_))
  refine zi_if_ne (x := 10) (pc' := 8) rfl rfl (zi_r_bit b3)  (fun c27 => ?_) (fun c27 => ?_)
  · replace h := h.1 c27
    refine zi_iconst (pc' := 11) rfl rfl ?_
    refine zi_istore_n (pc' := 12) [some _, some _, some _, none] rfl rfl rfl ?_
    refine zi_iconst (pc' := 13) rfl rfl ?_
    refine zi_istore_n (pc' := 14) [some _, some _, some _, some _] rfl rfl rfl ?_
    refine zi_wk (s_Thought_goodTake_l14 hd h (fun k11 g12 h => ?_)) (And.intro rfl (And.intro rfl (And.intro rfl (And.intro rfl trivial))))
    refine zi_iconst (pc' := 49) rfl rfl ?_
    refine zi_istore_n (pc' := 50) [some _, some _, some _, some _] rfl rfl rfl ?_
    refine zi_wk (s_Thought_goodTake_l50 hd h (fun k22 g23 h => ?_) (fun g24 h => ?_)) (And.intro rfl (And.intro rfl (And.intro rfl (And.intro rfl trivial))))
    · refine zi_iload_n (pc' := 80) rfl rfl rfl ?_
      exact zi_iret rfl rfl h
    · refine zi_iconst (pc' := 89) rfl rfl ?_
      exact zi_iret rfl rfl h
  · replace h := h.2 c27
    refine zi_iconst (pc' := 9) rfl rfl ?_
    exact zi_iret rfl rfl h
-- SpoutNews$Thought.goodSpout(LSpoutNews$World;)I
noncomputable def w_Thought_goodSpout_l2 (K19 : Int → zi_M → Prop) (K27 : zi_M → Prop) (Q : Int → zi_M → Prop) : Nat → Int → zi_M → Prop
  | 0, _, _ => False
  | f + 1, l1, g => (zi_r l1 ∧ zi_r (g 2 8) ∧ (((g 2 8) ≤ l1 → K27 g) ∧ (l1 < (g 2 8) → w_Thought_goodTake l1 g (fun v3 g4 => (zi_r v3 ∧ ((v3 = (-1) → w_Thought_goodSpout_l2 K19 K27 Q f (l1 + 1) g4) ∧ (¬ v3 = (-1) → K19 l1 g4)))))))
noncomputable def w_Thought_goodSpout (g : zi_M) (Q : Int → zi_M → Prop) : Prop := (∃ f12, w_Thought_goodSpout_l2 (fun k9 g10 => Q k9 g10) (fun g11 => Q (-1) g11) Q f12 0 g)
set_option maxRecDepth 100000 in
theorem s_Thought_goodSpout_l2_r {E : sx_E} {d : Nat} (hd : 3 ≤ d) {K19 : Int → zi_M → Prop} {K27 : zi_M → Prop} {Q : Int → zi_M → Prop} (hK19 : ∀ (k1 : Int) (g : zi_M), K19 k1 g → zi_W E d 178 19 [some (.ref 2), some (zi_i k1)] [] g (zi_Q Q)) (hK27 : ∀ (g : zi_M), K27 g → zi_W E d 178 27 [some (.ref 2), none] [] g (zi_Q Q)) : ∀ (f : Nat) {l1 : Int} {g : zi_M}, w_Thought_goodSpout_l2 K19 K27 Q f l1 g → zi_W E d 178 2 [some (.ref 2), some (zi_i l1)] [] g (zi_Q Q)
  | 0, _, _, h => False.elim h
  | f + 1, l1, g, h => by
    refine zi_iload_n (pc' := 3) rfl rfl rfl ?_
    refine zi_aload_n (pc' := 4) rfl rfl rfl ?_
    refine zi_geti (pc' := 7) 8 rfl rfl rfl rfl rfl rfl ?_
    obtain ⟨o1, o2, h⟩ := h
    refine zi_icmp_ge (x := 27) (pc' := 10) rfl rfl o1 o2 (fun c8 => ?_) (fun c8 => ?_)
    · replace h := h.1 c8
      exact zi_wk (hK27 _ h) (And.intro rfl trivial)
    · replace h := h.2 c8
      refine zi_aload_n (pc' := 11) rfl rfl rfl ?_
      refine zi_iload_n (pc' := 12) rfl rfl rfl ?_
      refine zi_callS (d' := 2) (as := [_, _]) (pc' := 15) rfl rfl rfl (Nat.lt_of_lt_of_le (by decide) hd) (s_Thought_goodTake (Nat.le_refl _) h) (zi_ki (fun v3 g4 h => ?_))
      refine zi_iconst (pc' := 16) rfl rfl ?_
      obtain ⟨o6, h⟩ := h
      refine zi_icmp_eq (x := 21) (pc' := 19) rfl rfl o6 (by decide) (fun c7 => ?_) (fun c7 => ?_)
      · replace h := h.1 c7
        refine zi_iinc (pc' := 24) [some _, some _] rfl rfl rfl rfl ?_
        refine zi_goto (x := 2) rfl ?_
        exact zi_wk (s_Thought_goodSpout_l2_r hd hK19 hK27 f h) (And.intro rfl (And.intro rfl trivial))
      · replace h := h.2 c7
        exact zi_wk (hK19 _ _ h) (And.intro rfl (And.intro rfl trivial))
set_option maxRecDepth 100000 in
theorem s_Thought_goodSpout_l2 {E : sx_E} {d : Nat} (hd : 3 ≤ d) {K19 : Int → zi_M → Prop} {K27 : zi_M → Prop} {Q : Int → zi_M → Prop} {l1 : Int} {g : zi_M} (h : ∃ f, w_Thought_goodSpout_l2 K19 K27 Q f l1 g) (hK19 : ∀ (k1 : Int) (g : zi_M), K19 k1 g → zi_W E d 178 19 [some (.ref 2), some (zi_i k1)] [] g (zi_Q Q)) (hK27 : ∀ (g : zi_M), K27 g → zi_W E d 178 27 [some (.ref 2), none] [] g (zi_Q Q)) : zi_W E d 178 2 [some (.ref 2), some (zi_i l1)] [] g (zi_Q Q) := by
  obtain ⟨f, h⟩ := h
  exact s_Thought_goodSpout_l2_r hd hK19 hK27 f h
set_option maxRecDepth 100000 in
theorem s_Thought_goodSpout {E : sx_E} {d : Nat} (hd : 3 ≤ d) {g : zi_M} {Q : Int → zi_M → Prop} (h : w_Thought_goodSpout g Q) : zi_S E d 178 [.ref 2] g (zi_Q Q) := by
  refine zi_Sof jf_178 [some (.ref 2), none] rfl (And.intro rfl trivial) ?_
  unfold w_Thought_goodSpout at h
  refine zi_iconst (pc' := 1) rfl rfl ?_
  refine zi_istore_n (pc' := 2) [some _, some _] rfl rfl rfl ?_
  refine zi_wk (s_Thought_goodSpout_l2 hd h (fun k9 g10 h => ?_) (fun g11 h => ?_)) (And.intro rfl (And.intro rfl trivial))
  · refine zi_iload_n (pc' := 20) rfl rfl rfl ?_
    exact zi_iret rfl rfl h
  · refine zi_iconst (pc' := 28) rfl rfl ?_
    exact zi_iret rfl rfl h
-- SpoutNews.game(I)I
noncomputable def w_S_game (l1 : Int) (g : zi_M) (Q : Int → zi_M → Prop) : Prop := (zi_r l1 ∧ ((l1 ≠ 0 → l1 ≠ 1 → Q (-1) g) ∧ (l1 = 0 → w_Thought_goodSpout g (fun v3 g4 => Q v3 g4)) ∧ (l1 = 1 → w_Thought_goodSpout g (fun v6 g7 => w_Thought_goodTake v6 g7 (fun v9 g10 => Q v9 g10)))))
set_option maxRecDepth 100000 in
theorem s_S_game {E : sx_E} {d : Nat} (hd : 4 ≤ d) {l1 : Int} {g : zi_M} {Q : Int → zi_M → Prop} (h : w_S_game l1 g Q) : zi_S E d 177 [.ref 0, zi_i l1] g (zi_Q Q) := by
  refine zi_Sof jf_177 [some (.ref 0), some (zi_i l1)] rfl (And.intro rfl (And.intro rfl trivial)) ?_
  unfold w_S_game at h
  refine zi_iload_n (pc' := 1) rfl rfl rfl ?_
  obtain ⟨o1, h⟩ := h
  refine zi_lsw [(0, 28), (1, 39)] 60 rfl rfl o1 (fun c2 => ?_) (And.intro (fun c2 => ?_) (And.intro (fun c2 => ?_) trivial))
  · replace h := h.1 (c2 _ (List.mem_cons_self)) (c2 _ (List.mem_cons_of_mem _ (List.mem_cons_self)))
    refine zi_iconst (pc' := 61) rfl rfl ?_
    exact zi_iret rfl rfl h
  · replace h := h.2.1 c2
    refine zi_aload_n (pc' := 29) rfl rfl rfl ?_
    refine zi_getr (pc' := 32) rfl rfl rfl rfl rfl ?_
    refine zi_getr (pc' := 35) rfl rfl rfl rfl rfl ?_
    refine zi_callS (d' := 3) (as := [_]) (pc' := 38) rfl rfl rfl (Nat.lt_of_lt_of_le (by decide) hd) (s_Thought_goodSpout (Nat.le_refl _) h) (zi_ki (fun v3 g4 h => ?_))
    exact zi_iret rfl rfl h
  · replace h := h.2.2 c2
    refine zi_aload_n (pc' := 40) rfl rfl rfl ?_
    refine zi_getr (pc' := 43) rfl rfl rfl rfl rfl ?_
    refine zi_getr (pc' := 46) rfl rfl rfl rfl rfl ?_
    refine zi_aload_n (pc' := 47) rfl rfl rfl ?_
    refine zi_getr (pc' := 50) rfl rfl rfl rfl rfl ?_
    refine zi_getr (pc' := 53) rfl rfl rfl rfl rfl ?_
    refine zi_callS (d' := 3) (as := [_]) (pc' := 56) rfl rfl rfl (Nat.lt_of_lt_of_le (by decide) hd) (s_Thought_goodSpout (Nat.le_refl _) h) (zi_ki (fun v6 g7 h => ?_))
    refine zi_callS (d' := 2) (as := [_, _]) (pc' := 59) rfl rfl rfl (Nat.lt_of_lt_of_le (by decide) hd) (s_Thought_goodTake (Nat.le_refl _) h) (zi_ki (fun v9 g10 h => ?_))
    exact zi_iret rfl rfl h
-- SpoutNewsModel.game(I)I
noncomputable def w_M_game_l21 (K49 : Int → zi_M → Prop) (Q : Int → zi_M → Prop) : Nat → Int → Int → zi_M → Prop
  | 0, _, _, _ => False
  | f + 1, l2, l3, g => (zi_r l3 ∧ zi_r (g 214 6) ∧ (((g 214 6) ≤ l3 → K49 l2 g) ∧ (l3 < (g 214 6) → ((0 ≤ (26 + l3) ∧ (26 + l3) < 264) ∧ (zi_r (g 215 (26 + l3)) ∧ w_M_game_l21 K49 Q f (zi_xor l2 (Int.tmod (g 215 (26 + l3)) 3)) (l3 + 1) g)))))
noncomputable def w_M_game_l73 (l2 : Int) (l4 : Int) (K107 : Int → zi_M → Prop) (K124 : zi_M → Prop) (Q : Int → zi_M → Prop) : Nat → Int → zi_M → Prop
  | 0, _, _ => False
  | f + 1, l5, g => w_M_lesser 4 l4 g (fun v15 g16 => (zi_r l5 ∧ zi_r v15 ∧ ((v15 < l5 → K124 g16) ∧ (l5 ≤ v15 → ((l5 = 3 → w_M_game_l73 l2 l4 K107 K124 Q f (l5 + 1) g16) ∧ (¬ l5 = 3 → (zi_r l4 ∧ (zi_r (l4 - l5) ∧ (zi_r (Int.tmod (l4 - l5) 3) ∧ ((¬ (zi_xor l2 (Int.tmod l4 3)) = (Int.tmod (l4 - l5) 3) → w_M_game_l73 l2 l4 K107 K124 Q f (l5 + 1) g16) ∧ ((zi_xor l2 (Int.tmod l4 3)) = (Int.tmod (l4 - l5) 3) → K107 l5 g16)))))))))))
noncomputable def w_M_game_l51 (l2 : Int) (K107 : Int → Int → zi_M → Prop) (K130 : zi_M → Prop) (Q : Int → zi_M → Prop) : Nat → Int → zi_M → Prop
  | 0, _, _ => False
  | f + 1, l3, g => (zi_r l3 ∧ zi_r (g 214 6) ∧ (((g 214 6) ≤ l3 → K130 g) ∧ (l3 < (g 214 6) → ((0 ≤ (26 + l3) ∧ (26 + l3) < 264) ∧ (∃ f29, w_M_game_l73 l2 (g 215 (26 + l3)) (fun k26 g27 => K107 l3 k26 g27) (fun g28 => w_M_game_l51 l2 K107 K130 Q f (l3 + 1) g28) Q f29 1 g)))))
noncomputable def w_M_game (l1 : Int) (g : zi_M) (Q : Int → zi_M → Prop) : Prop := (∀ g1, g1 = zi_u g 214 0 0 → w_M_isIn l1 0 1 g1 (fun v2 g3 => ((¬ v2 = 0 → (∃ f38, w_M_game_l21 (fun k10 g11 => (∃ f37, w_M_game_l51 k10 (fun k31 k32 g33 => (zi_r l1 ∧ ((¬ l1 = 0 → Q k32 g33) ∧ (l1 = 0 → Q k31 g33)))) (fun g36 => Q (-1) g36) Q f37 0 g11)) Q f38 0 0 g3)) ∧ (v2 = 0 → Q (-1) g3))))
set_option maxRecDepth 100000 in
theorem s_M_game_l21_r {E : sx_E} {d : Nat} (hd : 2 ≤ d) {x1 : Int} {K49 : Int → zi_M → Prop} {Q : Int → zi_M → Prop} (hK49 : ∀ (k2 : Int) (g : zi_M), K49 k2 g → zi_W E d 319 49 [some (.ref 214), some (zi_i x1), some (zi_i k2), none, none, none] [] g (zi_Q Q)) : ∀ (f : Nat) {l2 : Int} {l3 : Int} {g : zi_M}, w_M_game_l21 K49 Q f l2 l3 g → zi_W E d 319 21 [some (.ref 214), some (zi_i x1), some (zi_i l2), some (zi_i l3), none, none] [] g (zi_Q Q)
  | 0, _, _, _, h => False.elim h
  | f + 1, l2, l3, g, h => by
    refine zi_iload_n (pc' := 22) rfl rfl rfl ?_
    refine zi_aload_n (pc' := 23) rfl rfl rfl ?_
    refine zi_geti (pc' := 26) 6 rfl rfl rfl rfl rfl rfl ?_
    obtain ⟨o5, o6, h⟩ := h
    refine zi_icmp_ge (x := 49) (pc' := 29) rfl rfl o5 o6 (fun c9 => ?_) (fun c9 => ?_)
    · replace h := h.1 c9
      exact zi_wk (hK49 _ _ h) (And.intro rfl (And.intro rfl (And.intro rfl trivial)))
    · replace h := h.2 c9
      refine zi_iload_n (pc' := 30) rfl rfl rfl ?_
      refine zi_aload_n (pc' := 31) rfl rfl rfl ?_
      refine zi_getr (pc' := 34) rfl rfl rfl rfl rfl ?_
      refine zi_bipush (pc' := 36) rfl rfl (by decide) ?_
      refine zi_iload_n (pc' := 37) rfl rfl rfl ?_
      refine zi_iadd (pc' := 38) rfl rfl ?_
      obtain ⟨o7, h⟩ := h
      refine zi_iald (pc' := 39) rfl rfl rfl o7 ?_
      refine zi_iconst (pc' := 40) rfl rfl ?_
      obtain ⟨o8, h⟩ := h
      refine zi_irem (pc' := 41) rfl rfl o8 (by decide) (by decide) ?_
      refine zi_ixor (pc' := 42) rfl rfl ?_
      refine zi_istore_n (pc' := 43) [some _, some _, some _, some _, none, none] rfl rfl rfl ?_
      refine zi_iinc (pc' := 46) [some _, some _, some _, some _, none, none] rfl rfl rfl rfl ?_
      refine zi_goto (x := 21) rfl ?_
      exact zi_wk (s_M_game_l21_r hd hK49 f h) (And.intro rfl (And.intro rfl (And.intro rfl (And.intro rfl trivial))))
set_option maxRecDepth 100000 in
theorem s_M_game_l21 {E : sx_E} {d : Nat} (hd : 2 ≤ d) {x1 : Int} {K49 : Int → zi_M → Prop} {Q : Int → zi_M → Prop} {l2 : Int} {l3 : Int} {g : zi_M} (h : ∃ f, w_M_game_l21 K49 Q f l2 l3 g) (hK49 : ∀ (k2 : Int) (g : zi_M), K49 k2 g → zi_W E d 319 49 [some (.ref 214), some (zi_i x1), some (zi_i k2), none, none, none] [] g (zi_Q Q)) : zi_W E d 319 21 [some (.ref 214), some (zi_i x1), some (zi_i l2), some (zi_i l3), none, none] [] g (zi_Q Q) := by
  obtain ⟨f, h⟩ := h
  exact s_M_game_l21_r hd hK49 f h
set_option maxRecDepth 100000 in
theorem s_M_game_l73_r {E : sx_E} {d : Nat} (hd : 2 ≤ d) {l2 : Int} {l4 : Int} {x1 : Int} {x3 : Int} {K107 : Int → zi_M → Prop} {K124 : zi_M → Prop} {Q : Int → zi_M → Prop} (hK107 : ∀ (k5 : Int) (g : zi_M), K107 k5 g → zi_W E d 319 107 [some (.ref 214), some (zi_i x1), some (zi_i l2), some (zi_i x3), some (zi_i l4), some (zi_i k5)] [] g (zi_Q Q)) (hK124 : ∀ (g : zi_M), K124 g → zi_W E d 319 124 [some (.ref 214), some (zi_i x1), some (zi_i l2), some (zi_i x3), some (zi_i l4), none] [] g (zi_Q Q)) : ∀ (f : Nat) {l5 : Int} {g : zi_M}, w_M_game_l73 l2 l4 K107 K124 Q f l5 g → zi_W E d 319 73 [some (.ref 214), some (zi_i x1), some (zi_i l2), some (zi_i x3), some (zi_i l4), some (zi_i l5)] [] g (zi_Q Q)
  | 0, _, _, h => False.elim h
  | f + 1, l5, g, h => by
    refine zi_iload (pc' := 75) rfl rfl rfl ?_
    refine zi_aload_n (pc' := 76) rfl rfl rfl ?_
    refine zi_iconst (pc' := 77) rfl rfl ?_
    refine zi_iload (pc' := 79) rfl rfl rfl ?_
    refine zi_callV (d' := 1) (as := [_, _]) (pc' := 82) rfl rfl rfl rfl (Nat.lt_of_lt_of_le (by decide) hd) (s_M_lesser (Nat.le_refl _) h) (zi_ki (fun v15 g16 h => ?_))
    obtain ⟨o18, o19, h⟩ := h
    refine zi_icmp_gt (x := 124) (pc' := 85) rfl rfl o18 o19 (fun c25 => ?_) (fun c25 => ?_)
    · replace h := h.1 c25
      exact zi_wk (hK124 _ h) (And.intro rfl (And.intro rfl (And.intro rfl (And.intro rfl (And.intro rfl trivial)))))
    · replace h := h.2 c25
      refine zi_iload (pc' := 87) rfl rfl rfl ?_
      refine zi_iconst (pc' := 88) rfl rfl ?_
      refine zi_icmp_eq (x := 118) (pc' := 91) rfl rfl o18 (by decide) (fun c24 => ?_) (fun c24 => ?_)
      · replace h := h.1 c24
        refine zi_iinc (pc' := 121) [some _, some _, some _, some _, some _, some _] rfl rfl rfl rfl ?_
        refine zi_goto (x := 73) rfl ?_
        exact zi_wk (s_M_game_l73_r hd hK107 hK124 f h) (And.intro rfl (And.intro rfl (And.intro rfl (And.intro rfl (And.intro rfl (And.intro rfl trivial))))))
      · replace h := h.2 c24
        refine zi_iload_n (pc' := 92) rfl rfl rfl ?_
        refine zi_iload (pc' := 94) rfl rfl rfl ?_
        refine zi_iconst (pc' := 95) rfl rfl ?_
        obtain ⟨o20, h⟩ := h
        refine zi_irem (pc' := 96) rfl rfl o20 (by decide) (by decide) ?_
        refine zi_ixor (pc' := 97) rfl rfl ?_
        refine zi_iload (pc' := 99) rfl rfl rfl ?_
        refine zi_iload (pc' := 101) rfl rfl rfl ?_
        refine zi_isub (pc' := 102) rfl rfl ?_
        refine zi_iconst (pc' := 103) rfl rfl ?_
        obtain ⟨o21, h⟩ := h
        refine zi_irem (pc' := 104) rfl rfl o21 (by decide) (by decide) ?_
        obtain ⟨o22, h⟩ := h
        refine zi_icmp_ne (x := 118) (pc' := 107) rfl rfl (zi_r_xor _ _) o22 (fun c23 => ?_) (fun c23 => ?_)
        · replace h := h.1 c23
          refine zi_iinc (pc' := 121) [some _, some _, some _, some _, some _, some _] rfl rfl rfl rfl ?_
          refine zi_goto (x := 73) rfl ?_
          exact zi_wk (s_M_game_l73_r hd hK107 hK124 f h) (And.intro rfl (And.intro rfl (And.intro rfl (And.intro rfl (And.intro rfl (And.intro rfl trivial))))))
        · replace h := h.2 c23
          exact zi_wk (hK107 _ _ h) (And.intro rfl (And.intro rfl (And.intro rfl (And.intro rfl (And.intro rfl (And.intro rfl trivial))))))
set_option maxRecDepth 100000 in
theorem s_M_game_l73 {E : sx_E} {d : Nat} (hd : 2 ≤ d) {l2 : Int} {l4 : Int} {x1 : Int} {x3 : Int} {K107 : Int → zi_M → Prop} {K124 : zi_M → Prop} {Q : Int → zi_M → Prop} {l5 : Int} {g : zi_M} (h : ∃ f, w_M_game_l73 l2 l4 K107 K124 Q f l5 g) (hK107 : ∀ (k5 : Int) (g : zi_M), K107 k5 g → zi_W E d 319 107 [some (.ref 214), some (zi_i x1), some (zi_i l2), some (zi_i x3), some (zi_i l4), some (zi_i k5)] [] g (zi_Q Q)) (hK124 : ∀ (g : zi_M), K124 g → zi_W E d 319 124 [some (.ref 214), some (zi_i x1), some (zi_i l2), some (zi_i x3), some (zi_i l4), none] [] g (zi_Q Q)) : zi_W E d 319 73 [some (.ref 214), some (zi_i x1), some (zi_i l2), some (zi_i x3), some (zi_i l4), some (zi_i l5)] [] g (zi_Q Q) := by
  obtain ⟨f, h⟩ := h
  exact s_M_game_l73_r hd hK107 hK124 f h
set_option maxRecDepth 100000 in
theorem s_M_game_l51_r {E : sx_E} {d : Nat} (hd : 2 ≤ d) {l2 : Int} {x1 : Int} {K107 : Int → Int → zi_M → Prop} {K130 : zi_M → Prop} {Q : Int → zi_M → Prop} (hK107 : ∀ (k3 : Int) (k5 : Int) (g : zi_M), K107 k3 k5 g → zi_W E d 319 107 [some (.ref 214), some (zi_i x1), some (zi_i l2), some (zi_i k3), none, some (zi_i k5)] [] g (zi_Q Q)) (hK130 : ∀ (g : zi_M), K130 g → zi_W E d 319 130 [some (.ref 214), some (zi_i x1), some (zi_i l2), none, none, none] [] g (zi_Q Q)) : ∀ (f : Nat) {l3 : Int} {g : zi_M}, w_M_game_l51 l2 K107 K130 Q f l3 g → zi_W E d 319 51 [some (.ref 214), some (zi_i x1), some (zi_i l2), some (zi_i l3), none, none] [] g (zi_Q Q)
  | 0, _, _, h => False.elim h
  | f + 1, l3, g, h => by
    refine zi_iload_n (pc' := 52) rfl rfl rfl ?_
    refine zi_aload_n (pc' := 53) rfl rfl rfl ?_
    refine zi_geti (pc' := 56) 6 rfl rfl rfl rfl rfl rfl ?_
    obtain ⟨o12, o13, h⟩ := h
    refine zi_icmp_ge (x := 130) (pc' := 59) rfl rfl o12 o13 (fun c30 => ?_) (fun c30 => ?_)
    · replace h := h.1 c30
      exact zi_wk (hK130 _ h) (And.intro rfl (And.intro rfl (And.intro rfl trivial)))
    · replace h := h.2 c30
      refine zi_aload_n (pc' := 60) rfl rfl rfl ?_
      refine zi_getr (pc' := 63) rfl rfl rfl rfl rfl ?_
      refine zi_bipush (pc' := 65) rfl rfl (by decide) ?_
      refine zi_iload_n (pc' := 66) rfl rfl rfl ?_
      refine zi_iadd (pc' := 67) rfl rfl ?_
      obtain ⟨o14, h⟩ := h
      refine zi_iald (pc' := 68) rfl rfl rfl o14 ?_
      refine zi_istore (pc' := 70) [some _, some _, some _, some _, some _, none] rfl rfl rfl ?_
      refine zi_iconst (pc' := 71) rfl rfl ?_
      refine zi_istore (pc' := 73) [some _, some _, some _, some _, some _, some _] rfl rfl rfl ?_
      refine zi_wk (s_M_game_l73 hd h (fun k26 g27 h => ?_) (fun g28 h => ?_)) (And.intro rfl (And.intro rfl (And.intro rfl (And.intro rfl (And.intro rfl (And.intro rfl trivial))))))
      · exact zi_wk (hK107 _ _ _ h) (And.intro rfl (And.intro rfl (And.intro rfl (And.intro rfl (And.intro rfl trivial)))))
      · refine zi_iinc (pc' := 127) [some _, some _, some _, some _, some _, none] rfl rfl rfl rfl ?_
        refine zi_goto (x := 51) rfl ?_
        exact zi_wk (s_M_game_l51_r hd hK107 hK130 f h) (And.intro rfl (And.intro rfl (And.intro rfl (And.intro rfl trivial))))
set_option maxRecDepth 100000 in
theorem s_M_game_l51 {E : sx_E} {d : Nat} (hd : 2 ≤ d) {l2 : Int} {x1 : Int} {K107 : Int → Int → zi_M → Prop} {K130 : zi_M → Prop} {Q : Int → zi_M → Prop} {l3 : Int} {g : zi_M} (h : ∃ f, w_M_game_l51 l2 K107 K130 Q f l3 g) (hK107 : ∀ (k3 : Int) (k5 : Int) (g : zi_M), K107 k3 k5 g → zi_W E d 319 107 [some (.ref 214), some (zi_i x1), some (zi_i l2), some (zi_i k3), none, some (zi_i k5)] [] g (zi_Q Q)) (hK130 : ∀ (g : zi_M), K130 g → zi_W E d 319 130 [some (.ref 214), some (zi_i x1), some (zi_i l2), none, none, none] [] g (zi_Q Q)) : zi_W E d 319 51 [some (.ref 214), some (zi_i x1), some (zi_i l2), some (zi_i l3), none, none] [] g (zi_Q Q) := by
  obtain ⟨f, h⟩ := h
  exact s_M_game_l51_r hd hK107 hK130 f h
set_option maxRecDepth 100000 in
theorem s_M_game {E : sx_E} {d : Nat} (hd : 2 ≤ d) {l1 : Int} {g : zi_M} {Q : Int → zi_M → Prop} (h : w_M_game l1 g Q) : zi_S E d 319 [.ref 214, zi_i l1] g (zi_Q Q) := by
  refine zi_Sof jf_319 [some (.ref 214), some (zi_i l1), none, none, none, none] rfl (And.intro rfl (And.intro rfl trivial)) ?_
  unfold w_M_game at h
  refine zi_aload_n (pc' := 1) rfl rfl rfl ?_
  refine zi_iconst (pc' := 2) rfl rfl ?_
  refine zi_puti (pc' := 5) 0 rfl rfl rfl rfl rfl  ?_
  replace h := h _ rfl
  refine zi_aload_n (pc' := 6) rfl rfl rfl ?_
  refine zi_iload_n (pc' := 7) rfl rfl rfl ?_
  refine zi_iconst (pc' := 8) rfl rfl ?_
  refine zi_iconst (pc' := 9) rfl rfl ?_
  refine zi_callV (d' := 1) (as := [_, _, _]) (pc' := 12) rfl rfl rfl rfl (Nat.lt_of_lt_of_le (by decide) hd) (s_M_isIn (Nat.le_refl _) h) (zi_kb (fun v2 g3 b4 h => ?_))
  refine zi_if_ne (x := 17) (pc' := 15) rfl rfl (zi_r_bit b4)  (fun c39 => ?_) (fun c39 => ?_)
  · replace h := h.1 c39
    refine zi_iconst (pc' := 18) rfl rfl ?_
    refine zi_istore_n (pc' := 19) [some _, some _, some _, none, none, none] rfl rfl rfl ?_
    refine zi_iconst (pc' := 20) rfl rfl ?_
    refine zi_istore_n (pc' := 21) [some _, some _, some _, some _, none, none] rfl rfl rfl ?_
    refine zi_wk (s_M_game_l21 hd h (fun k10 g11 h => ?_)) (And.intro rfl (And.intro rfl (And.intro rfl (And.intro rfl trivial))))
    refine zi_iconst (pc' := 50) rfl rfl ?_
    refine zi_istore_n (pc' := 51) [some _, some _, some _, some _, none, none] rfl rfl rfl ?_
    refine zi_wk (s_M_game_l51 hd h (fun k31 k32 g33 h => ?_) (fun g36 h => ?_)) (And.intro rfl (And.intro rfl (And.intro rfl (And.intro rfl trivial))))
    · refine zi_iload_n (pc' := 108) rfl rfl rfl ?_
      obtain ⟨o34, h⟩ := h
      refine zi_if_ne (x := 115) (pc' := 111) rfl rfl o34  (fun c35 => ?_) (fun c35 => ?_)
      · replace h := h.1 c35
        refine zi_iload (pc' := 117) rfl rfl rfl ?_
        exact zi_iret rfl rfl h
      · replace h := h.2 c35
        refine zi_iload_n (pc' := 112) rfl rfl rfl ?_
        refine zi_goto (x := 117) rfl ?_
        exact zi_iret rfl rfl h
    · refine zi_iconst (pc' := 131) rfl rfl ?_
      exact zi_iret rfl rfl h
  · replace h := h.2 c39
    refine zi_iconst (pc' := 16) rfl rfl ?_
    exact zi_iret rfl rfl h
-- SpoutNews$Past.goBack(LSpoutNews$World;)Z
noncomputable def w_Past_goBack (g : zi_M) (Q : Int → zi_M → Prop) : Prop := (zi_r (g 91 1) ∧ ((1 ≤ (g 91 1) → (zi_r (((g 91 2) + 6) - 1) ∧ (∀ g3, g3 = zi_u g 91 2 (Int.tmod (((g 91 2) + 6) - 1) 6) → (∀ g4, g4 = zi_u g3 91 1 ((g3 91 1) - 1) → ((0 ≤ (g4 91 2) ∧ (g4 91 2) < 6) ∧ w_World_copyFrom 2 (93 + 12 * (g4 91 2).toNat) g4 (fun _ g7 => Q 1 g7)))))) ∧ ((g 91 1) < 1 → Q 0 g)))
set_option maxRecDepth 100000 in
theorem s_Past_goBack {E : sx_E} {d : Nat} (hd : 2 ≤ d) {g : zi_M} {Q : Int → zi_M → Prop} (h : w_Past_goBack g Q) : zi_S E d 181 [.ref 91, .ref 2] g (zi_Qb Q) := by
  refine zi_Sof jf_181 [some (.ref 91), some (.ref 2)] rfl (And.intro rfl (And.intro rfl trivial)) ?_
  unfold w_Past_goBack at h
  refine zi_aload_n (pc' := 1) rfl rfl rfl ?_
  refine zi_geti (pc' := 4) 1 rfl rfl rfl rfl rfl rfl ?_
  refine zi_iconst (pc' := 5) rfl rfl ?_
  obtain ⟨o1, h⟩ := h
  refine zi_icmp_ge (x := 10) (pc' := 8) rfl rfl o1 (by decide) (fun c9 => ?_) (fun c9 => ?_)
  · replace h := h.1 c9
    refine zi_aload_n (pc' := 11) rfl rfl rfl ?_
    refine zi_aload_n (pc' := 12) rfl rfl rfl ?_
    refine zi_geti (pc' := 15) 2 rfl rfl rfl rfl rfl rfl ?_
    refine zi_bipush (pc' := 17) rfl rfl (by decide) ?_
    refine zi_iadd (pc' := 18) rfl rfl ?_
    refine zi_iconst (pc' := 19) rfl rfl ?_
    refine zi_isub (pc' := 20) rfl rfl ?_
    refine zi_bipush (pc' := 22) rfl rfl (by decide) ?_
    obtain ⟨o2, h⟩ := h
    refine zi_irem (pc' := 23) rfl rfl o2 (by decide) (by decide) ?_
    refine zi_puti (pc' := 26) 2 rfl rfl rfl rfl rfl  ?_
    replace h := h _ rfl
    refine zi_aload_n (pc' := 27) rfl rfl rfl ?_
    refine zi_dup (pc' := 28) rfl rfl rfl ?_
    refine zi_geti (pc' := 31) 1 rfl rfl rfl rfl rfl rfl ?_
    refine zi_iconst (pc' := 32) rfl rfl ?_
    refine zi_isub (pc' := 33) rfl rfl ?_
    refine zi_puti (pc' := 36) 1 rfl rfl rfl rfl rfl  ?_
    replace h := h _ rfl
    refine zi_aload_n (pc' := 37) rfl rfl rfl ?_
    refine zi_aload_n (pc' := 38) rfl rfl rfl ?_
    refine zi_getr (pc' := 41) rfl rfl rfl rfl rfl ?_
    refine zi_aload_n (pc' := 42) rfl rfl rfl ?_
    refine zi_geti (pc' := 45) 2 rfl rfl rfl rfl rfl rfl ?_
    obtain ⟨o5, h⟩ := h
    refine zi_aald (pc' := 46) rfl rfl rfl o5 (zs_ring o5).1 ?_
    refine zi_callV (d' := 1) (as := [_]) (pc' := 49) rfl rfl rfl rfl (Nat.lt_of_lt_of_le (by decide) hd) (s_World_copyFrom (Nat.le_refl _) rfl (zs_ring o5).2 h) (zi_kv (fun g7 h => ?_))
    refine zi_iconst (pc' := 50) rfl rfl ?_
    exact zi_zret rfl rfl (Or.inr rfl) h
  · replace h := h.2 c9
    refine zi_iconst (pc' := 9) rfl rfl ?_
    exact zi_zret rfl rfl (Or.inl rfl) h
-- SpoutNews.undo()Z
noncomputable def w_S_undo (g : zi_M) (Q : Int → zi_M → Prop) : Prop := w_Past_goBack g (fun v1 g2 => Q v1 g2)
set_option maxRecDepth 100000 in
theorem s_S_undo {E : sx_E} {d : Nat} (hd : 3 ≤ d) {g : zi_M} {Q : Int → zi_M → Prop} (h : w_S_undo g Q) : zi_S E d 180 [.ref 0] g (zi_Qb Q) := by
  refine zi_Sof jf_180 [some (.ref 0)] rfl (And.intro rfl trivial) ?_
  unfold w_S_undo at h
  refine zi_aload_n (pc' := 1) rfl rfl rfl ?_
  refine zi_getr (pc' := 4) rfl rfl rfl rfl rfl ?_
  refine zi_aload_n (pc' := 5) rfl rfl rfl ?_
  refine zi_getr (pc' := 8) rfl rfl rfl rfl rfl ?_
  refine zi_getr (pc' := 11) rfl rfl rfl rfl rfl ?_
  refine zi_callV (d' := 2) (as := [_]) (pc' := 14) rfl rfl rfl rfl (Nat.lt_of_lt_of_le (by decide) hd) (s_Past_goBack (Nat.le_refl _) h) (zi_kb (fun v1 g2 b3 h => ?_))
  exact zi_zret rfl rfl b3 h
-- SpoutNewsModel.undo()Z
noncomputable def w_M_undo_l26 (K60 : zi_M → Prop) (Q : Int → zi_M → Prop) : Nat → Int → zi_M → Prop
  | 0, _, _ => False
  | f + 1, l1, g => (zi_r l1 ∧ ((264 ≤ l1 → K60 g) ∧ (l1 < 264 → ((0 ≤ ((264 * (g 214 3)) + l1) ∧ ((264 * (g 214 3)) + l1) < 1584) ∧ ((0 ≤ l1 ∧ l1 < 264) ∧ (∀ g7, g7 = zi_u g 215 l1 (g 216 ((264 * (g 214 3)) + l1)) → w_M_undo_l26 K60 Q f (l1 + 1) g7))))))
noncomputable def w_M_undo (g : zi_M) (Q : Int → zi_M → Prop) : Prop := (∀ g1, g1 = zi_u g 214 0 0 → (zi_r (g1 214 3) ∧ ((¬ (g1 214 3) = 0 → (∀ g3, g3 = zi_u g1 214 3 ((g1 214 3) - 1) → (∃ f10, w_M_undo_l26 (fun g9 => Q 1 g9) Q f10 0 g3))) ∧ ((g1 214 3) = 0 → Q 0 g1))))
set_option maxRecDepth 100000 in
theorem s_M_undo_l26_r {E : sx_E} {d : Nat} (hd : 1 ≤ d) {K60 : zi_M → Prop} {Q : Int → zi_M → Prop} (hK60 : ∀ (g : zi_M), K60 g → zi_W E d 189 60 [some (.ref 214), none] [] g (zi_Qb Q)) : ∀ (f : Nat) {l1 : Int} {g : zi_M}, w_M_undo_l26 K60 Q f l1 g → zi_W E d 189 26 [some (.ref 214), some (zi_i l1)] [] g (zi_Qb Q)
  | 0, _, _, h => False.elim h
  | f + 1, l1, g, h => by
    refine zi_iload_n (pc' := 27) rfl rfl rfl ?_
    refine zi_sipush (pc' := 30) rfl rfl (by decide) ?_
    obtain ⟨o4, h⟩ := h
    refine zi_icmp_ge (x := 60) (pc' := 33) rfl rfl o4 (by decide) (fun c8 => ?_) (fun c8 => ?_)
    · replace h := h.1 c8
      exact zi_wk (hK60 _ h) (And.intro rfl trivial)
    · replace h := h.2 c8
      refine zi_aload_n (pc' := 34) rfl rfl rfl ?_
      refine zi_getr (pc' := 37) rfl rfl rfl rfl rfl ?_
      refine zi_iload_n (pc' := 38) rfl rfl rfl ?_
      refine zi_aload_n (pc' := 39) rfl rfl rfl ?_
      refine zi_getr (pc' := 42) rfl rfl rfl rfl rfl ?_
      refine zi_sipush (pc' := 45) rfl rfl (by decide) ?_
      refine zi_aload_n (pc' := 46) rfl rfl rfl ?_
      refine zi_geti (pc' := 49) 3 rfl rfl rfl rfl rfl rfl ?_
      refine zi_imul (pc' := 50) rfl rfl ?_
      refine zi_iload_n (pc' := 51) rfl rfl rfl ?_
      refine zi_iadd (pc' := 52) rfl rfl ?_
      obtain ⟨o5, h⟩ := h
      refine zi_iald (pc' := 53) rfl rfl rfl o5 ?_
      obtain ⟨o6, h⟩ := h
      refine zi_iast (pc' := 54) rfl rfl rfl o6 ?_
      replace h := h _ rfl
      refine zi_iinc (pc' := 57) [some _, some _] rfl rfl rfl rfl ?_
      refine zi_goto (x := 26) rfl ?_
      exact zi_wk (s_M_undo_l26_r hd hK60 f h) (And.intro rfl (And.intro rfl trivial))
set_option maxRecDepth 100000 in
theorem s_M_undo_l26 {E : sx_E} {d : Nat} (hd : 1 ≤ d) {K60 : zi_M → Prop} {Q : Int → zi_M → Prop} {l1 : Int} {g : zi_M} (h : ∃ f, w_M_undo_l26 K60 Q f l1 g) (hK60 : ∀ (g : zi_M), K60 g → zi_W E d 189 60 [some (.ref 214), none] [] g (zi_Qb Q)) : zi_W E d 189 26 [some (.ref 214), some (zi_i l1)] [] g (zi_Qb Q) := by
  obtain ⟨f, h⟩ := h
  exact s_M_undo_l26_r hd hK60 f h
set_option maxRecDepth 100000 in
theorem s_M_undo {E : sx_E} {d : Nat} (hd : 1 ≤ d) {g : zi_M} {Q : Int → zi_M → Prop} (h : w_M_undo g Q) : zi_S E d 189 [.ref 214] g (zi_Qb Q) := by
  refine zi_Sof jf_189 [some (.ref 214), none] rfl (And.intro rfl trivial) ?_
  unfold w_M_undo at h
  refine zi_aload_n (pc' := 1) rfl rfl rfl ?_
  refine zi_iconst (pc' := 2) rfl rfl ?_
  refine zi_puti (pc' := 5) 0 rfl rfl rfl rfl rfl  ?_
  replace h := h _ rfl
  refine zi_aload_n (pc' := 6) rfl rfl rfl ?_
  refine zi_geti (pc' := 9) 3 rfl rfl rfl rfl rfl rfl ?_
  obtain ⟨o2, h⟩ := h
  refine zi_if_ne (x := 14) (pc' := 12) rfl rfl o2  (fun c11 => ?_) (fun c11 => ?_)
  · replace h := h.1 c11
    refine zi_aload_n (pc' := 15) rfl rfl rfl ?_
    refine zi_aload_n (pc' := 16) rfl rfl rfl ?_
    refine zi_geti (pc' := 19) 3 rfl rfl rfl rfl rfl rfl ?_
    refine zi_iconst (pc' := 20) rfl rfl ?_
    refine zi_isub (pc' := 21) rfl rfl ?_
    refine zi_puti (pc' := 24) 3 rfl rfl rfl rfl rfl  ?_
    replace h := h _ rfl
    refine zi_iconst (pc' := 25) rfl rfl ?_
    refine zi_istore_n (pc' := 26) [some _, some _] rfl rfl rfl ?_
    refine zi_wk (s_M_undo_l26 hd h (fun g9 h => ?_)) (And.intro rfl (And.intro rfl trivial))
    refine zi_iconst (pc' := 61) rfl rfl ?_
    exact zi_zret rfl rfl (Or.inr rfl) h
  · replace h := h.2 c11
    refine zi_iconst (pc' := 13) rfl rfl ?_
    exact zi_zret rfl rfl (Or.inl rfl) h
-- SpoutNews$Book.copyFrom(LSpoutNews$Book;)V
noncomputable def w_Book_copyFrom (r0 : Nat) (r1 : Nat) (g : zi_M) (Q : Int → zi_M → Prop) : Prop := (∀ g2, g2 = zi_cp g (r1 + 1) 0 (r0 + 1) 0 150 → (∀ g4, g4 = zi_cp g2 (r1 + 2) 0 (r0 + 2) 0 150 → (∀ g6, g6 = zi_cp g4 (r1 + 3) 0 (r0 + 3) 0 150 → (∀ g8, g8 = zi_cp g6 (r1 + 4) 0 (r0 + 4) 0 150 → Q 0 g8))))
set_option maxRecDepth 100000 in
theorem s_Book_copyFrom {E : sx_E} {d : Nat} (hd : 1 ≤ d) {r0 : Nat} (hr0 : zs_sh r0 = some (0, 4)) {r1 : Nat} (hr1 : zs_sh r1 = some (0, 4)) {g : zi_M} {Q : Int → zi_M → Prop} (h : w_Book_copyFrom r0 r1 g Q) : zi_S E d 184 [.ref r0, .ref r1] g (zi_Qv Q) := by
  refine zi_Sof jf_184 [some (.ref r0), some (.ref r1)] rfl (And.intro rfl (And.intro rfl trivial)) ?_
  unfold w_Book_copyFrom at h
  refine zi_aload_n (pc' := 1) rfl rfl rfl ?_
  refine zi_getr (pc' := 4) rfl rfl hr1 (zs_f0_0 hr1).1 rfl ?_
  refine zi_iconst (pc' := 5) rfl rfl ?_
  refine zi_aload_n (pc' := 6) rfl rfl rfl ?_
  refine zi_getr (pc' := 9) rfl rfl hr0 (zs_f0_0 hr0).1 rfl ?_
  refine zi_iconst (pc' := 10) rfl rfl ?_
  refine zi_sipush (pc' := 13) rfl rfl (by decide) ?_
  refine zi_copy (pc' := 16) rfl rfl (Nat.le_trans (by decide) hd) rfl (zs_f0_0 hr1).2 (zs_f0_0 hr0).2 (by decide) ?_
  replace h := h _ rfl
  refine zi_aload_n (pc' := 17) rfl rfl rfl ?_
  refine zi_getr (pc' := 20) rfl rfl hr1 (zs_f0_1 hr1).1 rfl ?_
  refine zi_iconst (pc' := 21) rfl rfl ?_
  refine zi_aload_n (pc' := 22) rfl rfl rfl ?_
  refine zi_getr (pc' := 25) rfl rfl hr0 (zs_f0_1 hr0).1 rfl ?_
  refine zi_iconst (pc' := 26) rfl rfl ?_
  refine zi_sipush (pc' := 29) rfl rfl (by decide) ?_
  refine zi_copy (pc' := 32) rfl rfl (Nat.le_trans (by decide) hd) rfl (zs_f0_1 hr1).2 (zs_f0_1 hr0).2 (by decide) ?_
  replace h := h _ rfl
  refine zi_aload_n (pc' := 33) rfl rfl rfl ?_
  refine zi_getr (pc' := 36) rfl rfl hr1 (zs_f0_2 hr1).1 rfl ?_
  refine zi_iconst (pc' := 37) rfl rfl ?_
  refine zi_aload_n (pc' := 38) rfl rfl rfl ?_
  refine zi_getr (pc' := 41) rfl rfl hr0 (zs_f0_2 hr0).1 rfl ?_
  refine zi_iconst (pc' := 42) rfl rfl ?_
  refine zi_sipush (pc' := 45) rfl rfl (by decide) ?_
  refine zi_copy (pc' := 48) rfl rfl (Nat.le_trans (by decide) hd) rfl (zs_f0_2 hr1).2 (zs_f0_2 hr0).2 (by decide) ?_
  replace h := h _ rfl
  refine zi_aload_n (pc' := 49) rfl rfl rfl ?_
  refine zi_getr (pc' := 52) rfl rfl hr1 (zs_f0_3 hr1).1 rfl ?_
  refine zi_iconst (pc' := 53) rfl rfl ?_
  refine zi_aload_n (pc' := 54) rfl rfl rfl ?_
  refine zi_getr (pc' := 57) rfl rfl hr0 (zs_f0_3 hr0).1 rfl ?_
  refine zi_iconst (pc' := 58) rfl rfl ?_
  refine zi_sipush (pc' := 61) rfl rfl (by decide) ?_
  refine zi_copy (pc' := 64) rfl rfl (Nat.le_trans (by decide) hd) rfl (zs_f0_3 hr1).2 (zs_f0_3 hr0).2 (by decide) ?_
  replace h := h _ rfl
  exact zi_vret rfl rfl h
-- SpoutNews$Texts.copyFrom(LSpoutNews$Texts;)V
noncomputable def w_Texts_copyFrom (r0 : Nat) (r1 : Nat) (g : zi_M) (Q : Int → zi_M → Prop) : Prop := w_Law_copyFrom (r0 + 1) (r1 + 1) g (fun _ g2 => w_Texts_copyGutters r0 r1 g2 (fun _ g5 => w_Texts_copyWeather r0 r1 g5 (fun _ g8 => w_Texts_copyPlan r0 r1 g8 (fun _ g11 => Q 0 g11))))
set_option maxRecDepth 100000 in
theorem s_Texts_copyFrom {E : sx_E} {d : Nat} (hd : 2 ≤ d) {r0 : Nat} (hr0 : zs_sh r0 = some (6, 11)) {r1 : Nat} (hr1 : zs_sh r1 = some (6, 11)) {g : zi_M} {Q : Int → zi_M → Prop} (h : w_Texts_copyFrom r0 r1 g Q) : zi_S E d 185 [.ref r0, .ref r1] g (zi_Qv Q) := by
  refine zi_Sof jf_185 [some (.ref r0), some (.ref r1)] rfl (And.intro rfl (And.intro rfl trivial)) ?_
  unfold w_Texts_copyFrom at h
  refine zi_aload_n (pc' := 1) rfl rfl rfl ?_
  refine zi_getr (pc' := 4) rfl rfl hr0 (zs_f6_0 hr0).1 rfl ?_
  refine zi_aload_n (pc' := 5) rfl rfl rfl ?_
  refine zi_getr (pc' := 8) rfl rfl hr1 (zs_f6_0 hr1).1 rfl ?_
  refine zi_callV (d' := 1) (as := [_]) (pc' := 11) rfl rfl rfl (zs_f6_0 hr0).2 (Nat.lt_of_lt_of_le (by decide) hd) (s_Law_copyFrom (Nat.le_refl _) (zs_f6_0 hr0).2 (zs_f6_0 hr1).2 h) (zi_kv (fun g2 h => ?_))
  refine zi_aload_n (pc' := 12) rfl rfl rfl ?_
  refine zi_aload_n (pc' := 13) rfl rfl rfl ?_
  refine zi_callV (d' := 1) (as := [_]) (pc' := 16) rfl rfl rfl hr0 (Nat.lt_of_lt_of_le (by decide) hd) (s_Texts_copyGutters (Nat.le_refl _) hr0 hr1 h) (zi_kv (fun g5 h => ?_))
  refine zi_aload_n (pc' := 17) rfl rfl rfl ?_
  refine zi_aload_n (pc' := 18) rfl rfl rfl ?_
  refine zi_callV (d' := 1) (as := [_]) (pc' := 21) rfl rfl rfl hr0 (Nat.lt_of_lt_of_le (by decide) hd) (s_Texts_copyWeather (Nat.le_refl _) hr0 hr1 h) (zi_kv (fun g8 h => ?_))
  refine zi_aload_n (pc' := 22) rfl rfl rfl ?_
  refine zi_aload_n (pc' := 23) rfl rfl rfl ?_
  refine zi_callV (d' := 1) (as := [_]) (pc' := 26) rfl rfl rfl hr0 (Nat.lt_of_lt_of_le (by decide) hd) (s_Texts_copyPlan (Nat.le_refl _) hr0 hr1 h) (zi_kv (fun g11 h => ?_))
  exact zi_vret rfl rfl h
-- SpoutNews$Told.copyFrom(LSpoutNews$Told;)V
noncomputable def w_Told_copyFrom (r0 : Nat) (r1 : Nat) (g : zi_M) (Q : Int → zi_M → Prop) : Prop := (∀ g2, g2 = zi_cp g (r1 + 1) 0 (r0 + 1) 0 12 → (∀ g4, g4 = zi_cp g2 (r1 + 2) 0 (r0 + 2) 0 12 → (∀ g5, g5 = zi_u g4 r0 2 (g4 r1 2) → (∀ g7, g7 = zi_cp g5 (r1 + 3) 0 (r0 + 3) 0 14 → (∀ g9, g9 = zi_cp g7 (r1 + 4) 0 (r0 + 4) 0 14 → (∀ g10, g10 = zi_u g9 r0 5 (g9 r1 5) → (∀ g12, g12 = zi_cp g10 (r1 + 5) 0 (r0 + 5) 0 16 → (∀ g14, g14 = zi_cp g12 (r1 + 6) 0 (r0 + 6) 0 16 → (∀ g16, g16 = zi_cp g14 (r1 + 7) 0 (r0 + 7) 0 16 → (∀ g18, g18 = zi_cp g16 (r1 + 8) 0 (r0 + 8) 0 40 → (∀ g19, g19 = zi_u g18 r0 10 (g18 r1 10) → (∀ g21, g21 = zi_cp g19 (r1 + 9) 0 (r0 + 9) 0 12 → (∀ g22, g22 = zi_u g21 r0 12 (g21 r1 12) → Q 0 g22)))))))))))))
set_option maxRecDepth 100000 in
theorem s_Told_copyFrom {E : sx_E} {d : Nat} (hd : 1 ≤ d) {r0 : Nat} (hr0 : zs_sh r0 = some (9, 13)) {r1 : Nat} (hr1 : zs_sh r1 = some (9, 13)) {g : zi_M} {Q : Int → zi_M → Prop} (h : w_Told_copyFrom r0 r1 g Q) : zi_S E d 186 [.ref r0, .ref r1] g (zi_Qv Q) := by
  refine zi_Sof jf_186 [some (.ref r0), some (.ref r1)] rfl (And.intro rfl (And.intro rfl trivial)) ?_
  unfold w_Told_copyFrom at h
  refine zi_aload_n (pc' := 1) rfl rfl rfl ?_
  refine zi_getr (pc' := 4) rfl rfl hr1 (zs_f9_0 hr1).1 rfl ?_
  refine zi_iconst (pc' := 5) rfl rfl ?_
  refine zi_aload_n (pc' := 6) rfl rfl rfl ?_
  refine zi_getr (pc' := 9) rfl rfl hr0 (zs_f9_0 hr0).1 rfl ?_
  refine zi_iconst (pc' := 10) rfl rfl ?_
  refine zi_bipush (pc' := 12) rfl rfl (by decide) ?_
  refine zi_copy (pc' := 15) rfl rfl (Nat.le_trans (by decide) hd) rfl (zs_f9_0 hr1).2 (zs_f9_0 hr0).2 (by decide) ?_
  replace h := h _ rfl
  refine zi_aload_n (pc' := 16) rfl rfl rfl ?_
  refine zi_getr (pc' := 19) rfl rfl hr1 (zs_f9_1 hr1).1 rfl ?_
  refine zi_iconst (pc' := 20) rfl rfl ?_
  refine zi_aload_n (pc' := 21) rfl rfl rfl ?_
  refine zi_getr (pc' := 24) rfl rfl hr0 (zs_f9_1 hr0).1 rfl ?_
  refine zi_iconst (pc' := 25) rfl rfl ?_
  refine zi_bipush (pc' := 27) rfl rfl (by decide) ?_
  refine zi_copy (pc' := 30) rfl rfl (Nat.le_trans (by decide) hd) rfl (zs_f9_1 hr1).2 (zs_f9_1 hr0).2 (by decide) ?_
  replace h := h _ rfl
  refine zi_aload_n (pc' := 31) rfl rfl rfl ?_
  refine zi_aload_n (pc' := 32) rfl rfl rfl ?_
  refine zi_geti (pc' := 35) 2 rfl rfl rfl hr1 rfl rfl ?_
  refine zi_puti (pc' := 38) 2 rfl rfl rfl hr0 rfl  ?_
  replace h := h _ rfl
  refine zi_aload_n (pc' := 39) rfl rfl rfl ?_
  refine zi_getr (pc' := 42) rfl rfl hr1 (zs_f9_3 hr1).1 rfl ?_
  refine zi_iconst (pc' := 43) rfl rfl ?_
  refine zi_aload_n (pc' := 44) rfl rfl rfl ?_
  refine zi_getr (pc' := 47) rfl rfl hr0 (zs_f9_3 hr0).1 rfl ?_
  refine zi_iconst (pc' := 48) rfl rfl ?_
  refine zi_bipush (pc' := 50) rfl rfl (by decide) ?_
  refine zi_copy (pc' := 53) rfl rfl (Nat.le_trans (by decide) hd) rfl (zs_f9_3 hr1).2 (zs_f9_3 hr0).2 (by decide) ?_
  replace h := h _ rfl
  refine zi_aload_n (pc' := 54) rfl rfl rfl ?_
  refine zi_getr (pc' := 57) rfl rfl hr1 (zs_f9_4 hr1).1 rfl ?_
  refine zi_iconst (pc' := 58) rfl rfl ?_
  refine zi_aload_n (pc' := 59) rfl rfl rfl ?_
  refine zi_getr (pc' := 62) rfl rfl hr0 (zs_f9_4 hr0).1 rfl ?_
  refine zi_iconst (pc' := 63) rfl rfl ?_
  refine zi_bipush (pc' := 65) rfl rfl (by decide) ?_
  refine zi_copy (pc' := 68) rfl rfl (Nat.le_trans (by decide) hd) rfl (zs_f9_4 hr1).2 (zs_f9_4 hr0).2 (by decide) ?_
  replace h := h _ rfl
  refine zi_aload_n (pc' := 69) rfl rfl rfl ?_
  refine zi_aload_n (pc' := 70) rfl rfl rfl ?_
  refine zi_geti (pc' := 73) 5 rfl rfl rfl hr1 rfl rfl ?_
  refine zi_puti (pc' := 76) 5 rfl rfl rfl hr0 rfl  ?_
  replace h := h _ rfl
  refine zi_aload_n (pc' := 77) rfl rfl rfl ?_
  refine zi_getr (pc' := 80) rfl rfl hr1 (zs_f9_6 hr1).1 rfl ?_
  refine zi_iconst (pc' := 81) rfl rfl ?_
  refine zi_aload_n (pc' := 82) rfl rfl rfl ?_
  refine zi_getr (pc' := 85) rfl rfl hr0 (zs_f9_6 hr0).1 rfl ?_
  refine zi_iconst (pc' := 86) rfl rfl ?_
  refine zi_bipush (pc' := 88) rfl rfl (by decide) ?_
  refine zi_copy (pc' := 91) rfl rfl (Nat.le_trans (by decide) hd) rfl (zs_f9_6 hr1).2 (zs_f9_6 hr0).2 (by decide) ?_
  replace h := h _ rfl
  refine zi_aload_n (pc' := 92) rfl rfl rfl ?_
  refine zi_getr (pc' := 95) rfl rfl hr1 (zs_f9_7 hr1).1 rfl ?_
  refine zi_iconst (pc' := 96) rfl rfl ?_
  refine zi_aload_n (pc' := 97) rfl rfl rfl ?_
  refine zi_getr (pc' := 100) rfl rfl hr0 (zs_f9_7 hr0).1 rfl ?_
  refine zi_iconst (pc' := 101) rfl rfl ?_
  refine zi_bipush (pc' := 103) rfl rfl (by decide) ?_
  refine zi_copy (pc' := 106) rfl rfl (Nat.le_trans (by decide) hd) rfl (zs_f9_7 hr1).2 (zs_f9_7 hr0).2 (by decide) ?_
  replace h := h _ rfl
  refine zi_aload_n (pc' := 107) rfl rfl rfl ?_
  refine zi_getr (pc' := 110) rfl rfl hr1 (zs_f9_8 hr1).1 rfl ?_
  refine zi_iconst (pc' := 111) rfl rfl ?_
  refine zi_aload_n (pc' := 112) rfl rfl rfl ?_
  refine zi_getr (pc' := 115) rfl rfl hr0 (zs_f9_8 hr0).1 rfl ?_
  refine zi_iconst (pc' := 116) rfl rfl ?_
  refine zi_bipush (pc' := 118) rfl rfl (by decide) ?_
  refine zi_copy (pc' := 121) rfl rfl (Nat.le_trans (by decide) hd) rfl (zs_f9_8 hr1).2 (zs_f9_8 hr0).2 (by decide) ?_
  replace h := h _ rfl
  refine zi_aload_n (pc' := 122) rfl rfl rfl ?_
  refine zi_getr (pc' := 125) rfl rfl hr1 (zs_f9_9 hr1).1 rfl ?_
  refine zi_iconst (pc' := 126) rfl rfl ?_
  refine zi_aload_n (pc' := 127) rfl rfl rfl ?_
  refine zi_getr (pc' := 130) rfl rfl hr0 (zs_f9_9 hr0).1 rfl ?_
  refine zi_iconst (pc' := 131) rfl rfl ?_
  refine zi_bipush (pc' := 133) rfl rfl (by decide) ?_
  refine zi_copy (pc' := 136) rfl rfl (Nat.le_trans (by decide) hd) rfl (zs_f9_9 hr1).2 (zs_f9_9 hr0).2 (by decide) ?_
  replace h := h _ rfl
  refine zi_aload_n (pc' := 137) rfl rfl rfl ?_
  refine zi_aload_n (pc' := 138) rfl rfl rfl ?_
  refine zi_geti (pc' := 141) 10 rfl rfl rfl hr1 rfl rfl ?_
  refine zi_puti (pc' := 144) 10 rfl rfl rfl hr0 rfl  ?_
  replace h := h _ rfl
  refine zi_aload_n (pc' := 145) rfl rfl rfl ?_
  refine zi_getr (pc' := 148) rfl rfl hr1 (zs_f9_11 hr1).1 rfl ?_
  refine zi_iconst (pc' := 149) rfl rfl ?_
  refine zi_aload_n (pc' := 150) rfl rfl rfl ?_
  refine zi_getr (pc' := 153) rfl rfl hr0 (zs_f9_11 hr0).1 rfl ?_
  refine zi_iconst (pc' := 154) rfl rfl ?_
  refine zi_bipush (pc' := 156) rfl rfl (by decide) ?_
  refine zi_copy (pc' := 159) rfl rfl (Nat.le_trans (by decide) hd) rfl (zs_f9_11 hr1).2 (zs_f9_11 hr0).2 (by decide) ?_
  replace h := h _ rfl
  refine zi_aload_n (pc' := 160) rfl rfl rfl ?_
  refine zi_aload_n (pc' := 161) rfl rfl rfl ?_
  refine zi_geti (pc' := 164) 12 rfl rfl rfl hr1 rfl rfl ?_
  refine zi_puti (pc' := 167) 12 rfl rfl rfl hr0 rfl  ?_
  replace h := h _ rfl
  exact zi_vret rfl rfl h
-- SpoutNews$Cathedral.copyFrom(LSpoutNews$Cathedral;)V
noncomputable def w_Cathedral_copyFrom (r0 : Nat) (r1 : Nat) (g : zi_M) (Q : Int → zi_M → Prop) : Prop := w_World_copyFrom (r0 + 1) (r1 + 1) g (fun _ g2 => w_Book_copyFrom (r0 + 13) (r1 + 13) g2 (fun _ g5 => w_Texts_copyFrom (r0 + 18) (r1 + 18) g5 (fun _ g8 => w_Told_copyFrom (r0 + 35) (r1 + 35) g8 (fun _ g11 => Q 0 g11))))
set_option maxRecDepth 100000 in
theorem s_Cathedral_copyFrom {E : sx_E} {d : Nat} (hd : 3 ≤ d) {r0 : Nat} (hr0 : zs_sh r0 = some (1, 4)) {r1 : Nat} (hr1 : zs_sh r1 = some (1, 4)) {g : zi_M} {Q : Int → zi_M → Prop} (h : w_Cathedral_copyFrom r0 r1 g Q) : zi_S E d 183 [.ref r0, .ref r1] g (zi_Qv Q) := by
  refine zi_Sof jf_183 [some (.ref r0), some (.ref r1)] rfl (And.intro rfl (And.intro rfl trivial)) ?_
  unfold w_Cathedral_copyFrom at h
  refine zi_aload_n (pc' := 1) rfl rfl rfl ?_
  refine zi_getr (pc' := 4) rfl rfl hr0 (zs_f1_0 hr0).1 rfl ?_
  refine zi_aload_n (pc' := 5) rfl rfl rfl ?_
  refine zi_getr (pc' := 8) rfl rfl hr1 (zs_f1_0 hr1).1 rfl ?_
  refine zi_callV (d' := 1) (as := [_]) (pc' := 11) rfl rfl rfl (zs_f1_0 hr0).2 (Nat.lt_of_lt_of_le (by decide) hd) (s_World_copyFrom (Nat.le_refl _) (zs_f1_0 hr0).2 (zs_f1_0 hr1).2 h) (zi_kv (fun g2 h => ?_))
  refine zi_aload_n (pc' := 12) rfl rfl rfl ?_
  refine zi_getr (pc' := 15) rfl rfl hr0 (zs_f1_1 hr0).1 rfl ?_
  refine zi_aload_n (pc' := 16) rfl rfl rfl ?_
  refine zi_getr (pc' := 19) rfl rfl hr1 (zs_f1_1 hr1).1 rfl ?_
  refine zi_callV (d' := 1) (as := [_]) (pc' := 22) rfl rfl rfl (zs_f1_1 hr0).2 (Nat.lt_of_lt_of_le (by decide) hd) (s_Book_copyFrom (Nat.le_refl _) (zs_f1_1 hr0).2 (zs_f1_1 hr1).2 h) (zi_kv (fun g5 h => ?_))
  refine zi_aload_n (pc' := 23) rfl rfl rfl ?_
  refine zi_getr (pc' := 26) rfl rfl hr0 (zs_f1_2 hr0).1 rfl ?_
  refine zi_aload_n (pc' := 27) rfl rfl rfl ?_
  refine zi_getr (pc' := 30) rfl rfl hr1 (zs_f1_2 hr1).1 rfl ?_
  refine zi_callV (d' := 2) (as := [_]) (pc' := 33) rfl rfl rfl (zs_f1_2 hr0).2 (Nat.lt_of_lt_of_le (by decide) hd) (s_Texts_copyFrom (Nat.le_refl _) (zs_f1_2 hr0).2 (zs_f1_2 hr1).2 h) (zi_kv (fun g8 h => ?_))
  refine zi_aload_n (pc' := 34) rfl rfl rfl ?_
  refine zi_getr (pc' := 37) rfl rfl hr0 (zs_f1_3 hr0).1 rfl ?_
  refine zi_aload_n (pc' := 38) rfl rfl rfl ?_
  refine zi_getr (pc' := 41) rfl rfl hr1 (zs_f1_3 hr1).1 rfl ?_
  refine zi_callV (d' := 1) (as := [_]) (pc' := 44) rfl rfl rfl (zs_f1_3 hr0).2 (Nat.lt_of_lt_of_le (by decide) hd) (s_Told_copyFrom (Nat.le_refl _) (zs_f1_3 hr0).2 (zs_f1_3 hr1).2 h) (zi_kv (fun g11 h => ?_))
  exact zi_vret rfl rfl h
-- SpoutNews.image(Z)Z
noncomputable def w_S_image (l1 : Int) (g : zi_M) (Q : Int → zi_M → Prop) : Prop := (zi_r l1 ∧ ((l1 = 0 → (zi_r (g 0 2) ∧ ((¬ (g 0 2) = 0 → w_Cathedral_copyFrom 1 46 g (fun _ g4 => w_Past_forget g4 (fun _ g7 => Q 1 g7))) ∧ ((g 0 2) = 0 → Q 0 g)))) ∧ (¬ l1 = 0 → w_Cathedral_copyFrom 46 1 g (fun _ g11 => (∀ g13, g13 = zi_u g11 0 2 1 → Q 1 g13)))))
set_option maxRecDepth 100000 in
theorem s_S_image {E : sx_E} {d : Nat} (hd : 4 ≤ d) {l1 : Int} {g : zi_M} {Q : Int → zi_M → Prop} (h : w_S_image l1 g Q) : zi_S E d 182 [.ref 0, zi_i l1] g (zi_Qb Q) := by
  refine zi_Sof jf_182 [some (.ref 0), some (zi_i l1)] rfl (And.intro rfl (And.intro rfl trivial)) ?_
  unfold w_S_image at h
  refine zi_iload_n (pc' := 1) rfl rfl rfl ?_
  obtain ⟨o1, h⟩ := h
  refine zi_if_eq (x := 22) (pc' := 4) rfl rfl o1  (fun c14 => ?_) (fun c14 => ?_)
  · replace h := h.1 c14
    refine zi_aload_n (pc' := 23) rfl rfl rfl ?_
    refine zi_geti (pc' := 26) 2 rfl rfl rfl rfl rfl rfl ?_
    obtain ⟨o2, h⟩ := h
    refine zi_if_ne (x := 31) (pc' := 29) rfl rfl o2  (fun c9 => ?_) (fun c9 => ?_)
    · replace h := h.1 c9
      refine zi_aload_n (pc' := 32) rfl rfl rfl ?_
      refine zi_getr (pc' := 35) rfl rfl rfl rfl rfl ?_
      refine zi_aload_n (pc' := 36) rfl rfl rfl ?_
      refine zi_getr (pc' := 39) rfl rfl rfl rfl rfl ?_
      refine zi_callV (d' := 3) (as := [_]) (pc' := 42) rfl rfl rfl rfl (Nat.lt_of_lt_of_le (by decide) hd) (s_Cathedral_copyFrom (Nat.le_refl _) rfl rfl h) (zi_kv (fun g4 h => ?_))
      refine zi_aload_n (pc' := 43) rfl rfl rfl ?_
      refine zi_getr (pc' := 46) rfl rfl rfl rfl rfl ?_
      refine zi_callV (d' := 1) (as := []) (pc' := 49) rfl rfl rfl rfl (Nat.lt_of_lt_of_le (by decide) hd) (s_Past_forget (Nat.le_refl _) h) (zi_kv (fun g7 h => ?_))
      refine zi_iconst (pc' := 50) rfl rfl ?_
      exact zi_zret rfl rfl (Or.inr rfl) h
    · replace h := h.2 c9
      refine zi_iconst (pc' := 30) rfl rfl ?_
      exact zi_zret rfl rfl (Or.inl rfl) h
  · replace h := h.2 c14
    refine zi_aload_n (pc' := 5) rfl rfl rfl ?_
    refine zi_getr (pc' := 8) rfl rfl rfl rfl rfl ?_
    refine zi_aload_n (pc' := 9) rfl rfl rfl ?_
    refine zi_getr (pc' := 12) rfl rfl rfl rfl rfl ?_
    refine zi_callV (d' := 3) (as := [_]) (pc' := 15) rfl rfl rfl rfl (Nat.lt_of_lt_of_le (by decide) hd) (s_Cathedral_copyFrom (Nat.le_refl _) rfl rfl h) (zi_kv (fun g11 h => ?_))
    refine zi_aload_n (pc' := 16) rfl rfl rfl ?_
    refine zi_iconst (pc' := 17) rfl rfl ?_
    refine zi_putz (pc' := 20) 2 rfl rfl rfl rfl rfl (Or.inr rfl) ?_
    replace h := h _ rfl
    refine zi_iconst (pc' := 21) rfl rfl ?_
    exact zi_zret rfl rfl (Or.inr rfl) h
-- SpoutNewsModel.keepsOne(I)I
noncomputable def w_M_keepsOne (l1 : Int) (g : zi_M) (Q : Int → zi_M → Prop) : Prop := (∀ g1, g1 = zi_u g 214 63 ((g 214 63) + 1) → (zi_r (g1 214 61) ∧ ((¬ (g1 214 61) = 0 → ((0 ≤ ((g1 214 63) - 1) ∧ ((g1 214 63) - 1) < 2300) ∧ (∀ g4, g4 = zi_u g1 250 ((g1 214 63) - 1) l1 → Q l1 g4))) ∧ ((g1 214 61) = 0 → ((0 ≤ ((g1 214 63) - 1) ∧ ((g1 214 63) - 1) < 2300) ∧ Q (g1 250 ((g1 214 63) - 1)) g1)))))
set_option maxRecDepth 100000 in
theorem s_M_keepsOne {E : sx_E} {d : Nat} (hd : 1 ≤ d) {l1 : Int} {g : zi_M} {Q : Int → zi_M → Prop} (h : w_M_keepsOne l1 g Q) : zi_S E d 321 [.ref 214, zi_i l1] g (zi_Q Q) := by
  refine zi_Sof jf_321 [some (.ref 214), some (zi_i l1)] rfl (And.intro rfl (And.intro rfl trivial)) ?_
  unfold w_M_keepsOne at h
  refine zi_aload_n (pc' := 1) rfl rfl rfl ?_
  refine zi_aload_n (pc' := 2) rfl rfl rfl ?_
  refine zi_geti (pc' := 5) 63 rfl rfl rfl rfl rfl rfl ?_
  refine zi_iconst (pc' := 6) rfl rfl ?_
  refine zi_iadd (pc' := 7) rfl rfl ?_
  refine zi_puti (pc' := 10) 63 rfl rfl rfl rfl rfl  ?_
  replace h := h _ rfl
  refine zi_aload_n (pc' := 11) rfl rfl rfl ?_
  refine zi_geti (pc' := 14) 61 rfl rfl rfl rfl rfl rfl ?_
  obtain ⟨o2, h⟩ := h
  refine zi_if_ne (x := 29) (pc' := 17) rfl rfl o2  (fun c6 => ?_) (fun c6 => ?_)
  · replace h := h.1 c6
    refine zi_aload_n (pc' := 30) rfl rfl rfl ?_
    refine zi_getr (pc' := 33) rfl rfl rfl rfl rfl ?_
    refine zi_aload_n (pc' := 34) rfl rfl rfl ?_
    refine zi_geti (pc' := 37) 63 rfl rfl rfl rfl rfl rfl ?_
    refine zi_iconst (pc' := 38) rfl rfl ?_
    refine zi_isub (pc' := 39) rfl rfl ?_
    refine zi_iload_n (pc' := 40) rfl rfl rfl ?_
    obtain ⟨o3, h⟩ := h
    refine zi_iast (pc' := 41) rfl rfl rfl o3 ?_
    replace h := h _ rfl
    refine zi_iload_n (pc' := 42) rfl rfl rfl ?_
    exact zi_iret rfl rfl h
  · replace h := h.2 c6
    refine zi_aload_n (pc' := 18) rfl rfl rfl ?_
    refine zi_getr (pc' := 21) rfl rfl rfl rfl rfl ?_
    refine zi_aload_n (pc' := 22) rfl rfl rfl ?_
    refine zi_geti (pc' := 25) 63 rfl rfl rfl rfl rfl rfl ?_
    refine zi_iconst (pc' := 26) rfl rfl ?_
    refine zi_isub (pc' := 27) rfl rfl ?_
    obtain ⟨o5, h⟩ := h
    refine zi_iald (pc' := 28) rfl rfl rfl o5 ?_
    exact zi_iret rfl rfl h
-- SpoutNewsModel.keepsMany()V
noncomputable def w_M_keepsMany (g : zi_M) (Q : Int → zi_M → Prop) : Prop := w_M_keepsOne (g 214 6) g (fun v1 g2 => (∀ g4, g4 = zi_u g2 214 6 v1 → w_M_keepsOne (g4 214 7) g4 (fun v5 g6 => (∀ g8, g8 = zi_u g6 214 7 v5 → w_M_keepsOne (g8 214 35) g8 (fun v9 g10 => (∀ g12, g12 = zi_u g10 214 35 v9 → w_M_keepsOne (g12 214 37) g12 (fun v13 g14 => (∀ g16, g16 = zi_u g14 214 37 v13 → w_M_keepsOne (g16 214 39) g16 (fun v17 g18 => (∀ g20, g20 = zi_u g18 214 39 v17 → w_M_keepsOne (g20 214 46) g20 (fun v21 g22 => (∀ g24, g24 = zi_u g22 214 46 v21 → w_M_keepsOne (g24 214 50) g24 (fun v25 g26 => (∀ g28, g28 = zi_u g26 214 50 v25 → w_M_keepsOne (g28 214 56) g28 (fun v29 g30 => (∀ g32, g32 = zi_u g30 214 56 v29 → w_M_keepsOne (g32 214 58) g32 (fun v33 g34 => (∀ g36, g36 = zi_u g34 214 58 v33 → Q 0 g36))))))))))))))))))
set_option maxRecDepth 100000 in
theorem s_M_keepsMany {E : sx_E} {d : Nat} (hd : 2 ≤ d) {g : zi_M} {Q : Int → zi_M → Prop} (h : w_M_keepsMany g Q) : zi_S E d 322 [.ref 214] g (zi_Qv Q) := by
  refine zi_Sof jf_322 [some (.ref 214)] rfl (And.intro rfl trivial) ?_
  unfold w_M_keepsMany at h
  refine zi_aload_n (pc' := 1) rfl rfl rfl ?_
  refine zi_aload_n (pc' := 2) rfl rfl rfl ?_
  refine zi_aload_n (pc' := 3) rfl rfl rfl ?_
  refine zi_geti (pc' := 6) 6 rfl rfl rfl rfl rfl rfl ?_
  refine zi_callV (d' := 1) (as := [_]) (pc' := 9) rfl rfl rfl rfl (Nat.lt_of_lt_of_le (by decide) hd) (s_M_keepsOne (Nat.le_refl _) h) (zi_ki (fun v1 g2 h => ?_))
  refine zi_puti (pc' := 12) 6 rfl rfl rfl rfl rfl  ?_
  replace h := h _ rfl
  refine zi_aload_n (pc' := 13) rfl rfl rfl ?_
  refine zi_aload_n (pc' := 14) rfl rfl rfl ?_
  refine zi_aload_n (pc' := 15) rfl rfl rfl ?_
  refine zi_geti (pc' := 18) 7 rfl rfl rfl rfl rfl rfl ?_
  refine zi_callV (d' := 1) (as := [_]) (pc' := 21) rfl rfl rfl rfl (Nat.lt_of_lt_of_le (by decide) hd) (s_M_keepsOne (Nat.le_refl _) h) (zi_ki (fun v5 g6 h => ?_))
  refine zi_puti (pc' := 24) 7 rfl rfl rfl rfl rfl  ?_
  replace h := h _ rfl
  refine zi_aload_n (pc' := 25) rfl rfl rfl ?_
  refine zi_aload_n (pc' := 26) rfl rfl rfl ?_
  refine zi_aload_n (pc' := 27) rfl rfl rfl ?_
  refine zi_geti (pc' := 30) 35 rfl rfl rfl rfl rfl rfl ?_
  refine zi_callV (d' := 1) (as := [_]) (pc' := 33) rfl rfl rfl rfl (Nat.lt_of_lt_of_le (by decide) hd) (s_M_keepsOne (Nat.le_refl _) h) (zi_ki (fun v9 g10 h => ?_))
  refine zi_puti (pc' := 36) 35 rfl rfl rfl rfl rfl  ?_
  replace h := h _ rfl
  refine zi_aload_n (pc' := 37) rfl rfl rfl ?_
  refine zi_aload_n (pc' := 38) rfl rfl rfl ?_
  refine zi_aload_n (pc' := 39) rfl rfl rfl ?_
  refine zi_geti (pc' := 42) 37 rfl rfl rfl rfl rfl rfl ?_
  refine zi_callV (d' := 1) (as := [_]) (pc' := 45) rfl rfl rfl rfl (Nat.lt_of_lt_of_le (by decide) hd) (s_M_keepsOne (Nat.le_refl _) h) (zi_ki (fun v13 g14 h => ?_))
  refine zi_puti (pc' := 48) 37 rfl rfl rfl rfl rfl  ?_
  replace h := h _ rfl
  refine zi_aload_n (pc' := 49) rfl rfl rfl ?_
  refine zi_aload_n (pc' := 50) rfl rfl rfl ?_
  refine zi_aload_n (pc' := 51) rfl rfl rfl ?_
  refine zi_geti (pc' := 54) 39 rfl rfl rfl rfl rfl rfl ?_
  refine zi_callV (d' := 1) (as := [_]) (pc' := 57) rfl rfl rfl rfl (Nat.lt_of_lt_of_le (by decide) hd) (s_M_keepsOne (Nat.le_refl _) h) (zi_ki (fun v17 g18 h => ?_))
  refine zi_puti (pc' := 60) 39 rfl rfl rfl rfl rfl  ?_
  replace h := h _ rfl
  refine zi_aload_n (pc' := 61) rfl rfl rfl ?_
  refine zi_aload_n (pc' := 62) rfl rfl rfl ?_
  refine zi_aload_n (pc' := 63) rfl rfl rfl ?_
  refine zi_geti (pc' := 66) 46 rfl rfl rfl rfl rfl rfl ?_
  refine zi_callV (d' := 1) (as := [_]) (pc' := 69) rfl rfl rfl rfl (Nat.lt_of_lt_of_le (by decide) hd) (s_M_keepsOne (Nat.le_refl _) h) (zi_ki (fun v21 g22 h => ?_))
  refine zi_puti (pc' := 72) 46 rfl rfl rfl rfl rfl  ?_
  replace h := h _ rfl
  refine zi_aload_n (pc' := 73) rfl rfl rfl ?_
  refine zi_aload_n (pc' := 74) rfl rfl rfl ?_
  refine zi_aload_n (pc' := 75) rfl rfl rfl ?_
  refine zi_geti (pc' := 78) 50 rfl rfl rfl rfl rfl rfl ?_
  refine zi_callV (d' := 1) (as := [_]) (pc' := 81) rfl rfl rfl rfl (Nat.lt_of_lt_of_le (by decide) hd) (s_M_keepsOne (Nat.le_refl _) h) (zi_ki (fun v25 g26 h => ?_))
  refine zi_puti (pc' := 84) 50 rfl rfl rfl rfl rfl  ?_
  replace h := h _ rfl
  refine zi_aload_n (pc' := 85) rfl rfl rfl ?_
  refine zi_aload_n (pc' := 86) rfl rfl rfl ?_
  refine zi_aload_n (pc' := 87) rfl rfl rfl ?_
  refine zi_geti (pc' := 90) 56 rfl rfl rfl rfl rfl rfl ?_
  refine zi_callV (d' := 1) (as := [_]) (pc' := 93) rfl rfl rfl rfl (Nat.lt_of_lt_of_le (by decide) hd) (s_M_keepsOne (Nat.le_refl _) h) (zi_ki (fun v29 g30 h => ?_))
  refine zi_puti (pc' := 96) 56 rfl rfl rfl rfl rfl  ?_
  replace h := h _ rfl
  refine zi_aload_n (pc' := 97) rfl rfl rfl ?_
  refine zi_aload_n (pc' := 98) rfl rfl rfl ?_
  refine zi_aload_n (pc' := 99) rfl rfl rfl ?_
  refine zi_geti (pc' := 102) 58 rfl rfl rfl rfl rfl rfl ?_
  refine zi_callV (d' := 1) (as := [_]) (pc' := 105) rfl rfl rfl rfl (Nat.lt_of_lt_of_le (by decide) hd) (s_M_keepsOne (Nat.le_refl _) h) (zi_ki (fun v33 g34 h => ?_))
  refine zi_puti (pc' := 108) 58 rfl rfl rfl rfl rfl  ?_
  replace h := h _ rfl
  exact zi_vret rfl rfl h
-- SpoutNewsModel.keepsTold()V
noncomputable def w_M_keepsTold_l2 (K94 : zi_M → Prop) (Q : Int → zi_M → Prop) : Nat → Int → zi_M → Prop
  | 0, _, _ => False
  | f + 1, l1, g => (zi_r l1 ∧ ((10 ≤ l1 → K94 g) ∧ (l1 < 10 → ((0 ≤ l1 ∧ l1 < 10) ∧ w_M_keepsOne (g 218 l1) g (fun v3 g4 => (∀ g6, g6 = zi_u g4 218 l1 v3 → w_M_keepsOne (g6 219 l1) g6 (fun v7 g8 => (∀ g10, g10 = zi_u g8 219 l1 v7 → w_M_keepsOne (g10 220 l1) g10 (fun v11 g12 => (∀ g14, g14 = zi_u g12 220 l1 v11 → ((0 ≤ l1 ∧ l1 < 20) ∧ w_M_keepsOne (g14 232 l1) g14 (fun v16 g17 => (∀ g19, g19 = zi_u g17 232 l1 v16 → w_M_keepsOne (g19 242 l1) g19 (fun v20 g21 => (∀ g23, g23 = zi_u g21 242 l1 v20 → w_M_keepsTold_l2 K94 Q f (l1 + 1) g23)))))))))))))))
noncomputable def w_M_keepsTold_l96 (K124 : zi_M → Prop) (Q : Int → zi_M → Prop) : Nat → Int → zi_M → Prop
  | 0, _, _ => False
  | f + 1, l1, g => (zi_r l1 ∧ ((8 ≤ l1 → K124 g) ∧ (l1 < 8 → ((0 ≤ l1 ∧ l1 < 8) ∧ w_M_keepsOne (g 239 l1) g (fun v28 g29 => (∀ g31, g31 = zi_u g29 239 l1 v28 → w_M_keepsTold_l96 K124 Q f (l1 + 1) g31))))))
noncomputable def w_M_keepsTold_l126 (K170 : zi_M → Prop) (Q : Int → zi_M → Prop) : Nat → Int → zi_M → Prop
  | 0, _, _ => False
  | f + 1, l1, g => (zi_r l1 ∧ ((12 ≤ l1 → K170 g) ∧ (l1 < 12 → ((0 ≤ l1 ∧ l1 < 12) ∧ w_M_keepsOne (g 240 l1) g (fun v36 g37 => (∀ g39, g39 = zi_u g37 240 l1 v36 → w_M_keepsOne (g39 248 l1) g39 (fun v40 g41 => (∀ g43, g43 = zi_u g41 248 l1 v40 → w_M_keepsTold_l126 K170 Q f (l1 + 1) g43))))))))
noncomputable def w_M_keepsTold_l172 (K200 : zi_M → Prop) (Q : Int → zi_M → Prop) : Nat → Int → zi_M → Prop
  | 0, _, _ => False
  | f + 1, l1, g => (zi_r l1 ∧ ((16 ≤ l1 → K200 g) ∧ (l1 < 16 → ((0 ≤ l1 ∧ l1 < 16) ∧ w_M_keepsOne (g 243 l1) g (fun v48 g49 => (∀ g51, g51 = zi_u g49 243 l1 v48 → w_M_keepsTold_l172 K200 Q f (l1 + 1) g51))))))
noncomputable def w_M_keepsTold_l202 (K230 : zi_M → Prop) (Q : Int → zi_M → Prop) : Nat → Int → zi_M → Prop
  | 0, _, _ => False
  | f + 1, l1, g => (zi_r l1 ∧ ((32 ≤ l1 → K230 g) ∧ (l1 < 32 → ((0 ≤ l1 ∧ l1 < 32) ∧ w_M_keepsOne (g 244 l1) g (fun v56 g57 => (∀ g59, g59 = zi_u g57 244 l1 v56 → w_M_keepsTold_l202 K230 Q f (l1 + 1) g59))))))
noncomputable def w_M_keepsTold_l232 (K260 : zi_M → Prop) (Q : Int → zi_M → Prop) : Nat → Int → zi_M → Prop
  | 0, _, _ => False
  | f + 1, l1, g => (zi_r l1 ∧ ((40 ≤ l1 → K260 g) ∧ (l1 < 40 → ((0 ≤ l1 ∧ l1 < 40) ∧ w_M_keepsOne (g 247 l1) g (fun v64 g65 => (∀ g67, g67 = zi_u g65 247 l1 v64 → w_M_keepsTold_l232 K260 Q f (l1 + 1) g67))))))
noncomputable def w_M_keepsTold_l262 (K290 : zi_M → Prop) (Q : Int → zi_M → Prop) : Nat → Int → zi_M → Prop
  | 0, _, _ => False
  | f + 1, l1, g => (zi_r l1 ∧ ((32 ≤ l1 → K290 g) ∧ (l1 < 32 → ((0 ≤ l1 ∧ l1 < 64) ∧ w_M_keepsOne (g 233 l1) g (fun v72 g73 => (∀ g75, g75 = zi_u g73 233 l1 v72 → w_M_keepsTold_l262 K290 Q f (l1 + 1) g75))))))
noncomputable def w_M_keepsTold_l292 (K320 : zi_M → Prop) (Q : Int → zi_M → Prop) : Nat → Int → zi_M → Prop
  | 0, _, _ => False
  | f + 1, l1, g => (zi_r l1 ∧ ((64 ≤ l1 → K320 g) ∧ (l1 < 64 → ((0 ≤ l1 ∧ l1 < 128) ∧ w_M_keepsOne (g 234 l1) g (fun v80 g81 => (∀ g83, g83 = zi_u g81 234 l1 v80 → w_M_keepsTold_l292 K320 Q f (l1 + 1) g83))))))
noncomputable def w_M_keepsTold (g : zi_M) (Q : Int → zi_M → Prop) : Prop := (∃ f93, w_M_keepsTold_l2 (fun g25 => (∃ f92, w_M_keepsTold_l96 (fun g33 => (∃ f91, w_M_keepsTold_l126 (fun g45 => (∃ f90, w_M_keepsTold_l172 (fun g53 => (∃ f89, w_M_keepsTold_l202 (fun g61 => (∃ f88, w_M_keepsTold_l232 (fun g69 => (∃ f87, w_M_keepsTold_l262 (fun g77 => (∃ f86, w_M_keepsTold_l292 (fun g85 => Q 0 g85) Q f86 0 g77)) Q f87 0 g69)) Q f88 0 g61)) Q f89 0 g53)) Q f90 0 g45)) Q f91 0 g33)) Q f92 0 g25)) Q f93 0 g)
set_option maxRecDepth 100000 in
theorem s_M_keepsTold_l2_r {E : sx_E} {d : Nat} (hd : 2 ≤ d) {K94 : zi_M → Prop} {Q : Int → zi_M → Prop} (hK94 : ∀ (g : zi_M), K94 g → zi_W E d 323 94 [some (.ref 214), none] [] g (zi_Qv Q)) : ∀ (f : Nat) {l1 : Int} {g : zi_M}, w_M_keepsTold_l2 K94 Q f l1 g → zi_W E d 323 2 [some (.ref 214), some (zi_i l1)] [] g (zi_Qv Q)
  | 0, _, _, h => False.elim h
  | f + 1, l1, g, h => by
    refine zi_iload_n (pc' := 3) rfl rfl rfl ?_
    refine zi_bipush (pc' := 5) rfl rfl (by decide) ?_
    obtain ⟨o1, h⟩ := h
    refine zi_icmp_ge (x := 94) (pc' := 8) rfl rfl o1 (by decide) (fun c24 => ?_) (fun c24 => ?_)
    · replace h := h.1 c24
      exact zi_wk (hK94 _ h) (And.intro rfl trivial)
    · replace h := h.2 c24
      refine zi_aload_n (pc' := 9) rfl rfl rfl ?_
      refine zi_getr (pc' := 12) rfl rfl rfl rfl rfl ?_
      refine zi_iload_n (pc' := 13) rfl rfl rfl ?_
      refine zi_aload_n (pc' := 14) rfl rfl rfl ?_
      refine zi_aload_n (pc' := 15) rfl rfl rfl ?_
      refine zi_getr (pc' := 18) rfl rfl rfl rfl rfl ?_
      refine zi_iload_n (pc' := 19) rfl rfl rfl ?_
      obtain ⟨o2, h⟩ := h
      refine zi_iald (pc' := 20) rfl rfl rfl o2 ?_
      refine zi_callV (d' := 1) (as := [_]) (pc' := 23) rfl rfl rfl rfl (Nat.lt_of_lt_of_le (by decide) hd) (s_M_keepsOne (Nat.le_refl _) h) (zi_ki (fun v3 g4 h => ?_))
      refine zi_iast (pc' := 24) rfl rfl rfl o2 ?_
      replace h := h _ rfl
      refine zi_aload_n (pc' := 25) rfl rfl rfl ?_
      refine zi_getr (pc' := 28) rfl rfl rfl rfl rfl ?_
      refine zi_iload_n (pc' := 29) rfl rfl rfl ?_
      refine zi_aload_n (pc' := 30) rfl rfl rfl ?_
      refine zi_aload_n (pc' := 31) rfl rfl rfl ?_
      refine zi_getr (pc' := 34) rfl rfl rfl rfl rfl ?_
      refine zi_iload_n (pc' := 35) rfl rfl rfl ?_
      refine zi_iald (pc' := 36) rfl rfl rfl o2 ?_
      refine zi_callV (d' := 1) (as := [_]) (pc' := 39) rfl rfl rfl rfl (Nat.lt_of_lt_of_le (by decide) hd) (s_M_keepsOne (Nat.le_refl _) h) (zi_ki (fun v7 g8 h => ?_))
      refine zi_iast (pc' := 40) rfl rfl rfl o2 ?_
      replace h := h _ rfl
      refine zi_aload_n (pc' := 41) rfl rfl rfl ?_
      refine zi_getr (pc' := 44) rfl rfl rfl rfl rfl ?_
      refine zi_iload_n (pc' := 45) rfl rfl rfl ?_
      refine zi_aload_n (pc' := 46) rfl rfl rfl ?_
      refine zi_aload_n (pc' := 47) rfl rfl rfl ?_
      refine zi_getr (pc' := 50) rfl rfl rfl rfl rfl ?_
      refine zi_iload_n (pc' := 51) rfl rfl rfl ?_
      refine zi_iald (pc' := 52) rfl rfl rfl o2 ?_
      refine zi_callV (d' := 1) (as := [_]) (pc' := 55) rfl rfl rfl rfl (Nat.lt_of_lt_of_le (by decide) hd) (s_M_keepsOne (Nat.le_refl _) h) (zi_ki (fun v11 g12 h => ?_))
      refine zi_iast (pc' := 56) rfl rfl rfl o2 ?_
      replace h := h _ rfl
      refine zi_aload_n (pc' := 57) rfl rfl rfl ?_
      refine zi_getr (pc' := 60) rfl rfl rfl rfl rfl ?_
      refine zi_iload_n (pc' := 61) rfl rfl rfl ?_
      refine zi_aload_n (pc' := 62) rfl rfl rfl ?_
      refine zi_aload_n (pc' := 63) rfl rfl rfl ?_
      refine zi_getr (pc' := 66) rfl rfl rfl rfl rfl ?_
      refine zi_iload_n (pc' := 67) rfl rfl rfl ?_
      obtain ⟨o15, h⟩ := h
      refine zi_iald (pc' := 68) rfl rfl rfl o15 ?_
      refine zi_callV (d' := 1) (as := [_]) (pc' := 71) rfl rfl rfl rfl (Nat.lt_of_lt_of_le (by decide) hd) (s_M_keepsOne (Nat.le_refl _) h) (zi_ki (fun v16 g17 h => ?_))
      refine zi_iast (pc' := 72) rfl rfl rfl o15 ?_
      replace h := h _ rfl
      refine zi_aload_n (pc' := 73) rfl rfl rfl ?_
      refine zi_getr (pc' := 76) rfl rfl rfl rfl rfl ?_
      refine zi_iload_n (pc' := 77) rfl rfl rfl ?_
      refine zi_aload_n (pc' := 78) rfl rfl rfl ?_
      refine zi_aload_n (pc' := 79) rfl rfl rfl ?_
      refine zi_getr (pc' := 82) rfl rfl rfl rfl rfl ?_
      refine zi_iload_n (pc' := 83) rfl rfl rfl ?_
      refine zi_iald (pc' := 84) rfl rfl rfl o2 ?_
      refine zi_callV (d' := 1) (as := [_]) (pc' := 87) rfl rfl rfl rfl (Nat.lt_of_lt_of_le (by decide) hd) (s_M_keepsOne (Nat.le_refl _) h) (zi_ki (fun v20 g21 h => ?_))
      refine zi_iast (pc' := 88) rfl rfl rfl o2 ?_
      replace h := h _ rfl
      refine zi_iinc (pc' := 91) [some _, some _] rfl rfl rfl rfl ?_
      refine zi_goto (x := 2) rfl ?_
      exact zi_wk (s_M_keepsTold_l2_r hd hK94 f h) (And.intro rfl (And.intro rfl trivial))
set_option maxRecDepth 100000 in
theorem s_M_keepsTold_l2 {E : sx_E} {d : Nat} (hd : 2 ≤ d) {K94 : zi_M → Prop} {Q : Int → zi_M → Prop} {l1 : Int} {g : zi_M} (h : ∃ f, w_M_keepsTold_l2 K94 Q f l1 g) (hK94 : ∀ (g : zi_M), K94 g → zi_W E d 323 94 [some (.ref 214), none] [] g (zi_Qv Q)) : zi_W E d 323 2 [some (.ref 214), some (zi_i l1)] [] g (zi_Qv Q) := by
  obtain ⟨f, h⟩ := h
  exact s_M_keepsTold_l2_r hd hK94 f h
set_option maxRecDepth 100000 in
theorem s_M_keepsTold_l96_r {E : sx_E} {d : Nat} (hd : 2 ≤ d) {K124 : zi_M → Prop} {Q : Int → zi_M → Prop} (hK124 : ∀ (g : zi_M), K124 g → zi_W E d 323 124 [some (.ref 214), none] [] g (zi_Qv Q)) : ∀ (f : Nat) {l1 : Int} {g : zi_M}, w_M_keepsTold_l96 K124 Q f l1 g → zi_W E d 323 96 [some (.ref 214), some (zi_i l1)] [] g (zi_Qv Q)
  | 0, _, _, h => False.elim h
  | f + 1, l1, g, h => by
    refine zi_iload_n (pc' := 97) rfl rfl rfl ?_
    refine zi_bipush (pc' := 99) rfl rfl (by decide) ?_
    obtain ⟨o26, h⟩ := h
    refine zi_icmp_ge (x := 124) (pc' := 102) rfl rfl o26 (by decide) (fun c32 => ?_) (fun c32 => ?_)
    · replace h := h.1 c32
      exact zi_wk (hK124 _ h) (And.intro rfl trivial)
    · replace h := h.2 c32
      refine zi_aload_n (pc' := 103) rfl rfl rfl ?_
      refine zi_getr (pc' := 106) rfl rfl rfl rfl rfl ?_
      refine zi_iload_n (pc' := 107) rfl rfl rfl ?_
      refine zi_aload_n (pc' := 108) rfl rfl rfl ?_
      refine zi_aload_n (pc' := 109) rfl rfl rfl ?_
      refine zi_getr (pc' := 112) rfl rfl rfl rfl rfl ?_
      refine zi_iload_n (pc' := 113) rfl rfl rfl ?_
      obtain ⟨o27, h⟩ := h
      refine zi_iald (pc' := 114) rfl rfl rfl o27 ?_
      refine zi_callV (d' := 1) (as := [_]) (pc' := 117) rfl rfl rfl rfl (Nat.lt_of_lt_of_le (by decide) hd) (s_M_keepsOne (Nat.le_refl _) h) (zi_ki (fun v28 g29 h => ?_))
      refine zi_iast (pc' := 118) rfl rfl rfl o27 ?_
      replace h := h _ rfl
      refine zi_iinc (pc' := 121) [some _, some _] rfl rfl rfl rfl ?_
      refine zi_goto (x := 96) rfl ?_
      exact zi_wk (s_M_keepsTold_l96_r hd hK124 f h) (And.intro rfl (And.intro rfl trivial))
set_option maxRecDepth 100000 in
theorem s_M_keepsTold_l96 {E : sx_E} {d : Nat} (hd : 2 ≤ d) {K124 : zi_M → Prop} {Q : Int → zi_M → Prop} {l1 : Int} {g : zi_M} (h : ∃ f, w_M_keepsTold_l96 K124 Q f l1 g) (hK124 : ∀ (g : zi_M), K124 g → zi_W E d 323 124 [some (.ref 214), none] [] g (zi_Qv Q)) : zi_W E d 323 96 [some (.ref 214), some (zi_i l1)] [] g (zi_Qv Q) := by
  obtain ⟨f, h⟩ := h
  exact s_M_keepsTold_l96_r hd hK124 f h
set_option maxRecDepth 100000 in
theorem s_M_keepsTold_l126_r {E : sx_E} {d : Nat} (hd : 2 ≤ d) {K170 : zi_M → Prop} {Q : Int → zi_M → Prop} (hK170 : ∀ (g : zi_M), K170 g → zi_W E d 323 170 [some (.ref 214), none] [] g (zi_Qv Q)) : ∀ (f : Nat) {l1 : Int} {g : zi_M}, w_M_keepsTold_l126 K170 Q f l1 g → zi_W E d 323 126 [some (.ref 214), some (zi_i l1)] [] g (zi_Qv Q)
  | 0, _, _, h => False.elim h
  | f + 1, l1, g, h => by
    refine zi_iload_n (pc' := 127) rfl rfl rfl ?_
    refine zi_bipush (pc' := 129) rfl rfl (by decide) ?_
    obtain ⟨o34, h⟩ := h
    refine zi_icmp_ge (x := 170) (pc' := 132) rfl rfl o34 (by decide) (fun c44 => ?_) (fun c44 => ?_)
    · replace h := h.1 c44
      exact zi_wk (hK170 _ h) (And.intro rfl trivial)
    · replace h := h.2 c44
      refine zi_aload_n (pc' := 133) rfl rfl rfl ?_
      refine zi_getr (pc' := 136) rfl rfl rfl rfl rfl ?_
      refine zi_iload_n (pc' := 137) rfl rfl rfl ?_
      refine zi_aload_n (pc' := 138) rfl rfl rfl ?_
      refine zi_aload_n (pc' := 139) rfl rfl rfl ?_
      refine zi_getr (pc' := 142) rfl rfl rfl rfl rfl ?_
      refine zi_iload_n (pc' := 143) rfl rfl rfl ?_
      obtain ⟨o35, h⟩ := h
      refine zi_iald (pc' := 144) rfl rfl rfl o35 ?_
      refine zi_callV (d' := 1) (as := [_]) (pc' := 147) rfl rfl rfl rfl (Nat.lt_of_lt_of_le (by decide) hd) (s_M_keepsOne (Nat.le_refl _) h) (zi_ki (fun v36 g37 h => ?_))
      refine zi_iast (pc' := 148) rfl rfl rfl o35 ?_
      replace h := h _ rfl
      refine zi_aload_n (pc' := 149) rfl rfl rfl ?_
      refine zi_getr (pc' := 152) rfl rfl rfl rfl rfl ?_
      refine zi_iload_n (pc' := 153) rfl rfl rfl ?_
      refine zi_aload_n (pc' := 154) rfl rfl rfl ?_
      refine zi_aload_n (pc' := 155) rfl rfl rfl ?_
      refine zi_getr (pc' := 158) rfl rfl rfl rfl rfl ?_
      refine zi_iload_n (pc' := 159) rfl rfl rfl ?_
      refine zi_iald (pc' := 160) rfl rfl rfl o35 ?_
      refine zi_callV (d' := 1) (as := [_]) (pc' := 163) rfl rfl rfl rfl (Nat.lt_of_lt_of_le (by decide) hd) (s_M_keepsOne (Nat.le_refl _) h) (zi_ki (fun v40 g41 h => ?_))
      refine zi_iast (pc' := 164) rfl rfl rfl o35 ?_
      replace h := h _ rfl
      refine zi_iinc (pc' := 167) [some _, some _] rfl rfl rfl rfl ?_
      refine zi_goto (x := 126) rfl ?_
      exact zi_wk (s_M_keepsTold_l126_r hd hK170 f h) (And.intro rfl (And.intro rfl trivial))
set_option maxRecDepth 100000 in
theorem s_M_keepsTold_l126 {E : sx_E} {d : Nat} (hd : 2 ≤ d) {K170 : zi_M → Prop} {Q : Int → zi_M → Prop} {l1 : Int} {g : zi_M} (h : ∃ f, w_M_keepsTold_l126 K170 Q f l1 g) (hK170 : ∀ (g : zi_M), K170 g → zi_W E d 323 170 [some (.ref 214), none] [] g (zi_Qv Q)) : zi_W E d 323 126 [some (.ref 214), some (zi_i l1)] [] g (zi_Qv Q) := by
  obtain ⟨f, h⟩ := h
  exact s_M_keepsTold_l126_r hd hK170 f h
set_option maxRecDepth 100000 in
theorem s_M_keepsTold_l172_r {E : sx_E} {d : Nat} (hd : 2 ≤ d) {K200 : zi_M → Prop} {Q : Int → zi_M → Prop} (hK200 : ∀ (g : zi_M), K200 g → zi_W E d 323 200 [some (.ref 214), none] [] g (zi_Qv Q)) : ∀ (f : Nat) {l1 : Int} {g : zi_M}, w_M_keepsTold_l172 K200 Q f l1 g → zi_W E d 323 172 [some (.ref 214), some (zi_i l1)] [] g (zi_Qv Q)
  | 0, _, _, h => False.elim h
  | f + 1, l1, g, h => by
    refine zi_iload_n (pc' := 173) rfl rfl rfl ?_
    refine zi_bipush (pc' := 175) rfl rfl (by decide) ?_
    obtain ⟨o46, h⟩ := h
    refine zi_icmp_ge (x := 200) (pc' := 178) rfl rfl o46 (by decide) (fun c52 => ?_) (fun c52 => ?_)
    · replace h := h.1 c52
      exact zi_wk (hK200 _ h) (And.intro rfl trivial)
    · replace h := h.2 c52
      refine zi_aload_n (pc' := 179) rfl rfl rfl ?_
      refine zi_getr (pc' := 182) rfl rfl rfl rfl rfl ?_
      refine zi_iload_n (pc' := 183) rfl rfl rfl ?_
      refine zi_aload_n (pc' := 184) rfl rfl rfl ?_
      refine zi_aload_n (pc' := 185) rfl rfl rfl ?_
      refine zi_getr (pc' := 188) rfl rfl rfl rfl rfl ?_
      refine zi_iload_n (pc' := 189) rfl rfl rfl ?_
      obtain ⟨o47, h⟩ := h
      refine zi_iald (pc' := 190) rfl rfl rfl o47 ?_
      refine zi_callV (d' := 1) (as := [_]) (pc' := 193) rfl rfl rfl rfl (Nat.lt_of_lt_of_le (by decide) hd) (s_M_keepsOne (Nat.le_refl _) h) (zi_ki (fun v48 g49 h => ?_))
      refine zi_iast (pc' := 194) rfl rfl rfl o47 ?_
      replace h := h _ rfl
      refine zi_iinc (pc' := 197) [some _, some _] rfl rfl rfl rfl ?_
      refine zi_goto (x := 172) rfl ?_
      exact zi_wk (s_M_keepsTold_l172_r hd hK200 f h) (And.intro rfl (And.intro rfl trivial))
set_option maxRecDepth 100000 in
theorem s_M_keepsTold_l172 {E : sx_E} {d : Nat} (hd : 2 ≤ d) {K200 : zi_M → Prop} {Q : Int → zi_M → Prop} {l1 : Int} {g : zi_M} (h : ∃ f, w_M_keepsTold_l172 K200 Q f l1 g) (hK200 : ∀ (g : zi_M), K200 g → zi_W E d 323 200 [some (.ref 214), none] [] g (zi_Qv Q)) : zi_W E d 323 172 [some (.ref 214), some (zi_i l1)] [] g (zi_Qv Q) := by
  obtain ⟨f, h⟩ := h
  exact s_M_keepsTold_l172_r hd hK200 f h
set_option maxRecDepth 100000 in
theorem s_M_keepsTold_l202_r {E : sx_E} {d : Nat} (hd : 2 ≤ d) {K230 : zi_M → Prop} {Q : Int → zi_M → Prop} (hK230 : ∀ (g : zi_M), K230 g → zi_W E d 323 230 [some (.ref 214), none] [] g (zi_Qv Q)) : ∀ (f : Nat) {l1 : Int} {g : zi_M}, w_M_keepsTold_l202 K230 Q f l1 g → zi_W E d 323 202 [some (.ref 214), some (zi_i l1)] [] g (zi_Qv Q)
  | 0, _, _, h => False.elim h
  | f + 1, l1, g, h => by
    refine zi_iload_n (pc' := 203) rfl rfl rfl ?_
    refine zi_bipush (pc' := 205) rfl rfl (by decide) ?_
    obtain ⟨o54, h⟩ := h
    refine zi_icmp_ge (x := 230) (pc' := 208) rfl rfl o54 (by decide) (fun c60 => ?_) (fun c60 => ?_)
    · replace h := h.1 c60
      exact zi_wk (hK230 _ h) (And.intro rfl trivial)
    · replace h := h.2 c60
      refine zi_aload_n (pc' := 209) rfl rfl rfl ?_
      refine zi_getr (pc' := 212) rfl rfl rfl rfl rfl ?_
      refine zi_iload_n (pc' := 213) rfl rfl rfl ?_
      refine zi_aload_n (pc' := 214) rfl rfl rfl ?_
      refine zi_aload_n (pc' := 215) rfl rfl rfl ?_
      refine zi_getr (pc' := 218) rfl rfl rfl rfl rfl ?_
      refine zi_iload_n (pc' := 219) rfl rfl rfl ?_
      obtain ⟨o55, h⟩ := h
      refine zi_iald (pc' := 220) rfl rfl rfl o55 ?_
      refine zi_callV (d' := 1) (as := [_]) (pc' := 223) rfl rfl rfl rfl (Nat.lt_of_lt_of_le (by decide) hd) (s_M_keepsOne (Nat.le_refl _) h) (zi_ki (fun v56 g57 h => ?_))
      refine zi_iast (pc' := 224) rfl rfl rfl o55 ?_
      replace h := h _ rfl
      refine zi_iinc (pc' := 227) [some _, some _] rfl rfl rfl rfl ?_
      refine zi_goto (x := 202) rfl ?_
      exact zi_wk (s_M_keepsTold_l202_r hd hK230 f h) (And.intro rfl (And.intro rfl trivial))
set_option maxRecDepth 100000 in
theorem s_M_keepsTold_l202 {E : sx_E} {d : Nat} (hd : 2 ≤ d) {K230 : zi_M → Prop} {Q : Int → zi_M → Prop} {l1 : Int} {g : zi_M} (h : ∃ f, w_M_keepsTold_l202 K230 Q f l1 g) (hK230 : ∀ (g : zi_M), K230 g → zi_W E d 323 230 [some (.ref 214), none] [] g (zi_Qv Q)) : zi_W E d 323 202 [some (.ref 214), some (zi_i l1)] [] g (zi_Qv Q) := by
  obtain ⟨f, h⟩ := h
  exact s_M_keepsTold_l202_r hd hK230 f h
set_option maxRecDepth 100000 in
theorem s_M_keepsTold_l232_r {E : sx_E} {d : Nat} (hd : 2 ≤ d) {K260 : zi_M → Prop} {Q : Int → zi_M → Prop} (hK260 : ∀ (g : zi_M), K260 g → zi_W E d 323 260 [some (.ref 214), none] [] g (zi_Qv Q)) : ∀ (f : Nat) {l1 : Int} {g : zi_M}, w_M_keepsTold_l232 K260 Q f l1 g → zi_W E d 323 232 [some (.ref 214), some (zi_i l1)] [] g (zi_Qv Q)
  | 0, _, _, h => False.elim h
  | f + 1, l1, g, h => by
    refine zi_iload_n (pc' := 233) rfl rfl rfl ?_
    refine zi_bipush (pc' := 235) rfl rfl (by decide) ?_
    obtain ⟨o62, h⟩ := h
    refine zi_icmp_ge (x := 260) (pc' := 238) rfl rfl o62 (by decide) (fun c68 => ?_) (fun c68 => ?_)
    · replace h := h.1 c68
      exact zi_wk (hK260 _ h) (And.intro rfl trivial)
    · replace h := h.2 c68
      refine zi_aload_n (pc' := 239) rfl rfl rfl ?_
      refine zi_getr (pc' := 242) rfl rfl rfl rfl rfl ?_
      refine zi_iload_n (pc' := 243) rfl rfl rfl ?_
      refine zi_aload_n (pc' := 244) rfl rfl rfl ?_
      refine zi_aload_n (pc' := 245) rfl rfl rfl ?_
      refine zi_getr (pc' := 248) rfl rfl rfl rfl rfl ?_
      refine zi_iload_n (pc' := 249) rfl rfl rfl ?_
      obtain ⟨o63, h⟩ := h
      refine zi_iald (pc' := 250) rfl rfl rfl o63 ?_
      refine zi_callV (d' := 1) (as := [_]) (pc' := 253) rfl rfl rfl rfl (Nat.lt_of_lt_of_le (by decide) hd) (s_M_keepsOne (Nat.le_refl _) h) (zi_ki (fun v64 g65 h => ?_))
      refine zi_iast (pc' := 254) rfl rfl rfl o63 ?_
      replace h := h _ rfl
      refine zi_iinc (pc' := 257) [some _, some _] rfl rfl rfl rfl ?_
      refine zi_goto (x := 232) rfl ?_
      exact zi_wk (s_M_keepsTold_l232_r hd hK260 f h) (And.intro rfl (And.intro rfl trivial))
set_option maxRecDepth 100000 in
theorem s_M_keepsTold_l232 {E : sx_E} {d : Nat} (hd : 2 ≤ d) {K260 : zi_M → Prop} {Q : Int → zi_M → Prop} {l1 : Int} {g : zi_M} (h : ∃ f, w_M_keepsTold_l232 K260 Q f l1 g) (hK260 : ∀ (g : zi_M), K260 g → zi_W E d 323 260 [some (.ref 214), none] [] g (zi_Qv Q)) : zi_W E d 323 232 [some (.ref 214), some (zi_i l1)] [] g (zi_Qv Q) := by
  obtain ⟨f, h⟩ := h
  exact s_M_keepsTold_l232_r hd hK260 f h
set_option maxRecDepth 100000 in
theorem s_M_keepsTold_l262_r {E : sx_E} {d : Nat} (hd : 2 ≤ d) {K290 : zi_M → Prop} {Q : Int → zi_M → Prop} (hK290 : ∀ (g : zi_M), K290 g → zi_W E d 323 290 [some (.ref 214), none] [] g (zi_Qv Q)) : ∀ (f : Nat) {l1 : Int} {g : zi_M}, w_M_keepsTold_l262 K290 Q f l1 g → zi_W E d 323 262 [some (.ref 214), some (zi_i l1)] [] g (zi_Qv Q)
  | 0, _, _, h => False.elim h
  | f + 1, l1, g, h => by
    refine zi_iload_n (pc' := 263) rfl rfl rfl ?_
    refine zi_bipush (pc' := 265) rfl rfl (by decide) ?_
    obtain ⟨o70, h⟩ := h
    refine zi_icmp_ge (x := 290) (pc' := 268) rfl rfl o70 (by decide) (fun c76 => ?_) (fun c76 => ?_)
    · replace h := h.1 c76
      exact zi_wk (hK290 _ h) (And.intro rfl trivial)
    · replace h := h.2 c76
      refine zi_aload_n (pc' := 269) rfl rfl rfl ?_
      refine zi_getr (pc' := 272) rfl rfl rfl rfl rfl ?_
      refine zi_iload_n (pc' := 273) rfl rfl rfl ?_
      refine zi_aload_n (pc' := 274) rfl rfl rfl ?_
      refine zi_aload_n (pc' := 275) rfl rfl rfl ?_
      refine zi_getr (pc' := 278) rfl rfl rfl rfl rfl ?_
      refine zi_iload_n (pc' := 279) rfl rfl rfl ?_
      obtain ⟨o71, h⟩ := h
      refine zi_iald (pc' := 280) rfl rfl rfl o71 ?_
      refine zi_callV (d' := 1) (as := [_]) (pc' := 283) rfl rfl rfl rfl (Nat.lt_of_lt_of_le (by decide) hd) (s_M_keepsOne (Nat.le_refl _) h) (zi_ki (fun v72 g73 h => ?_))
      refine zi_iast (pc' := 284) rfl rfl rfl o71 ?_
      replace h := h _ rfl
      refine zi_iinc (pc' := 287) [some _, some _] rfl rfl rfl rfl ?_
      refine zi_goto (x := 262) rfl ?_
      exact zi_wk (s_M_keepsTold_l262_r hd hK290 f h) (And.intro rfl (And.intro rfl trivial))
set_option maxRecDepth 100000 in
theorem s_M_keepsTold_l262 {E : sx_E} {d : Nat} (hd : 2 ≤ d) {K290 : zi_M → Prop} {Q : Int → zi_M → Prop} {l1 : Int} {g : zi_M} (h : ∃ f, w_M_keepsTold_l262 K290 Q f l1 g) (hK290 : ∀ (g : zi_M), K290 g → zi_W E d 323 290 [some (.ref 214), none] [] g (zi_Qv Q)) : zi_W E d 323 262 [some (.ref 214), some (zi_i l1)] [] g (zi_Qv Q) := by
  obtain ⟨f, h⟩ := h
  exact s_M_keepsTold_l262_r hd hK290 f h
set_option maxRecDepth 100000 in
theorem s_M_keepsTold_l292_r {E : sx_E} {d : Nat} (hd : 2 ≤ d) {K320 : zi_M → Prop} {Q : Int → zi_M → Prop} (hK320 : ∀ (g : zi_M), K320 g → zi_W E d 323 320 [some (.ref 214), none] [] g (zi_Qv Q)) : ∀ (f : Nat) {l1 : Int} {g : zi_M}, w_M_keepsTold_l292 K320 Q f l1 g → zi_W E d 323 292 [some (.ref 214), some (zi_i l1)] [] g (zi_Qv Q)
  | 0, _, _, h => False.elim h
  | f + 1, l1, g, h => by
    refine zi_iload_n (pc' := 293) rfl rfl rfl ?_
    refine zi_bipush (pc' := 295) rfl rfl (by decide) ?_
    obtain ⟨o78, h⟩ := h
    refine zi_icmp_ge (x := 320) (pc' := 298) rfl rfl o78 (by decide) (fun c84 => ?_) (fun c84 => ?_)
    · replace h := h.1 c84
      exact zi_wk (hK320 _ h) (And.intro rfl trivial)
    · replace h := h.2 c84
      refine zi_aload_n (pc' := 299) rfl rfl rfl ?_
      refine zi_getr (pc' := 302) rfl rfl rfl rfl rfl ?_
      refine zi_iload_n (pc' := 303) rfl rfl rfl ?_
      refine zi_aload_n (pc' := 304) rfl rfl rfl ?_
      refine zi_aload_n (pc' := 305) rfl rfl rfl ?_
      refine zi_getr (pc' := 308) rfl rfl rfl rfl rfl ?_
      refine zi_iload_n (pc' := 309) rfl rfl rfl ?_
      obtain ⟨o79, h⟩ := h
      refine zi_iald (pc' := 310) rfl rfl rfl o79 ?_
      refine zi_callV (d' := 1) (as := [_]) (pc' := 313) rfl rfl rfl rfl (Nat.lt_of_lt_of_le (by decide) hd) (s_M_keepsOne (Nat.le_refl _) h) (zi_ki (fun v80 g81 h => ?_))
      refine zi_iast (pc' := 314) rfl rfl rfl o79 ?_
      replace h := h _ rfl
      refine zi_iinc (pc' := 317) [some _, some _] rfl rfl rfl rfl ?_
      refine zi_goto (x := 292) rfl ?_
      exact zi_wk (s_M_keepsTold_l292_r hd hK320 f h) (And.intro rfl (And.intro rfl trivial))
set_option maxRecDepth 100000 in
theorem s_M_keepsTold_l292 {E : sx_E} {d : Nat} (hd : 2 ≤ d) {K320 : zi_M → Prop} {Q : Int → zi_M → Prop} {l1 : Int} {g : zi_M} (h : ∃ f, w_M_keepsTold_l292 K320 Q f l1 g) (hK320 : ∀ (g : zi_M), K320 g → zi_W E d 323 320 [some (.ref 214), none] [] g (zi_Qv Q)) : zi_W E d 323 292 [some (.ref 214), some (zi_i l1)] [] g (zi_Qv Q) := by
  obtain ⟨f, h⟩ := h
  exact s_M_keepsTold_l292_r hd hK320 f h
set_option maxRecDepth 100000 in
theorem s_M_keepsTold {E : sx_E} {d : Nat} (hd : 2 ≤ d) {g : zi_M} {Q : Int → zi_M → Prop} (h : w_M_keepsTold g Q) : zi_S E d 323 [.ref 214] g (zi_Qv Q) := by
  refine zi_Sof jf_323 [some (.ref 214), none] rfl (And.intro rfl trivial) ?_
  unfold w_M_keepsTold at h
  refine zi_iconst (pc' := 1) rfl rfl ?_
  refine zi_istore_n (pc' := 2) [some _, some _] rfl rfl rfl ?_
  refine zi_wk (s_M_keepsTold_l2 hd h (fun g25 h => ?_)) (And.intro rfl (And.intro rfl trivial))
  refine zi_iconst (pc' := 95) rfl rfl ?_
  refine zi_istore_n (pc' := 96) [some _, some _] rfl rfl rfl ?_
  refine zi_wk (s_M_keepsTold_l96 hd h (fun g33 h => ?_)) (And.intro rfl (And.intro rfl trivial))
  refine zi_iconst (pc' := 125) rfl rfl ?_
  refine zi_istore_n (pc' := 126) [some _, some _] rfl rfl rfl ?_
  refine zi_wk (s_M_keepsTold_l126 hd h (fun g45 h => ?_)) (And.intro rfl (And.intro rfl trivial))
  refine zi_iconst (pc' := 171) rfl rfl ?_
  refine zi_istore_n (pc' := 172) [some _, some _] rfl rfl rfl ?_
  refine zi_wk (s_M_keepsTold_l172 hd h (fun g53 h => ?_)) (And.intro rfl (And.intro rfl trivial))
  refine zi_iconst (pc' := 201) rfl rfl ?_
  refine zi_istore_n (pc' := 202) [some _, some _] rfl rfl rfl ?_
  refine zi_wk (s_M_keepsTold_l202 hd h (fun g61 h => ?_)) (And.intro rfl (And.intro rfl trivial))
  refine zi_iconst (pc' := 231) rfl rfl ?_
  refine zi_istore_n (pc' := 232) [some _, some _] rfl rfl rfl ?_
  refine zi_wk (s_M_keepsTold_l232 hd h (fun g69 h => ?_)) (And.intro rfl (And.intro rfl trivial))
  refine zi_iconst (pc' := 261) rfl rfl ?_
  refine zi_istore_n (pc' := 262) [some _, some _] rfl rfl rfl ?_
  refine zi_wk (s_M_keepsTold_l262 hd h (fun g77 h => ?_)) (And.intro rfl (And.intro rfl trivial))
  refine zi_iconst (pc' := 291) rfl rfl ?_
  refine zi_istore_n (pc' := 292) [some _, some _] rfl rfl rfl ?_
  refine zi_wk (s_M_keepsTold_l292 hd h (fun g85 h => ?_)) (And.intro rfl (And.intro rfl trivial))
  exact zi_vret rfl rfl h
-- SpoutNewsModel.keepsLaw()V
noncomputable def w_M_keepsLaw_l18 (K94 : zi_M → Prop) (Q : Int → zi_M → Prop) : Nat → Int → zi_M → Prop
  | 0, _, _ => False
  | f + 1, l1, g => (zi_r l1 ∧ ((16 ≤ l1 → K94 g) ∧ (l1 < 16 → ((0 ≤ l1 ∧ l1 < 48) ∧ w_M_keepsOne (g 225 l1) g (fun v7 g8 => (∀ g10, g10 = zi_u g8 225 l1 v7 → w_M_keepsOne (g10 226 l1) g10 (fun v11 g12 => (∀ g14, g14 = zi_u g12 226 l1 v11 → w_M_keepsOne (g14 227 l1) g14 (fun v15 g16 => (∀ g18, g18 = zi_u g16 227 l1 v15 → w_M_keepsOne (g18 228 l1) g18 (fun v19 g20 => (∀ g22, g22 = zi_u g20 228 l1 v19 → w_M_keepsLaw_l18 K94 Q f (l1 + 1) g22))))))))))))
noncomputable def w_M_keepsLaw_l96 (K141 : zi_M → Prop) (Q : Int → zi_M → Prop) : Nat → Int → zi_M → Prop
  | 0, _, _ => False
  | f + 1, l1, g => (zi_r l1 ∧ ((400 ≤ l1 → K141 g) ∧ (l1 < 400 → ((0 ≤ l1 ∧ l1 < 1200) ∧ w_M_keepsOne (g 229 l1) g (fun v27 g28 => (∀ g30, g30 = zi_u g28 229 l1 v27 → w_M_keepsOne (g30 230 l1) g30 (fun v31 g32 => (∀ g34, g34 = zi_u g32 230 l1 v31 → w_M_keepsLaw_l96 K141 Q f (l1 + 1) g34))))))))
noncomputable def w_M_keepsLaw (g : zi_M) (Q : Int → zi_M → Prop) : Prop := w_M_keepsOne (g 224 0) g (fun v1 g2 => (∀ g4, g4 = zi_u g2 224 0 v1 → (∃ f38, w_M_keepsLaw_l18 (fun g24 => (∃ f37, w_M_keepsLaw_l96 (fun g36 => Q 0 g36) Q f37 0 g24)) Q f38 0 g4)))
set_option maxRecDepth 100000 in
theorem s_M_keepsLaw_l18_r {E : sx_E} {d : Nat} (hd : 2 ≤ d) {K94 : zi_M → Prop} {Q : Int → zi_M → Prop} (hK94 : ∀ (g : zi_M), K94 g → zi_W E d 324 94 [some (.ref 214), none] [] g (zi_Qv Q)) : ∀ (f : Nat) {l1 : Int} {g : zi_M}, w_M_keepsLaw_l18 K94 Q f l1 g → zi_W E d 324 18 [some (.ref 214), some (zi_i l1)] [] g (zi_Qv Q)
  | 0, _, _, h => False.elim h
  | f + 1, l1, g, h => by
    refine zi_iload_n (pc' := 19) rfl rfl rfl ?_
    refine zi_bipush (pc' := 21) rfl rfl (by decide) ?_
    obtain ⟨o5, h⟩ := h
    refine zi_icmp_ge (x := 94) (pc' := 24) rfl rfl o5 (by decide) (fun c23 => ?_) (fun c23 => ?_)
    · replace h := h.1 c23
      exact zi_wk (hK94 _ h) (And.intro rfl trivial)
    · replace h := h.2 c23
      refine zi_aload_n (pc' := 25) rfl rfl rfl ?_
      refine zi_getr (pc' := 28) rfl rfl rfl rfl rfl ?_
      refine zi_iload_n (pc' := 29) rfl rfl rfl ?_
      refine zi_aload_n (pc' := 30) rfl rfl rfl ?_
      refine zi_aload_n (pc' := 31) rfl rfl rfl ?_
      refine zi_getr (pc' := 34) rfl rfl rfl rfl rfl ?_
      refine zi_iload_n (pc' := 35) rfl rfl rfl ?_
      obtain ⟨o6, h⟩ := h
      refine zi_iald (pc' := 36) rfl rfl rfl o6 ?_
      refine zi_callV (d' := 1) (as := [_]) (pc' := 39) rfl rfl rfl rfl (Nat.lt_of_lt_of_le (by decide) hd) (s_M_keepsOne (Nat.le_refl _) h) (zi_ki (fun v7 g8 h => ?_))
      refine zi_iast (pc' := 40) rfl rfl rfl o6 ?_
      replace h := h _ rfl
      refine zi_aload_n (pc' := 41) rfl rfl rfl ?_
      refine zi_getr (pc' := 44) rfl rfl rfl rfl rfl ?_
      refine zi_iload_n (pc' := 45) rfl rfl rfl ?_
      refine zi_aload_n (pc' := 46) rfl rfl rfl ?_
      refine zi_aload_n (pc' := 47) rfl rfl rfl ?_
      refine zi_getr (pc' := 50) rfl rfl rfl rfl rfl ?_
      refine zi_iload_n (pc' := 51) rfl rfl rfl ?_
      refine zi_iald (pc' := 52) rfl rfl rfl o6 ?_
      refine zi_callV (d' := 1) (as := [_]) (pc' := 55) rfl rfl rfl rfl (Nat.lt_of_lt_of_le (by decide) hd) (s_M_keepsOne (Nat.le_refl _) h) (zi_ki (fun v11 g12 h => ?_))
      refine zi_iast (pc' := 56) rfl rfl rfl o6 ?_
      replace h := h _ rfl
      refine zi_aload_n (pc' := 57) rfl rfl rfl ?_
      refine zi_getr (pc' := 60) rfl rfl rfl rfl rfl ?_
      refine zi_iload_n (pc' := 61) rfl rfl rfl ?_
      refine zi_aload_n (pc' := 62) rfl rfl rfl ?_
      refine zi_aload_n (pc' := 63) rfl rfl rfl ?_
      refine zi_getr (pc' := 66) rfl rfl rfl rfl rfl ?_
      refine zi_iload_n (pc' := 67) rfl rfl rfl ?_
      refine zi_iald (pc' := 68) rfl rfl rfl o6 ?_
      refine zi_callV (d' := 1) (as := [_]) (pc' := 71) rfl rfl rfl rfl (Nat.lt_of_lt_of_le (by decide) hd) (s_M_keepsOne (Nat.le_refl _) h) (zi_ki (fun v15 g16 h => ?_))
      refine zi_iast (pc' := 72) rfl rfl rfl o6 ?_
      replace h := h _ rfl
      refine zi_aload_n (pc' := 73) rfl rfl rfl ?_
      refine zi_getr (pc' := 76) rfl rfl rfl rfl rfl ?_
      refine zi_iload_n (pc' := 77) rfl rfl rfl ?_
      refine zi_aload_n (pc' := 78) rfl rfl rfl ?_
      refine zi_aload_n (pc' := 79) rfl rfl rfl ?_
      refine zi_getr (pc' := 82) rfl rfl rfl rfl rfl ?_
      refine zi_iload_n (pc' := 83) rfl rfl rfl ?_
      refine zi_iald (pc' := 84) rfl rfl rfl o6 ?_
      refine zi_callV (d' := 1) (as := [_]) (pc' := 87) rfl rfl rfl rfl (Nat.lt_of_lt_of_le (by decide) hd) (s_M_keepsOne (Nat.le_refl _) h) (zi_ki (fun v19 g20 h => ?_))
      refine zi_iast (pc' := 88) rfl rfl rfl o6 ?_
      replace h := h _ rfl
      refine zi_iinc (pc' := 91) [some _, some _] rfl rfl rfl rfl ?_
      refine zi_goto (x := 18) rfl ?_
      exact zi_wk (s_M_keepsLaw_l18_r hd hK94 f h) (And.intro rfl (And.intro rfl trivial))
set_option maxRecDepth 100000 in
theorem s_M_keepsLaw_l18 {E : sx_E} {d : Nat} (hd : 2 ≤ d) {K94 : zi_M → Prop} {Q : Int → zi_M → Prop} {l1 : Int} {g : zi_M} (h : ∃ f, w_M_keepsLaw_l18 K94 Q f l1 g) (hK94 : ∀ (g : zi_M), K94 g → zi_W E d 324 94 [some (.ref 214), none] [] g (zi_Qv Q)) : zi_W E d 324 18 [some (.ref 214), some (zi_i l1)] [] g (zi_Qv Q) := by
  obtain ⟨f, h⟩ := h
  exact s_M_keepsLaw_l18_r hd hK94 f h
set_option maxRecDepth 100000 in
theorem s_M_keepsLaw_l96_r {E : sx_E} {d : Nat} (hd : 2 ≤ d) {K141 : zi_M → Prop} {Q : Int → zi_M → Prop} (hK141 : ∀ (g : zi_M), K141 g → zi_W E d 324 141 [some (.ref 214), none] [] g (zi_Qv Q)) : ∀ (f : Nat) {l1 : Int} {g : zi_M}, w_M_keepsLaw_l96 K141 Q f l1 g → zi_W E d 324 96 [some (.ref 214), some (zi_i l1)] [] g (zi_Qv Q)
  | 0, _, _, h => False.elim h
  | f + 1, l1, g, h => by
    refine zi_iload_n (pc' := 97) rfl rfl rfl ?_
    refine zi_sipush (pc' := 100) rfl rfl (by decide) ?_
    obtain ⟨o25, h⟩ := h
    refine zi_icmp_ge (x := 141) (pc' := 103) rfl rfl o25 (by decide) (fun c35 => ?_) (fun c35 => ?_)
    · replace h := h.1 c35
      exact zi_wk (hK141 _ h) (And.intro rfl trivial)
    · replace h := h.2 c35
      refine zi_aload_n (pc' := 104) rfl rfl rfl ?_
      refine zi_getr (pc' := 107) rfl rfl rfl rfl rfl ?_
      refine zi_iload_n (pc' := 108) rfl rfl rfl ?_
      refine zi_aload_n (pc' := 109) rfl rfl rfl ?_
      refine zi_aload_n (pc' := 110) rfl rfl rfl ?_
      refine zi_getr (pc' := 113) rfl rfl rfl rfl rfl ?_
      refine zi_iload_n (pc' := 114) rfl rfl rfl ?_
      obtain ⟨o26, h⟩ := h
      refine zi_iald (pc' := 115) rfl rfl rfl o26 ?_
      refine zi_callV (d' := 1) (as := [_]) (pc' := 118) rfl rfl rfl rfl (Nat.lt_of_lt_of_le (by decide) hd) (s_M_keepsOne (Nat.le_refl _) h) (zi_ki (fun v27 g28 h => ?_))
      refine zi_iast (pc' := 119) rfl rfl rfl o26 ?_
      replace h := h _ rfl
      refine zi_aload_n (pc' := 120) rfl rfl rfl ?_
      refine zi_getr (pc' := 123) rfl rfl rfl rfl rfl ?_
      refine zi_iload_n (pc' := 124) rfl rfl rfl ?_
      refine zi_aload_n (pc' := 125) rfl rfl rfl ?_
      refine zi_aload_n (pc' := 126) rfl rfl rfl ?_
      refine zi_getr (pc' := 129) rfl rfl rfl rfl rfl ?_
      refine zi_iload_n (pc' := 130) rfl rfl rfl ?_
      refine zi_iald (pc' := 131) rfl rfl rfl o26 ?_
      refine zi_callV (d' := 1) (as := [_]) (pc' := 134) rfl rfl rfl rfl (Nat.lt_of_lt_of_le (by decide) hd) (s_M_keepsOne (Nat.le_refl _) h) (zi_ki (fun v31 g32 h => ?_))
      refine zi_iast (pc' := 135) rfl rfl rfl o26 ?_
      replace h := h _ rfl
      refine zi_iinc (pc' := 138) [some _, some _] rfl rfl rfl rfl ?_
      refine zi_goto (x := 96) rfl ?_
      exact zi_wk (s_M_keepsLaw_l96_r hd hK141 f h) (And.intro rfl (And.intro rfl trivial))
set_option maxRecDepth 100000 in
theorem s_M_keepsLaw_l96 {E : sx_E} {d : Nat} (hd : 2 ≤ d) {K141 : zi_M → Prop} {Q : Int → zi_M → Prop} {l1 : Int} {g : zi_M} (h : ∃ f, w_M_keepsLaw_l96 K141 Q f l1 g) (hK141 : ∀ (g : zi_M), K141 g → zi_W E d 324 141 [some (.ref 214), none] [] g (zi_Qv Q)) : zi_W E d 324 96 [some (.ref 214), some (zi_i l1)] [] g (zi_Qv Q) := by
  obtain ⟨f, h⟩ := h
  exact s_M_keepsLaw_l96_r hd hK141 f h
set_option maxRecDepth 100000 in
theorem s_M_keepsLaw {E : sx_E} {d : Nat} (hd : 2 ≤ d) {g : zi_M} {Q : Int → zi_M → Prop} (h : w_M_keepsLaw g Q) : zi_S E d 324 [.ref 214] g (zi_Qv Q) := by
  refine zi_Sof jf_324 [some (.ref 214), none] rfl (And.intro rfl trivial) ?_
  unfold w_M_keepsLaw at h
  refine zi_aload_n (pc' := 1) rfl rfl rfl ?_
  refine zi_getr (pc' := 4) rfl rfl rfl rfl rfl ?_
  refine zi_iconst (pc' := 5) rfl rfl ?_
  refine zi_aload_n (pc' := 6) rfl rfl rfl ?_
  refine zi_aload_n (pc' := 7) rfl rfl rfl ?_
  refine zi_getr (pc' := 10) rfl rfl rfl rfl rfl ?_
  refine zi_iconst (pc' := 11) rfl rfl ?_
  refine zi_iald (pc' := 12) rfl rfl rfl (by decide) ?_
  refine zi_callV (d' := 1) (as := [_]) (pc' := 15) rfl rfl rfl rfl (Nat.lt_of_lt_of_le (by decide) hd) (s_M_keepsOne (Nat.le_refl _) h) (zi_ki (fun v1 g2 h => ?_))
  refine zi_iast (pc' := 16) rfl rfl rfl (by decide) ?_
  replace h := h _ rfl
  refine zi_iconst (pc' := 17) rfl rfl ?_
  refine zi_istore_n (pc' := 18) [some _, some _] rfl rfl rfl ?_
  refine zi_wk (s_M_keepsLaw_l18 hd h (fun g24 h => ?_)) (And.intro rfl (And.intro rfl trivial))
  refine zi_iconst (pc' := 95) rfl rfl ?_
  refine zi_istore_n (pc' := 96) [some _, some _] rfl rfl rfl ?_
  refine zi_wk (s_M_keepsLaw_l96 hd h (fun g36 h => ?_)) (And.intro rfl (And.intro rfl trivial))
  exact zi_vret rfl rfl h
-- SpoutNewsModel.image(Z)Z
noncomputable def w_M_image_l35 (K64 : zi_M → Prop) (Q : Int → zi_M → Prop) : Nat → Int → zi_M → Prop
  | 0, _, _ => False
  | f + 1, l2, g => (zi_r l2 ∧ ((264 ≤ l2 → K64 g) ∧ (l2 < 264 → ((0 ≤ l2 ∧ l2 < 264) ∧ w_M_keepsOne (g 215 l2) g (fun v9 g10 => (∀ g12, g12 = zi_u g10 215 l2 v9 → w_M_image_l35 K64 Q f (l2 + 1) g12))))))
noncomputable def w_M_image_l74 (K103 : zi_M → Prop) (Q : Int → zi_M → Prop) : Nat → Int → zi_M → Prop
  | 0, _, _ => False
  | f + 1, l2, g => (zi_r l2 ∧ ((600 ≤ l2 → K103 g) ∧ (l2 < 600 → ((0 ≤ l2 ∧ l2 < 600) ∧ w_M_keepsOne (g 221 l2) g (fun v23 g24 => (∀ g26, g26 = zi_u g24 221 l2 v23 → w_M_image_l74 K103 Q f (l2 + 1) g26))))))
noncomputable def w_M_image_b18 (l1 : Int) (g : zi_M) (Q : Int → zi_M → Prop) : Prop := ((l1 = 0 ∨ l1 = 1) ∧ (∀ g4, g4 = zi_u g 214 61 l1 → (∀ g5, g5 = zi_u g4 214 62 1 → (∀ g6, g6 = zi_u g5 214 63 0 → (∃ f36, w_M_image_l35 (fun g14 => w_M_keepsMany g14 (fun _ g16 => w_M_keepsTold g16 (fun _ g19 => (∃ f35, w_M_image_l74 (fun g28 => w_M_keepsLaw g28 (fun _ g30 => (zi_r l1 ∧ ((¬ l1 = 0 → Q 1 g30) ∧ (l1 = 0 → (∀ g33, g33 = zi_u g30 214 3 0 → Q 1 g33)))))) Q f35 0 g19)))) Q f36 0 g6)))))
noncomputable def w_M_image (l1 : Int) (g : zi_M) (Q : Int → zi_M → Prop) : Prop := (∀ g1, g1 = zi_u g 214 0 0 → (zi_r l1 ∧ ((¬ l1 = 0 → w_M_image_b18 l1 g1 Q) ∧ (l1 = 0 → (zi_r (g1 214 62) ∧ ((¬ (g1 214 62) = 0 → w_M_image_b18 l1 g1 Q) ∧ ((g1 214 62) = 0 → Q 0 g1)))))))
set_option maxRecDepth 100000 in
theorem s_M_image_l35_r {E : sx_E} {d : Nat} (hd : 3 ≤ d) {x1 : Int} {K64 : zi_M → Prop} {Q : Int → zi_M → Prop} (hK64 : ∀ (g : zi_M), K64 g → zi_W E d 320 64 [some (.ref 214), some (zi_i x1), none] [] g (zi_Qb Q)) : ∀ (f : Nat) {l2 : Int} {g : zi_M}, w_M_image_l35 K64 Q f l2 g → zi_W E d 320 35 [some (.ref 214), some (zi_i x1), some (zi_i l2)] [] g (zi_Qb Q)
  | 0, _, _, h => False.elim h
  | f + 1, l2, g, h => by
    refine zi_iload_n (pc' := 36) rfl rfl rfl ?_
    refine zi_sipush (pc' := 39) rfl rfl (by decide) ?_
    obtain ⟨o7, h⟩ := h
    refine zi_icmp_ge (x := 64) (pc' := 42) rfl rfl o7 (by decide) (fun c13 => ?_) (fun c13 => ?_)
    · replace h := h.1 c13
      exact zi_wk (hK64 _ h) (And.intro rfl (And.intro rfl trivial))
    · replace h := h.2 c13
      refine zi_aload_n (pc' := 43) rfl rfl rfl ?_
      refine zi_getr (pc' := 46) rfl rfl rfl rfl rfl ?_
      refine zi_iload_n (pc' := 47) rfl rfl rfl ?_
      refine zi_aload_n (pc' := 48) rfl rfl rfl ?_
      refine zi_aload_n (pc' := 49) rfl rfl rfl ?_
      refine zi_getr (pc' := 52) rfl rfl rfl rfl rfl ?_
      refine zi_iload_n (pc' := 53) rfl rfl rfl ?_
      obtain ⟨o8, h⟩ := h
      refine zi_iald (pc' := 54) rfl rfl rfl o8 ?_
      refine zi_callV (d' := 1) (as := [_]) (pc' := 57) rfl rfl rfl rfl (Nat.lt_of_lt_of_le (by decide) hd) (s_M_keepsOne (Nat.le_refl _) h) (zi_ki (fun v9 g10 h => ?_))
      refine zi_iast (pc' := 58) rfl rfl rfl o8 ?_
      replace h := h _ rfl
      refine zi_iinc (pc' := 61) [some _, some _, some _] rfl rfl rfl rfl ?_
      refine zi_goto (x := 35) rfl ?_
      exact zi_wk (s_M_image_l35_r hd hK64 f h) (And.intro rfl (And.intro rfl (And.intro rfl trivial)))
set_option maxRecDepth 100000 in
theorem s_M_image_l35 {E : sx_E} {d : Nat} (hd : 3 ≤ d) {x1 : Int} {K64 : zi_M → Prop} {Q : Int → zi_M → Prop} {l2 : Int} {g : zi_M} (h : ∃ f, w_M_image_l35 K64 Q f l2 g) (hK64 : ∀ (g : zi_M), K64 g → zi_W E d 320 64 [some (.ref 214), some (zi_i x1), none] [] g (zi_Qb Q)) : zi_W E d 320 35 [some (.ref 214), some (zi_i x1), some (zi_i l2)] [] g (zi_Qb Q) := by
  obtain ⟨f, h⟩ := h
  exact s_M_image_l35_r hd hK64 f h
set_option maxRecDepth 100000 in
theorem s_M_image_l74_r {E : sx_E} {d : Nat} (hd : 3 ≤ d) {x1 : Int} {K103 : zi_M → Prop} {Q : Int → zi_M → Prop} (hK103 : ∀ (g : zi_M), K103 g → zi_W E d 320 103 [some (.ref 214), some (zi_i x1), none] [] g (zi_Qb Q)) : ∀ (f : Nat) {l2 : Int} {g : zi_M}, w_M_image_l74 K103 Q f l2 g → zi_W E d 320 74 [some (.ref 214), some (zi_i x1), some (zi_i l2)] [] g (zi_Qb Q)
  | 0, _, _, h => False.elim h
  | f + 1, l2, g, h => by
    refine zi_iload_n (pc' := 75) rfl rfl rfl ?_
    refine zi_sipush (pc' := 78) rfl rfl (by decide) ?_
    obtain ⟨o21, h⟩ := h
    refine zi_icmp_ge (x := 103) (pc' := 81) rfl rfl o21 (by decide) (fun c27 => ?_) (fun c27 => ?_)
    · replace h := h.1 c27
      exact zi_wk (hK103 _ h) (And.intro rfl (And.intro rfl trivial))
    · replace h := h.2 c27
      refine zi_aload_n (pc' := 82) rfl rfl rfl ?_
      refine zi_getr (pc' := 85) rfl rfl rfl rfl rfl ?_
      refine zi_iload_n (pc' := 86) rfl rfl rfl ?_
      refine zi_aload_n (pc' := 87) rfl rfl rfl ?_
      refine zi_aload_n (pc' := 88) rfl rfl rfl ?_
      refine zi_getr (pc' := 91) rfl rfl rfl rfl rfl ?_
      refine zi_iload_n (pc' := 92) rfl rfl rfl ?_
      obtain ⟨o22, h⟩ := h
      refine zi_iald (pc' := 93) rfl rfl rfl o22 ?_
      refine zi_callV (d' := 1) (as := [_]) (pc' := 96) rfl rfl rfl rfl (Nat.lt_of_lt_of_le (by decide) hd) (s_M_keepsOne (Nat.le_refl _) h) (zi_ki (fun v23 g24 h => ?_))
      refine zi_iast (pc' := 97) rfl rfl rfl o22 ?_
      replace h := h _ rfl
      refine zi_iinc (pc' := 100) [some _, some _, some _] rfl rfl rfl rfl ?_
      refine zi_goto (x := 74) rfl ?_
      exact zi_wk (s_M_image_l74_r hd hK103 f h) (And.intro rfl (And.intro rfl (And.intro rfl trivial)))
set_option maxRecDepth 100000 in
theorem s_M_image_l74 {E : sx_E} {d : Nat} (hd : 3 ≤ d) {x1 : Int} {K103 : zi_M → Prop} {Q : Int → zi_M → Prop} {l2 : Int} {g : zi_M} (h : ∃ f, w_M_image_l74 K103 Q f l2 g) (hK103 : ∀ (g : zi_M), K103 g → zi_W E d 320 103 [some (.ref 214), some (zi_i x1), none] [] g (zi_Qb Q)) : zi_W E d 320 74 [some (.ref 214), some (zi_i x1), some (zi_i l2)] [] g (zi_Qb Q) := by
  obtain ⟨f, h⟩ := h
  exact s_M_image_l74_r hd hK103 f h
set_option maxRecDepth 100000 in
theorem s_M_image_b18 {E : sx_E} {d : Nat} (hd : 3 ≤ d) {l1 : Int} {Q : Int → zi_M → Prop} {g : zi_M} (h : w_M_image_b18 l1 g Q) : zi_W E d 320 18 [some (.ref 214), some (zi_i l1), none] [] g (zi_Qb Q) := by
  unfold w_M_image_b18 at h
  refine zi_aload_n (pc' := 19) rfl rfl rfl ?_
  refine zi_iload_n (pc' := 20) rfl rfl rfl ?_
  obtain ⟨o3, h⟩ := h
  refine zi_putz (pc' := 23) 61 rfl rfl rfl rfl rfl o3 ?_
  replace h := h _ rfl
  refine zi_aload_n (pc' := 24) rfl rfl rfl ?_
  refine zi_iconst (pc' := 25) rfl rfl ?_
  refine zi_putz (pc' := 28) 62 rfl rfl rfl rfl rfl (Or.inr rfl) ?_
  replace h := h _ rfl
  refine zi_aload_n (pc' := 29) rfl rfl rfl ?_
  refine zi_iconst (pc' := 30) rfl rfl ?_
  refine zi_puti (pc' := 33) 63 rfl rfl rfl rfl rfl  ?_
  replace h := h _ rfl
  refine zi_iconst (pc' := 34) rfl rfl ?_
  refine zi_istore_n (pc' := 35) [some _, some _, some _] rfl rfl rfl ?_
  refine zi_wk (s_M_image_l35 hd h (fun g14 h => ?_)) (And.intro rfl (And.intro rfl (And.intro rfl trivial)))
  refine zi_aload_n (pc' := 65) rfl rfl rfl ?_
  refine zi_callV (d' := 2) (as := []) (pc' := 68) rfl rfl rfl rfl (Nat.lt_of_lt_of_le (by decide) hd) (s_M_keepsMany (Nat.le_refl _) h) (zi_kv (fun g16 h => ?_))
  refine zi_aload_n (pc' := 69) rfl rfl rfl ?_
  refine zi_callV (d' := 2) (as := []) (pc' := 72) rfl rfl rfl rfl (Nat.lt_of_lt_of_le (by decide) hd) (s_M_keepsTold (Nat.le_refl _) h) (zi_kv (fun g19 h => ?_))
  refine zi_iconst (pc' := 73) rfl rfl ?_
  refine zi_istore_n (pc' := 74) [some _, some _, some _] rfl rfl rfl ?_
  refine zi_wk (s_M_image_l74 hd h (fun g28 h => ?_)) (And.intro rfl (And.intro rfl (And.intro rfl trivial)))
  refine zi_aload_n (pc' := 104) rfl rfl rfl ?_
  refine zi_callV (d' := 2) (as := []) (pc' := 107) rfl rfl rfl rfl (Nat.lt_of_lt_of_le (by decide) hd) (s_M_keepsLaw (Nat.le_refl _) h) (zi_kv (fun g30 h => ?_))
  refine zi_iload_n (pc' := 108) rfl rfl rfl ?_
  obtain ⟨o32, h⟩ := h
  refine zi_if_ne (x := 116) (pc' := 111) rfl rfl o32  (fun c34 => ?_) (fun c34 => ?_)
  · replace h := h.1 c34
    refine zi_iconst (pc' := 117) rfl rfl ?_
    exact zi_zret rfl rfl (Or.inr rfl) h
  · replace h := h.2 c34
    refine zi_aload_n (pc' := 112) rfl rfl rfl ?_
    refine zi_iconst (pc' := 113) rfl rfl ?_
    refine zi_puti (pc' := 116) 3 rfl rfl rfl rfl rfl  ?_
    replace h := h _ rfl
    refine zi_iconst (pc' := 117) rfl rfl ?_
    exact zi_zret rfl rfl (Or.inr rfl) h
set_option maxRecDepth 100000 in
theorem s_M_image {E : sx_E} {d : Nat} (hd : 3 ≤ d) {l1 : Int} {g : zi_M} {Q : Int → zi_M → Prop} (h : w_M_image l1 g Q) : zi_S E d 320 [.ref 214, zi_i l1] g (zi_Qb Q) := by
  refine zi_Sof jf_320 [some (.ref 214), some (zi_i l1), none] rfl (And.intro rfl (And.intro rfl trivial)) ?_
  unfold w_M_image at h
  refine zi_aload_n (pc' := 1) rfl rfl rfl ?_
  refine zi_iconst (pc' := 2) rfl rfl ?_
  refine zi_puti (pc' := 5) 0 rfl rfl rfl rfl rfl  ?_
  replace h := h _ rfl
  refine zi_iload_n (pc' := 6) rfl rfl rfl ?_
  obtain ⟨o2, h⟩ := h
  refine zi_if_ne (x := 18) (pc' := 9) rfl rfl o2  (fun c39 => ?_) (fun c39 => ?_)
  · replace h := h.1 c39
    exact zi_wk (s_M_image_b18 hd h) (And.intro rfl (And.intro rfl trivial))
  · replace h := h.2 c39
    refine zi_aload_n (pc' := 10) rfl rfl rfl ?_
    refine zi_geti (pc' := 13) 62 rfl rfl rfl rfl rfl rfl ?_
    obtain ⟨o37, h⟩ := h
    refine zi_if_ne (x := 18) (pc' := 16) rfl rfl o37  (fun c38 => ?_) (fun c38 => ?_)
    · replace h := h.1 c38
      exact zi_wk (s_M_image_b18 hd h) (And.intro rfl (And.intro rfl trivial))
    · replace h := h.2 c38
      refine zi_iconst (pc' := 17) rfl rfl ?_
      exact zi_zret rfl rfl (Or.inl rfl) h
-- SpoutNews.look(I)I
noncomputable def w_S_look (l1 : Int) (g : zi_M) (Q : Int → zi_M → Prop) : Prop := (zi_r l1 ∧ ((l1 < 0 ∨ 12 < l1 → Q (-1) g) ∧ (l1 = 0 → Q (g 2 8) g) ∧ (l1 = 1 → Q (g 2 11) g) ∧ (l1 = 2 → Q (g 2 14) g) ∧ (l1 = 3 → Q (g 2 15) g) ∧ (l1 = 4 → Q (g 2 16) g) ∧ (l1 = 5 → Q (g 2 17) g) ∧ (l1 = 6 → Q (g 2 19) g) ∧ (l1 = 7 → Q (g 2 18) g) ∧ (l1 = 8 → Q (g 20 7) g) ∧ (l1 = 9 → Q (g 19 2) g) ∧ (l1 = 10 → Q (g 19 5) g) ∧ (l1 = 11 → Q (g 19 10) g) ∧ (l1 = 12 → Q (g 91 1) g)))
set_option maxRecDepth 100000 in
theorem s_S_look {E : sx_E} {d : Nat} (hd : 1 ≤ d) {l1 : Int} {g : zi_M} {Q : Int → zi_M → Prop} (h : w_S_look l1 g Q) : zi_S E d 187 [.ref 0, zi_i l1] g (zi_Q Q) := by
  refine zi_Sof jf_187 [some (.ref 0), some (zi_i l1), none, none] rfl (And.intro rfl (And.intro rfl trivial)) ?_
  unfold w_S_look at h
  refine zi_aload_n (pc' := 1) rfl rfl rfl ?_
  refine zi_getr (pc' := 4) rfl rfl rfl rfl rfl ?_
  refine zi_getr (pc' := 7) rfl rfl rfl rfl rfl ?_
  refine zi_astore_n (pc' := 8) [some _, some _, some _, none] rfl rfl rfl ?_
  refine zi_aload_n (pc' := 9) rfl rfl rfl ?_
  refine zi_getr (pc' := 12) rfl rfl rfl rfl rfl ?_
  refine zi_getr (pc' := 15) rfl rfl rfl rfl rfl ?_
  refine zi_astore_n (pc' := 16) [some _, some _, some _, some _] rfl rfl rfl ?_
  refine zi_iload_n (pc' := 17) rfl rfl rfl ?_
  obtain ⟨o1, h⟩ := h
  refine zi_tsw [(0, 84), (1, 89), (2, 94), (3, 99), (4, 104), (5, 109), (6, 114), (7, 119), (8, 124), (9, 132), (10, 137), (11, 142), (12, 147)] 155 rfl rfl o1 (fun c2 => ?_) (And.intro (fun c2 => ?_) (And.intro (fun c2 => ?_) (And.intro (fun c2 => ?_) (And.intro (fun c2 => ?_) (And.intro (fun c2 => ?_) (And.intro (fun c2 => ?_) (And.intro (fun c2 => ?_) (And.intro (fun c2 => ?_) (And.intro (fun c2 => ?_) (And.intro (fun c2 => ?_) (And.intro (fun c2 => ?_) (And.intro (fun c2 => ?_) (And.intro (fun c2 => ?_) trivial)))))))))))))
  · replace h := h.1 c2
    refine zi_iconst (pc' := 156) rfl rfl ?_
    exact zi_iret rfl rfl h
  · replace h := h.2.1 c2
    refine zi_aload_n (pc' := 85) rfl rfl rfl ?_
    refine zi_geti (pc' := 88) 8 rfl rfl rfl rfl rfl rfl ?_
    exact zi_iret rfl rfl h
  · replace h := h.2.2.1 c2
    refine zi_aload_n (pc' := 90) rfl rfl rfl ?_
    refine zi_geti (pc' := 93) 11 rfl rfl rfl rfl rfl rfl ?_
    exact zi_iret rfl rfl h
  · replace h := h.2.2.2.1 c2
    refine zi_aload_n (pc' := 95) rfl rfl rfl ?_
    refine zi_geti (pc' := 98) 14 rfl rfl rfl rfl rfl rfl ?_
    exact zi_iret rfl rfl h
  · replace h := h.2.2.2.2.1 c2
    refine zi_aload_n (pc' := 100) rfl rfl rfl ?_
    refine zi_geti (pc' := 103) 15 rfl rfl rfl rfl rfl rfl ?_
    exact zi_iret rfl rfl h
  · replace h := h.2.2.2.2.2.1 c2
    refine zi_aload_n (pc' := 105) rfl rfl rfl ?_
    refine zi_geti (pc' := 108) 16 rfl rfl rfl rfl rfl rfl ?_
    exact zi_iret rfl rfl h
  · replace h := h.2.2.2.2.2.2.1 c2
    refine zi_aload_n (pc' := 110) rfl rfl rfl ?_
    refine zi_geti (pc' := 113) 17 rfl rfl rfl rfl rfl rfl ?_
    exact zi_iret rfl rfl h
  · replace h := h.2.2.2.2.2.2.2.1 c2
    refine zi_aload_n (pc' := 115) rfl rfl rfl ?_
    refine zi_geti (pc' := 118) 19 rfl rfl rfl rfl rfl rfl ?_
    exact zi_iret rfl rfl h
  · replace h := h.2.2.2.2.2.2.2.2.1 c2
    refine zi_aload_n (pc' := 120) rfl rfl rfl ?_
    refine zi_geti (pc' := 123) 18 rfl rfl rfl rfl rfl rfl ?_
    exact zi_iret rfl rfl h
  · replace h := h.2.2.2.2.2.2.2.2.2.1 c2
    refine zi_aload_n (pc' := 125) rfl rfl rfl ?_
    refine zi_getr (pc' := 128) rfl rfl rfl rfl rfl ?_
    refine zi_geti (pc' := 131) 7 rfl rfl rfl rfl rfl rfl ?_
    exact zi_iret rfl rfl h
  · replace h := h.2.2.2.2.2.2.2.2.2.2.1 c2
    refine zi_aload_n (pc' := 133) rfl rfl rfl ?_
    refine zi_geti (pc' := 136) 2 rfl rfl rfl rfl rfl rfl ?_
    exact zi_iret rfl rfl h
  · replace h := h.2.2.2.2.2.2.2.2.2.2.2.1 c2
    refine zi_aload_n (pc' := 138) rfl rfl rfl ?_
    refine zi_geti (pc' := 141) 5 rfl rfl rfl rfl rfl rfl ?_
    exact zi_iret rfl rfl h
  · replace h := h.2.2.2.2.2.2.2.2.2.2.2.2.1 c2
    refine zi_aload_n (pc' := 143) rfl rfl rfl ?_
    refine zi_geti (pc' := 146) 10 rfl rfl rfl rfl rfl rfl ?_
    exact zi_iret rfl rfl h
  · replace h := h.2.2.2.2.2.2.2.2.2.2.2.2.2 c2
    refine zi_aload_n (pc' := 148) rfl rfl rfl ?_
    refine zi_getr (pc' := 151) rfl rfl rfl rfl rfl ?_
    refine zi_geti (pc' := 154) 1 rfl rfl rfl rfl rfl rfl ?_
    exact zi_iret rfl rfl h
-- SpoutNewsModel.look(I)I
noncomputable def w_M_look (l1 : Int) (g : zi_M) (Q : Int → zi_M → Prop) : Prop := (∀ g1, g1 = zi_u g 214 0 0 → (zi_r l1 ∧ ((¬ l1 = 0 → ((¬ l1 = 1 → ((¬ l1 = 2 → ((¬ l1 = 3 → ((¬ l1 = 4 → ((¬ l1 = 5 → ((¬ l1 = 6 → ((¬ l1 = 7 → ((¬ l1 = 8 → ((¬ l1 = 9 → ((¬ l1 = 10 → ((¬ l1 = 11 → ((¬ l1 = 12 → Q (-1) g1) ∧ (l1 = 12 → Q (g1 214 3) g1))) ∧ (l1 = 11 → Q (g1 214 39) g1))) ∧ (l1 = 10 → Q (g1 214 37) g1))) ∧ (l1 = 9 → Q (g1 214 35) g1))) ∧ (l1 = 8 → Q (g1 224 0) g1))) ∧ (l1 = 7 → Q (g1 215 1) g1))) ∧ (l1 = 6 → Q (g1 215 2) g1))) ∧ (l1 = 5 → Q (g1 215 0) g1))) ∧ (l1 = 4 → Q (g1 215 5) g1))) ∧ (l1 = 3 → Q (g1 215 4) g1))) ∧ (l1 = 2 → Q (g1 215 3) g1))) ∧ (l1 = 1 → Q (g1 214 7) g1))) ∧ (l1 = 0 → Q (g1 214 6) g1))))
set_option maxRecDepth 100000 in
theorem s_M_look {E : sx_E} {d : Nat} (hd : 1 ≤ d) {l1 : Int} {g : zi_M} {Q : Int → zi_M → Prop} (h : w_M_look l1 g Q) : zi_S E d 325 [.ref 214, zi_i l1] g (zi_Q Q) := by
  refine zi_Sof jf_325 [some (.ref 214), some (zi_i l1)] rfl (And.intro rfl (And.intro rfl trivial)) ?_
  unfold w_M_look at h
  refine zi_aload_n (pc' := 1) rfl rfl rfl ?_
  refine zi_iconst (pc' := 2) rfl rfl ?_
  refine zi_puti (pc' := 5) 0 rfl rfl rfl rfl rfl  ?_
  replace h := h _ rfl
  refine zi_iload_n (pc' := 6) rfl rfl rfl ?_
  obtain ⟨o2, h⟩ := h
  refine zi_if_ne (x := 14) (pc' := 9) rfl rfl o2  (fun c15 => ?_) (fun c15 => ?_)
  · replace h := h.1 c15
    refine zi_iload_n (pc' := 15) rfl rfl rfl ?_
    refine zi_iconst (pc' := 16) rfl rfl ?_
    refine zi_icmp_ne (x := 24) (pc' := 19) rfl rfl o2 (by decide) (fun c14 => ?_) (fun c14 => ?_)
    · replace h := h.1 c14
      refine zi_iload_n (pc' := 25) rfl rfl rfl ?_
      refine zi_iconst (pc' := 26) rfl rfl ?_
      refine zi_icmp_ne (x := 36) (pc' := 29) rfl rfl o2 (by decide) (fun c13 => ?_) (fun c13 => ?_)
      · replace h := h.1 c13
        refine zi_iload_n (pc' := 37) rfl rfl rfl ?_
        refine zi_iconst (pc' := 38) rfl rfl ?_
        refine zi_icmp_ne (x := 48) (pc' := 41) rfl rfl o2 (by decide) (fun c12 => ?_) (fun c12 => ?_)
        · replace h := h.1 c12
          refine zi_iload_n (pc' := 49) rfl rfl rfl ?_
          refine zi_iconst (pc' := 50) rfl rfl ?_
          refine zi_icmp_ne (x := 60) (pc' := 53) rfl rfl o2 (by decide) (fun c11 => ?_) (fun c11 => ?_)
          · replace h := h.1 c11
            refine zi_iload_n (pc' := 61) rfl rfl rfl ?_
            refine zi_iconst (pc' := 62) rfl rfl ?_
            refine zi_icmp_ne (x := 72) (pc' := 65) rfl rfl o2 (by decide) (fun c10 => ?_) (fun c10 => ?_)
            · replace h := h.1 c10
              refine zi_iload_n (pc' := 73) rfl rfl rfl ?_
              refine zi_bipush (pc' := 75) rfl rfl (by decide) ?_
              refine zi_icmp_ne (x := 85) (pc' := 78) rfl rfl o2 (by decide) (fun c9 => ?_) (fun c9 => ?_)
              · replace h := h.1 c9
                refine zi_iload_n (pc' := 86) rfl rfl rfl ?_
                refine zi_bipush (pc' := 88) rfl rfl (by decide) ?_
                refine zi_icmp_ne (x := 98) (pc' := 91) rfl rfl o2 (by decide) (fun c8 => ?_) (fun c8 => ?_)
                · replace h := h.1 c8
                  refine zi_iload_n (pc' := 99) rfl rfl rfl ?_
                  refine zi_bipush (pc' := 101) rfl rfl (by decide) ?_
                  refine zi_icmp_ne (x := 111) (pc' := 104) rfl rfl o2 (by decide) (fun c7 => ?_) (fun c7 => ?_)
                  · replace h := h.1 c7
                    refine zi_iload_n (pc' := 112) rfl rfl rfl ?_
                    refine zi_bipush (pc' := 114) rfl rfl (by decide) ?_
                    refine zi_icmp_ne (x := 122) (pc' := 117) rfl rfl o2 (by decide) (fun c6 => ?_) (fun c6 => ?_)
                    · replace h := h.1 c6
                      refine zi_iload_n (pc' := 123) rfl rfl rfl ?_
                      refine zi_bipush (pc' := 125) rfl rfl (by decide) ?_
                      refine zi_icmp_ne (x := 133) (pc' := 128) rfl rfl o2 (by decide) (fun c5 => ?_) (fun c5 => ?_)
                      · replace h := h.1 c5
                        refine zi_iload_n (pc' := 134) rfl rfl rfl ?_
                        refine zi_bipush (pc' := 136) rfl rfl (by decide) ?_
                        refine zi_icmp_ne (x := 144) (pc' := 139) rfl rfl o2 (by decide) (fun c4 => ?_) (fun c4 => ?_)
                        · replace h := h.1 c4
                          refine zi_iload_n (pc' := 145) rfl rfl rfl ?_
                          refine zi_bipush (pc' := 147) rfl rfl (by decide) ?_
                          refine zi_icmp_ne (x := 157) (pc' := 150) rfl rfl o2 (by decide) (fun c3 => ?_) (fun c3 => ?_)
                          · replace h := h.1 c3
                            refine zi_iconst (pc' := 158) rfl rfl ?_
                            exact zi_iret rfl rfl h
                          · replace h := h.2 c3
                            refine zi_aload_n (pc' := 151) rfl rfl rfl ?_
                            refine zi_geti (pc' := 154) 3 rfl rfl rfl rfl rfl rfl ?_
                            refine zi_goto (x := 158) rfl ?_
                            exact zi_iret rfl rfl h
                        · replace h := h.2 c4
                          refine zi_aload_n (pc' := 140) rfl rfl rfl ?_
                          refine zi_geti (pc' := 143) 39 rfl rfl rfl rfl rfl rfl ?_
                          exact zi_iret rfl rfl h
                      · replace h := h.2 c5
                        refine zi_aload_n (pc' := 129) rfl rfl rfl ?_
                        refine zi_geti (pc' := 132) 37 rfl rfl rfl rfl rfl rfl ?_
                        exact zi_iret rfl rfl h
                    · replace h := h.2 c6
                      refine zi_aload_n (pc' := 118) rfl rfl rfl ?_
                      refine zi_geti (pc' := 121) 35 rfl rfl rfl rfl rfl rfl ?_
                      exact zi_iret rfl rfl h
                  · replace h := h.2 c7
                    refine zi_aload_n (pc' := 105) rfl rfl rfl ?_
                    refine zi_getr (pc' := 108) rfl rfl rfl rfl rfl ?_
                    refine zi_iconst (pc' := 109) rfl rfl ?_
                    refine zi_iald (pc' := 110) rfl rfl rfl (by decide) ?_
                    exact zi_iret rfl rfl h
                · replace h := h.2 c8
                  refine zi_aload_n (pc' := 92) rfl rfl rfl ?_
                  refine zi_getr (pc' := 95) rfl rfl rfl rfl rfl ?_
                  refine zi_iconst (pc' := 96) rfl rfl ?_
                  refine zi_iald (pc' := 97) rfl rfl rfl (by decide) ?_
                  exact zi_iret rfl rfl h
              · replace h := h.2 c9
                refine zi_aload_n (pc' := 79) rfl rfl rfl ?_
                refine zi_getr (pc' := 82) rfl rfl rfl rfl rfl ?_
                refine zi_iconst (pc' := 83) rfl rfl ?_
                refine zi_iald (pc' := 84) rfl rfl rfl (by decide) ?_
                exact zi_iret rfl rfl h
            · replace h := h.2 c10
              refine zi_aload_n (pc' := 66) rfl rfl rfl ?_
              refine zi_getr (pc' := 69) rfl rfl rfl rfl rfl ?_
              refine zi_iconst (pc' := 70) rfl rfl ?_
              refine zi_iald (pc' := 71) rfl rfl rfl (by decide) ?_
              exact zi_iret rfl rfl h
          · replace h := h.2 c11
            refine zi_aload_n (pc' := 54) rfl rfl rfl ?_
            refine zi_getr (pc' := 57) rfl rfl rfl rfl rfl ?_
            refine zi_iconst (pc' := 58) rfl rfl ?_
            refine zi_iald (pc' := 59) rfl rfl rfl (by decide) ?_
            exact zi_iret rfl rfl h
        · replace h := h.2 c12
          refine zi_aload_n (pc' := 42) rfl rfl rfl ?_
          refine zi_getr (pc' := 45) rfl rfl rfl rfl rfl ?_
          refine zi_iconst (pc' := 46) rfl rfl ?_
          refine zi_iald (pc' := 47) rfl rfl rfl (by decide) ?_
          exact zi_iret rfl rfl h
      · replace h := h.2 c13
        refine zi_aload_n (pc' := 30) rfl rfl rfl ?_
        refine zi_getr (pc' := 33) rfl rfl rfl rfl rfl ?_
        refine zi_iconst (pc' := 34) rfl rfl ?_
        refine zi_iald (pc' := 35) rfl rfl rfl (by decide) ?_
        exact zi_iret rfl rfl h
    · replace h := h.2 c14
      refine zi_aload_n (pc' := 20) rfl rfl rfl ?_
      refine zi_geti (pc' := 23) 7 rfl rfl rfl rfl rfl rfl ?_
      exact zi_iret rfl rfl h
  · replace h := h.2 c15
    refine zi_aload_n (pc' := 10) rfl rfl rfl ?_
    refine zi_geti (pc' := 13) 6 rfl rfl rfl rfl rfl rfl ?_
    exact zi_iret rfl rfl h
