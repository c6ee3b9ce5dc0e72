-- by program (wip/gen/mkz.py)
-- SpoutNews$Tokens.sameLetters([IILjava/lang/String;II)Z
noncomputable def w_Tokens_sameLetters_l3 (r2 : Nat) (l1 : Int) (l3 : Int) (l4 : Int) (K27 : zi_M → Prop) (K35 : zi_M → Prop) (Q : Int → zi_M → Prop) : Nat → Int → zi_M → Prop
  | 0, _, _ => False
  | f + 1, l5, g => (zi_r l5 ∧ zi_r l4 ∧ ((l4 ≤ l5 → K35 g) ∧ (l5 < l4 → ((0 ≤ ((l1 + l5) - l3) ∧ ((l1 + l5) - l3) < 400) ∧ ((0 ≤ l5 ∧ l5 < zs_sl r2) ∧ (zi_r (g 190 ((l1 + l5) - l3)) ∧ (((g 190 ((l1 + l5) - l3)) = (zs_sc r2 l5) → w_Tokens_sameLetters_l3 r2 l1 l3 l4 K27 K35 Q f (l5 + 1) g) ∧ (¬ (g 190 ((l1 + l5) - l3)) = (zs_sc r2 l5) → K27 g))))))))
noncomputable def w_Tokens_sameLetters (r2 : Nat) (l1 : Int) (l3 : Int) (l4 : Int) (g : zi_M) (Q : Int → zi_M → Prop) : Prop := (∃ f10, w_Tokens_sameLetters_l3 r2 l1 l3 l4 (fun g8 => Q 0 g8) (fun g9 => Q 1 g9) Q f10 l3 g)
set_option maxRecDepth 100000 in
theorem s_Tokens_sameLetters_l3_r {E : sx_E} {d : Nat} (hd : 8 ≤ d) {r2 : Nat} (hr2 : zs_str r2) {l1 : Int} {l3 : Int} {l4 : Int} {K27 : zi_M → Prop} {K35 : zi_M → Prop} {Q : Int → zi_M → Prop} (hK27 : ∀ (g : zi_M), K27 g → zi_W E d 75 27 [some (.ref 190), some (zi_i l1), some (.ref r2), some (zi_i l3), some (zi_i l4), none] [] g (zi_Qb Q)) (hK35 : ∀ (g : zi_M), K35 g → zi_W E d 75 35 [some (.ref 190), some (zi_i l1), some (.ref r2), some (zi_i l3), some (zi_i l4), none] [] g (zi_Qb Q)) : ∀ (f : Nat) {l5 : Int} {g : zi_M}, w_Tokens_sameLetters_l3 r2 l1 l3 l4 K27 K35 Q f l5 g → zi_W E d 75 3 [some (.ref 190), some (zi_i l1), some (.ref r2), some (zi_i l3), some (zi_i l4), some (zi_i l5)] [] g (zi_Qb Q)
  | 0, _, _, h => False.elim h
  | f + 1, l5, g, h => by
    refine zi_iload (pc' := 5) rfl rfl rfl ?_
    refine zi_iload (pc' := 7) rfl rfl rfl ?_
    obtain ⟨o1, o2, h⟩ := h
    refine zi_icmp_ge (x := 35) (pc' := 10) rfl rfl o1 o2 (fun c7 => ?_) (fun c7 => ?_)
    · replace h := h.1 c7
      exact zi_wk (hK35 _ h) (And.intro rfl (And.intro rfl (And.intro rfl (And.intro rfl (And.intro rfl trivial)))))
    · replace h := h.2 c7
      refine zi_aload_n (pc' := 11) rfl rfl rfl ?_
      refine zi_iload_n (pc' := 12) rfl rfl rfl ?_
      refine zi_iload (pc' := 14) rfl rfl rfl ?_
      refine zi_iadd (pc' := 15) rfl rfl ?_
      refine zi_iload_n (pc' := 16) rfl rfl rfl ?_
      refine zi_isub (pc' := 17) rfl rfl ?_
      obtain ⟨o3, h⟩ := h
      refine zi_iald (pc' := 18) rfl rfl rfl o3 ?_
      refine zi_aload_n (pc' := 19) rfl rfl rfl ?_
      refine zi_iload (pc' := 21) rfl rfl rfl ?_
      obtain ⟨o4, h⟩ := h
      refine zi_schr (pc' := 24) rfl rfl hr2 o4 (Nat.le_trans (by decide) hd) rfl ?_
      obtain ⟨o5, h⟩ := h
      refine zi_icmp_eq (x := 29) (pc' := 27) rfl rfl o5 (zs_scr _ _) (fun c6 => ?_) (fun c6 => ?_)
      · replace h := h.1 c6
        refine zi_iinc (pc' := 32) [some _, some _, some _, some _, some _, some _] rfl rfl rfl rfl ?_
        refine zi_goto (x := 3) rfl ?_
        exact zi_wk (s_Tokens_sameLetters_l3_r hd hr2 hK27 hK35 f h) (And.intro rfl (And.intro rfl (And.intro rfl (And.intro rfl (And.intro rfl (And.intro rfl trivial))))))
      · replace h := h.2 c6
        exact zi_wk (hK27 _ h) (And.intro rfl (And.intro rfl (And.intro rfl (And.intro rfl (And.intro rfl trivial)))))
set_option maxRecDepth 100000 in
theorem s_Tokens_sameLetters_l3 {E : sx_E} {d : Nat} (hd : 8 ≤ d) {r2 : Nat} (hr2 : zs_str r2) {l1 : Int} {l3 : Int} {l4 : Int} {K27 : zi_M → Prop} {K35 : zi_M → Prop} {Q : Int → zi_M → Prop} {l5 : Int} {g : zi_M} (h : ∃ f, w_Tokens_sameLetters_l3 r2 l1 l3 l4 K27 K35 Q f l5 g) (hK27 : ∀ (g : zi_M), K27 g → zi_W E d 75 27 [some (.ref 190), some (zi_i l1), some (.ref r2), some (zi_i l3), some (zi_i l4), none] [] g (zi_Qb Q)) (hK35 : ∀ (g : zi_M), K35 g → zi_W E d 75 35 [some (.ref 190), some (zi_i l1), some (.ref r2), some (zi_i l3), some (zi_i l4), none] [] g (zi_Qb Q)) : zi_W E d 75 3 [some (.ref 190), some (zi_i l1), some (.ref r2), some (zi_i l3), some (zi_i l4), some (zi_i l5)] [] g (zi_Qb Q) := by
  obtain ⟨f, h⟩ := h
  exact s_Tokens_sameLetters_l3_r hd hr2 hK27 hK35 f h
set_option maxRecDepth 100000 in
theorem s_Tokens_sameLetters {E : sx_E} {d : Nat} (hd : 8 ≤ d) {r2 : Nat} (hr2 : zs_str r2) {l1 : Int} {l3 : Int} {l4 : Int} {g : zi_M} {Q : Int → zi_M → Prop} (h : w_Tokens_sameLetters r2 l1 l3 l4 g Q) : zi_S E d 75 [.ref 190, zi_i l1, .ref r2, zi_i l3, zi_i l4] g (zi_Qb Q) := by
  refine zi_Sof jf_75 [some (.ref 190), some (zi_i l1), some (.ref r2), some (zi_i l3), some (zi_i l4), none] rfl (And.intro rfl (And.intro rfl (And.intro rfl (And.intro rfl (And.intro rfl trivial))))) ?_
  unfold w_Tokens_sameLetters at h
  refine zi_iload_n (pc' := 1) rfl rfl rfl ?_
  refine zi_istore (pc' := 3) [some _, some _, some _, some _, some _, some _] rfl rfl rfl ?_
  refine zi_wk (s_Tokens_sameLetters_l3 hd hr2 h (fun g8 h => ?_) (fun g9 h => ?_)) (And.intro rfl (And.intro rfl (And.intro rfl (And.intro rfl (And.intro rfl (And.intro rfl trivial))))))
  · refine zi_iconst (pc' := 28) rfl rfl ?_
    exact zi_zret rfl rfl (Or.inl rfl) h
  · refine zi_iconst (pc' := 36) rfl rfl ?_
    exact zi_zret rfl rfl (Or.inr rfl) h
-- SpoutNews$Tokens.keywordAt([IIILjava/lang/String;)I
noncomputable def w_Tokens_keywordAt_b74 (r3 : Nat) (l1 : Int) (l2 : Int) (l4 : Int) (l5 : Int) (l6 : Int) (s0 : Int) (g : zi_M) (H : Int → Int → Int → zi_M → Prop) (K94 : Int → zi_M → Prop) (K112 : zi_M → Prop) (Q : Int → zi_M → Prop) : Prop := (zi_r s0 ∧ ((s0 = 0 → H (l4 + 1) (l6 + 1) (l6 + 1) g) ∧ (¬ s0 = 0 → w_Tokens_sameLetters r3 l1 l5 l6 g (fun v5 g6 => ((v5 = 0 → H (l4 + 1) (l6 + 1) (l6 + 1) g6) ∧ (¬ v5 = 0 → K94 l4 g6))))))
noncomputable def w_Tokens_keywordAt_b38 (r3 : Nat) (l1 : Int) (l2 : Int) (l4 : Int) (l5 : Int) (l6 : Int) (g : zi_M) (H : Int → Int → Int → zi_M → Prop) (K94 : Int → zi_M → Prop) (K112 : zi_M → Prop) (Q : Int → zi_M → Prop) : Prop := (zi_r ((l1 + l6) - l5) ∧ zi_r l2 ∧ ((((l1 + l6) - l5) = l2 → w_Tokens_keywordAt_b74 r3 l1 l2 l4 l5 l6 1 g H K94 K112 Q) ∧ (¬ ((l1 + l6) - l5) = l2 → ((l2 ≤ ((l1 + l6) - l5) → w_Tokens_keywordAt_b74 r3 l1 l2 l4 l5 l6 0 g H K94 K112 Q) ∧ (((l1 + l6) - l5) < l2 → ((0 ≤ ((l1 + l6) - l5) ∧ ((l1 + l6) - l5) < 400) ∧ w_Tokens_isLetter (g 190 ((l1 + l6) - l5)) g (fun v11 g12 => ((¬ v11 = 0 → w_Tokens_keywordAt_b74 r3 l1 l2 l4 l5 l6 0 g12 H K94 K112 Q) ∧ (v11 = 0 → w_Tokens_keywordAt_b74 r3 l1 l2 l4 l5 l6 1 g12 H K94 K112 Q)))))))))
noncomputable def w_Tokens_keywordAt_l9 (r3 : Nat) (l1 : Int) (l2 : Int) (K94 : Int → zi_M → Prop) (K112 : zi_M → Prop) (Q : Int → zi_M → Prop) : Nat → Int → Int → Int → zi_M → Prop
  | 0, _, _, _, _ => False
  | f + 1, l4, l5, l6, g => (zi_r l6 ∧ (((zs_sl r3) < l6 → K112 g) ∧ (l6 ≤ (zs_sl r3) → ((l6 = (zs_sl r3) → w_Tokens_keywordAt_b38 r3 l1 l2 l4 l5 l6 g (w_Tokens_keywordAt_l9 r3 l1 l2 K94 K112 Q f) K94 K112 Q) ∧ (¬ l6 = (zs_sl r3) → ((0 ≤ l6 ∧ l6 < zs_sl r3) ∧ ((¬ (zs_sc r3 l6) = 32 → w_Tokens_keywordAt_l9 r3 l1 l2 K94 K112 Q f l4 l5 (l6 + 1) g) ∧ ((zs_sc r3 l6) = 32 → w_Tokens_keywordAt_b38 r3 l1 l2 l4 l5 l6 g (w_Tokens_keywordAt_l9 r3 l1 l2 K94 K112 Q f) K94 K112 Q))))))))
noncomputable def w_Tokens_keywordAt (r3 : Nat) (l1 : Int) (l2 : Int) (g : zi_M) (Q : Int → zi_M → Prop) : Prop := (∃ f24, w_Tokens_keywordAt_l9 r3 l1 l2 (fun k21 g22 => Q k21 g22) (fun g23 => Q (-1) g23) Q f24 0 0 0 g)
set_option maxRecDepth 100000 in
theorem s_Tokens_keywordAt_b74 {E : sx_E} {d : Nat} (hd : 9 ≤ d) {r3 : Nat} (hr3 : zs_str r3) {l1 : Int} {l2 : Int} {l4 : Int} {l5 : Int} {l6 : Int} {s0 : Int} {H : Int → Int → Int → zi_M → Prop} {K94 : Int → zi_M → Prop} {K112 : zi_M → Prop} {Q : Int → zi_M → Prop} {g : zi_M} (h : w_Tokens_keywordAt_b74 r3 l1 l2 l4 l5 l6 s0 g H K94 K112 Q) (hH : ∀ (m4 : Int) (m5 : Int) (m6 : Int) (g : zi_M), H m4 m5 m6 g → zi_W E d 63 9 [some (.ref 190), some (zi_i l1), some (zi_i l2), some (.ref r3), some (zi_i m4), some (zi_i m5), some (zi_i m6), none, none] [] g (zi_Q Q)) (hK94 : ∀ (k4 : Int) (g : zi_M), K94 k4 g → zi_W E d 63 94 [some (.ref 190), some (zi_i l1), some (zi_i l2), some (.ref r3), some (zi_i k4), none, none, none, none] [] g (zi_Q Q)) (hK112 : ∀ (g : zi_M), K112 g → zi_W E d 63 112 [some (.ref 190), some (zi_i l1), some (zi_i l2), some (.ref r3), none, none, none, none, none] [] g (zi_Q Q)) : zi_W E d 63 74 [some (.ref 190), some (zi_i l1), some (zi_i l2), some (.ref r3), some (zi_i l4), some (zi_i l5), some (zi_i l6), none, none] [zi_i s0] g (zi_Q Q) := by
  unfold w_Tokens_keywordAt_b74 at h
  refine zi_istore (pc' := 76) [some _, some _, some _, some _, some _, some _, some _, none, some _] rfl rfl rfl ?_
  refine zi_iload (pc' := 78) rfl rfl rfl ?_
  obtain ⟨o4, h⟩ := h
  refine zi_if_eq (x := 97) (pc' := 81) rfl rfl o4  (fun c9 => ?_) (fun c9 => ?_)
  · replace h := h.1 c9
    refine zi_iinc (pc' := 100) [some _, some _, some _, some _, some _, some _, some _, none, some _] rfl rfl rfl rfl ?_
    refine zi_iload (pc' := 102) rfl rfl rfl ?_
    refine zi_iconst (pc' := 103) rfl rfl ?_
    refine zi_iadd (pc' := 104) rfl rfl ?_
    refine zi_istore (pc' := 106) [some _, some _, some _, some _, some _, some _, some _, none, some _] rfl rfl rfl ?_
    refine zi_iinc (pc' := 109) [some _, some _, some _, some _, some _, some _, some _, none, some _] rfl rfl rfl rfl ?_
    refine zi_goto (x := 9) rfl ?_
    exact zi_wk (hH _ _ _ _ h) (And.intro rfl (And.intro rfl (And.intro rfl (And.intro rfl (And.intro rfl (And.intro rfl (And.intro rfl trivial)))))))
  · replace h := h.2 c9
    refine zi_aload_n (pc' := 82) rfl rfl rfl ?_
    refine zi_iload_n (pc' := 83) rfl rfl rfl ?_
    refine zi_aload_n (pc' := 84) rfl rfl rfl ?_
    refine zi_iload (pc' := 86) rfl rfl rfl ?_
    refine zi_iload (pc' := 88) rfl rfl rfl ?_
    refine zi_callS (d' := 8) (as := [_, _, _, _, _]) (pc' := 91) rfl rfl rfl (Nat.lt_of_lt_of_le (by decide) hd) (s_Tokens_sameLetters (Nat.le_refl _) hr3 h) (zi_kb (fun v5 g6 b7 h => ?_))
    refine zi_if_eq (x := 97) (pc' := 94) rfl rfl (zi_r_bit b7)  (fun c8 => ?_) (fun c8 => ?_)
    · replace h := h.1 c8
      refine zi_iinc (pc' := 100) [some _, some _, some _, some _, some _, some _, some _, none, some _] rfl rfl rfl rfl ?_
      refine zi_iload (pc' := 102) rfl rfl rfl ?_
      refine zi_iconst (pc' := 103) rfl rfl ?_
      refine zi_iadd (pc' := 104) rfl rfl ?_
      refine zi_istore (pc' := 106) [some _, some _, some _, some _, some _, some _, some _, none, some _] rfl rfl rfl ?_
      refine zi_iinc (pc' := 109) [some _, some _, some _, some _, some _, some _, some _, none, some _] rfl rfl rfl rfl ?_
      refine zi_goto (x := 9) rfl ?_
      exact zi_wk (hH _ _ _ _ h) (And.intro rfl (And.intro rfl (And.intro rfl (And.intro rfl (And.intro rfl (And.intro rfl (And.intro rfl trivial)))))))
    · replace h := h.2 c8
      exact zi_wk (hK94 _ _ h) (And.intro rfl (And.intro rfl (And.intro rfl (And.intro rfl (And.intro rfl trivial)))))
set_option maxRecDepth 100000 in
theorem s_Tokens_keywordAt_b38 {E : sx_E} {d : Nat} (hd : 9 ≤ d) {r3 : Nat} (hr3 : zs_str r3) {l1 : Int} {l2 : Int} {l4 : Int} {l5 : Int} {l6 : Int} {H : Int → Int → Int → zi_M → Prop} {K94 : Int → zi_M → Prop} {K112 : zi_M → Prop} {Q : Int → zi_M → Prop} {g : zi_M} (h : w_Tokens_keywordAt_b38 r3 l1 l2 l4 l5 l6 g H K94 K112 Q) (hH : ∀ (m4 : Int) (m5 : Int) (m6 : Int) (g : zi_M), H m4 m5 m6 g → zi_W E d 63 9 [some (.ref 190), some (zi_i l1), some (zi_i l2), some (.ref r3), some (zi_i m4), some (zi_i m5), some (zi_i m6), none, none] [] g (zi_Q Q)) (hK94 : ∀ (k4 : Int) (g : zi_M), K94 k4 g → zi_W E d 63 94 [some (.ref 190), some (zi_i l1), some (zi_i l2), some (.ref r3), some (zi_i k4), none, none, none, none] [] g (zi_Q Q)) (hK112 : ∀ (g : zi_M), K112 g → zi_W E d 63 112 [some (.ref 190), some (zi_i l1), some (zi_i l2), some (.ref r3), none, none, none, none, none] [] g (zi_Q Q)) : zi_W E d 63 38 [some (.ref 190), some (zi_i l1), some (zi_i l2), some (.ref r3), some (zi_i l4), some (zi_i l5), some (zi_i l6), none, none] [] g (zi_Q Q) := by
  unfold w_Tokens_keywordAt_b38 at h
  refine zi_iload_n (pc' := 39) rfl rfl rfl ?_
  refine zi_iload (pc' := 41) rfl rfl rfl ?_
  refine zi_iadd (pc' := 42) rfl rfl ?_
  refine zi_iload (pc' := 44) rfl rfl rfl ?_
  refine zi_isub (pc' := 45) rfl rfl ?_
  refine zi_istore (pc' := 47) [some _, some _, some _, some _, some _, some _, some _, some _, none] rfl rfl rfl ?_
  refine zi_iload (pc' := 49) rfl rfl rfl ?_
  refine zi_iload_n (pc' := 50) rfl rfl rfl ?_
  obtain ⟨o2, o3, h⟩ := h
  refine zi_icmp_eq (x := 69) (pc' := 53) rfl rfl o2 o3 (fun c16 => ?_) (fun c16 => ?_)
  · replace h := h.1 c16
    refine zi_iconst (pc' := 70) rfl rfl ?_
    refine zi_goto (x := 74) rfl ?_
    exact zi_wk (s_Tokens_keywordAt_b74 hd hr3 h hH hK94 hK112) (And.intro rfl (And.intro rfl (And.intro rfl (And.intro rfl (And.intro rfl (And.intro rfl (And.intro rfl trivial)))))))
  · replace h := h.2 c16
    refine zi_iload (pc' := 55) rfl rfl rfl ?_
    refine zi_iload_n (pc' := 56) rfl rfl rfl ?_
    refine zi_icmp_ge (x := 73) (pc' := 59) rfl rfl o2 o3 (fun c15 => ?_) (fun c15 => ?_)
    · replace h := h.1 c15
      refine zi_iconst (pc' := 74) rfl rfl ?_
      exact zi_wk (s_Tokens_keywordAt_b74 hd hr3 h hH hK94 hK112) (And.intro rfl (And.intro rfl (And.intro rfl (And.intro rfl (And.intro rfl (And.intro rfl (And.intro rfl trivial)))))))
    · replace h := h.2 c15
      refine zi_aload_n (pc' := 60) rfl rfl rfl ?_
      refine zi_iload (pc' := 62) rfl rfl rfl ?_
      obtain ⟨o10, h⟩ := h
      refine zi_iald (pc' := 63) rfl rfl rfl o10 ?_
      refine zi_callS (d' := 1) (as := [_]) (pc' := 66) rfl rfl rfl (Nat.lt_of_lt_of_le (by decide) hd) (s_Tokens_isLetter (Nat.le_refl _) h) (zi_kb (fun v11 g12 b13 h => ?_))
      refine zi_if_ne (x := 73) (pc' := 69) rfl rfl (zi_r_bit b13)  (fun c14 => ?_) (fun c14 => ?_)
      · replace h := h.1 c14
        refine zi_iconst (pc' := 74) rfl rfl ?_
        exact zi_wk (s_Tokens_keywordAt_b74 hd hr3 h hH hK94 hK112) (And.intro rfl (And.intro rfl (And.intro rfl (And.intro rfl (And.intro rfl (And.intro rfl (And.intro rfl trivial)))))))
      · replace h := h.2 c14
        refine zi_iconst (pc' := 70) rfl rfl ?_
        refine zi_goto (x := 74) rfl ?_
        exact zi_wk (s_Tokens_keywordAt_b74 hd hr3 h hH hK94 hK112) (And.intro rfl (And.intro rfl (And.intro rfl (And.intro rfl (And.intro rfl (And.intro rfl (And.intro rfl trivial)))))))
set_option maxRecDepth 100000 in
theorem s_Tokens_keywordAt_l9_r {E : sx_E} {d : Nat} (hd : 9 ≤ d) {r3 : Nat} (hr3 : zs_str r3) {l1 : Int} {l2 : Int} {K94 : Int → zi_M → Prop} {K112 : zi_M → Prop} {Q : Int → zi_M → Prop} (hK94 : ∀ (k4 : Int) (g : zi_M), K94 k4 g → zi_W E d 63 94 [some (.ref 190), some (zi_i l1), some (zi_i l2), some (.ref r3), some (zi_i k4), none, none, none, none] [] g (zi_Q Q)) (hK112 : ∀ (g : zi_M), K112 g → zi_W E d 63 112 [some (.ref 190), some (zi_i l1), some (zi_i l2), some (.ref r3), none, none, none, none, none] [] g (zi_Q Q)) : ∀ (f : Nat) {l4 : Int} {l5 : Int} {l6 : Int} {g : zi_M}, w_Tokens_keywordAt_l9 r3 l1 l2 K94 K112 Q f l4 l5 l6 g → zi_W E d 63 9 [some (.ref 190), some (zi_i l1), some (zi_i l2), some (.ref r3), some (zi_i l4), some (zi_i l5), some (zi_i l6), none, none] [] g (zi_Q Q)
  | 0, _, _, _, _, h => False.elim h
  | f + 1, l4, l5, l6, g, h => by
    refine zi_iload (pc' := 11) rfl rfl rfl ?_
    refine zi_aload_n (pc' := 12) rfl rfl rfl ?_
    refine zi_slen (pc' := 15) rfl rfl hr3 (Nat.le_trans (by decide) hd) rfl ?_
    obtain ⟨o1, h⟩ := h
    refine zi_icmp_gt (x := 112) (pc' := 18) rfl rfl o1 (zs_slr hr3) (fun c20 => ?_) (fun c20 => ?_)
    · replace h := h.1 c20
      exact zi_wk (hK112 _ h) (And.intro rfl (And.intro rfl (And.intro rfl (And.intro rfl trivial))))
    · replace h := h.2 c20
      refine zi_iload (pc' := 20) rfl rfl rfl ?_
      refine zi_aload_n (pc' := 21) rfl rfl rfl ?_
      refine zi_slen (pc' := 24) rfl rfl hr3 (Nat.le_trans (by decide) hd) rfl ?_
      refine zi_icmp_eq (x := 38) (pc' := 27) rfl rfl o1 (zs_slr hr3) (fun c19 => ?_) (fun c19 => ?_)
      · replace h := h.1 c19
        exact zi_wk (s_Tokens_keywordAt_b38 hd hr3 h (fun _ _ _ _ h => s_Tokens_keywordAt_l9_r hd hr3 hK94 hK112 f h) hK94 hK112) (And.intro rfl (And.intro rfl (And.intro rfl (And.intro rfl (And.intro rfl (And.intro rfl (And.intro rfl trivial)))))))
      · replace h := h.2 c19
        refine zi_aload_n (pc' := 28) rfl rfl rfl ?_
        refine zi_iload (pc' := 30) rfl rfl rfl ?_
        obtain ⟨o17, h⟩ := h
        refine zi_schr (pc' := 33) rfl rfl hr3 o17 (Nat.le_trans (by decide) hd) rfl ?_
        refine zi_bipush (pc' := 35) rfl rfl (by decide) ?_
        refine zi_icmp_ne (x := 106) (pc' := 38) rfl rfl (zs_scr _ _) (by decide) (fun c18 => ?_) (fun c18 => ?_)
        · replace h := h.1 c18
          refine zi_iinc (pc' := 109) [some _, some _, some _, some _, some _, some _, some _, none, none] rfl rfl rfl rfl ?_
          refine zi_goto (x := 9) rfl ?_
          exact zi_wk (s_Tokens_keywordAt_l9_r hd hr3 hK94 hK112 f h) (And.intro rfl (And.intro rfl (And.intro rfl (And.intro rfl (And.intro rfl (And.intro rfl (And.intro rfl trivial)))))))
        · replace h := h.2 c18
          exact zi_wk (s_Tokens_keywordAt_b38 hd hr3 h (fun _ _ _ _ h => s_Tokens_keywordAt_l9_r hd hr3 hK94 hK112 f h) hK94 hK112) (And.intro rfl (And.intro rfl (And.intro rfl (And.intro rfl (And.intro rfl (And.intro rfl (And.intro rfl trivial)))))))
set_option maxRecDepth 100000 in
theorem s_Tokens_keywordAt_l9 {E : sx_E} {d : Nat} (hd : 9 ≤ d) {r3 : Nat} (hr3 : zs_str r3) {l1 : Int} {l2 : Int} {K94 : Int → zi_M → Prop} {K112 : zi_M → Prop} {Q : Int → zi_M → Prop} {l4 : Int} {l5 : Int} {l6 : Int} {g : zi_M} (h : ∃ f, w_Tokens_keywordAt_l9 r3 l1 l2 K94 K112 Q f l4 l5 l6 g) (hK94 : ∀ (k4 : Int) (g : zi_M), K94 k4 g → zi_W E d 63 94 [some (.ref 190), some (zi_i l1), some (zi_i l2), some (.ref r3), some (zi_i k4), none, none, none, none] [] g (zi_Q Q)) (hK112 : ∀ (g : zi_M), K112 g → zi_W E d 63 112 [some (.ref 190), some (zi_i l1), some (zi_i l2), some (.ref r3), none, none, none, none, none] [] g (zi_Q Q)) : zi_W E d 63 9 [some (.ref 190), some (zi_i l1), some (zi_i l2), some (.ref r3), some (zi_i l4), some (zi_i l5), some (zi_i l6), none, none] [] g (zi_Q Q) := by
  obtain ⟨f, h⟩ := h
  exact s_Tokens_keywordAt_l9_r hd hr3 hK94 hK112 f h
set_option maxRecDepth 100000 in
theorem s_Tokens_keywordAt {E : sx_E} {d : Nat} (hd : 9 ≤ d) {r3 : Nat} (hr3 : zs_str r3) {l1 : Int} {l2 : Int} {g : zi_M} {Q : Int → zi_M → Prop} (h : w_Tokens_keywordAt r3 l1 l2 g Q) : zi_S E d 63 [.ref 190, zi_i l1, zi_i l2, .ref r3] g (zi_Q Q) := by
  refine zi_Sof jf_63 [some (.ref 190), some (zi_i l1), some (zi_i l2), some (.ref r3), none, none, none, none, none] rfl (And.intro rfl (And.intro rfl (And.intro rfl (And.intro rfl trivial)))) ?_
  unfold w_Tokens_keywordAt at h
  refine zi_iconst (pc' := 1) rfl rfl ?_
  refine zi_istore (pc' := 3) [some _, some _, some _, some _, some _, none, none, none, none] rfl rfl rfl ?_
  refine zi_iconst (pc' := 4) rfl rfl ?_
  refine zi_istore (pc' := 6) [some _, some _, some _, some _, some _, some _, none, none, none] rfl rfl rfl ?_
  refine zi_iconst (pc' := 7) rfl rfl ?_
  refine zi_istore (pc' := 9) [some _, some _, some _, some _, some _, some _, some _, none, none] rfl rfl rfl ?_
  refine zi_wk (s_Tokens_keywordAt_l9 hd hr3 h (fun k21 g22 h => ?_) (fun g23 h => ?_)) (And.intro rfl (And.intro rfl (And.intro rfl (And.intro rfl (And.intro rfl (And.intro rfl (And.intro rfl trivial)))))))
  · refine zi_iload (pc' := 96) rfl rfl rfl ?_
    exact zi_iret rfl rfl h
  · refine zi_iconst (pc' := 113) rfl rfl ?_
    exact zi_iret rfl rfl h
-- SpoutNews$Tokens.split([IILjava/lang/String;)V
noncomputable def w_Tokens_split_b67 (r3 : Nat) (l2 : Int) (l4 : Int) (s0 : Int) (g : zi_M) (H : Int → zi_M → Prop) (K209 : zi_M → Prop) (Q : Int → zi_M → Prop) : Prop := (zi_r s0 ∧ ((¬ s0 = 0 → H (l4 + 1) g) ∧ (s0 = 0 → ((0 ≤ l4 ∧ l4 < 400) ∧ (zi_r (g 190 l4) ∧ (((g 190 l4) = 32 → H (l4 + 1) g) ∧ (¬ (g 190 l4) = 32 → ((¬ (g 190 l4) = 10 → w_Tokens_isLetter (g 190 l4) g (fun v9 g10 => ((v9 = 0 → w_Tokens_isDigit (g10 190 l4) g10 (fun v12 g13 => ((v12 = 0 → w_Tokens_isSignOfLaw (g13 190 l4) g13 (fun v15 g16 => ((v15 = 0 → w_Tokens_add 0 (g16 190 l4) l4 g16 (fun _ g19 => H (l4 + 1) g19)) ∧ (¬ v15 = 0 → w_Tokens_add 3 (g16 190 l4) l4 g16 (fun _ g22 => H (l4 + 1) g22))))) ∧ (¬ v12 = 0 → w_Tokens_numberAt l4 l2 g13 (fun v25 g26 => (zi_r v25 ∧ ((¬ v25 = (-1) → w_Tokens_add 1 v25 l4 g26 (fun _ g30 => H (l4 + 1) g30)) ∧ (v25 = (-1) → w_Tokens_add 0 v25 l4 g26 (fun _ g33 => H (l4 + 1) g33))))))))) ∧ (¬ v9 = 0 → w_Tokens_keywordAt r3 l4 l2 g10 (fun v37 g38 => (zi_r v37 ∧ ((¬ v37 = (-1) → w_Tokens_add 2 v37 l4 g38 (fun _ g42 => H (l4 + 1) g42)) ∧ (v37 = (-1) → w_Tokens_add 0 v37 l4 g38 (fun _ g45 => H (l4 + 1) g45))))))))) ∧ ((g 190 l4) = 10 → H (l4 + 1) g)))))))))
noncomputable def w_Tokens_split_b40 (r3 : Nat) (l2 : Int) (l4 : Int) (g : zi_M) (H : Int → zi_M → Prop) (K209 : zi_M → Prop) (Q : Int → zi_M → Prop) : Prop := ((0 ≤ l4 ∧ l4 < 400) ∧ w_Tokens_isDigit (g 190 l4) g (fun v57 g58 => ((v57 = 0 → w_Tokens_split_b67 r3 l2 l4 0 g58 H K209 Q) ∧ (¬ v57 = 0 → ((0 ≤ (l4 - 1) ∧ (l4 - 1) < 400) ∧ w_Tokens_isDigit (g58 190 (l4 - 1)) g58 (fun v61 g62 => ((v61 = 0 → w_Tokens_split_b67 r3 l2 l4 0 g62 H K209 Q) ∧ (¬ v61 = 0 → w_Tokens_split_b67 r3 l2 l4 1 g62 H K209 Q))))))))
noncomputable def w_Tokens_split_l7 (r3 : Nat) (l2 : Int) (K209 : zi_M → Prop) (Q : Int → zi_M → Prop) : Nat → Int → zi_M → Prop
  | 0, _, _ => False
  | f + 1, l4, g => (zi_r l4 ∧ zi_r l2 ∧ ((l2 ≤ l4 → K209 g) ∧ (l4 < l2 → ((l4 ≤ 0 → w_Tokens_split_b67 r3 l2 l4 0 g (w_Tokens_split_l7 r3 l2 K209 Q f) K209 Q) ∧ (0 < l4 → ((0 ≤ l4 ∧ l4 < 400) ∧ w_Tokens_isLetter (g 190 l4) g (fun v53 g54 => ((v53 = 0 → w_Tokens_split_b40 r3 l2 l4 g54 (w_Tokens_split_l7 r3 l2 K209 Q f) K209 Q) ∧ (¬ v53 = 0 → ((0 ≤ (l4 - 1) ∧ (l4 - 1) < 400) ∧ w_Tokens_isLetter (g54 190 (l4 - 1)) g54 (fun v67 g68 => ((¬ v67 = 0 → w_Tokens_split_b67 r3 l2 l4 1 g68 (w_Tokens_split_l7 r3 l2 K209 Q f) K209 Q) ∧ (v67 = 0 → w_Tokens_split_b40 r3 l2 l4 g68 (w_Tokens_split_l7 r3 l2 K209 Q f) K209 Q)))))))))))))
noncomputable def w_Tokens_split (r3 : Nat) (l2 : Int) (g : zi_M) (Q : Int → zi_M → Prop) : Prop := w_Tokens_clear g (fun _ g2 => (∃ f78, w_Tokens_split_l7 r3 l2 (fun g74 => w_Tokens_add 4 0 l2 g74 (fun _ g76 => Q 0 g76)) Q f78 0 g2))
set_option maxRecDepth 100000 in
theorem s_Tokens_split_b67 {E : sx_E} {d : Nat} (hd : 10 ≤ d) {r3 : Nat} (hr3 : zs_str r3) {l2 : Int} {l4 : Int} {s0 : Int} {H : Int → zi_M → Prop} {K209 : zi_M → Prop} {Q : Int → zi_M → Prop} {g : zi_M} (h : w_Tokens_split_b67 r3 l2 l4 s0 g H K209 Q) (hH : ∀ (m4 : Int) (g : zi_M), H m4 g → zi_W E d 59 7 [some (.ref 191), some (.ref 190), some (zi_i l2), some (.ref r3), some (zi_i m4), none, none] [] g (zi_Qv Q)) (hK209 : ∀ (g : zi_M), K209 g → zi_W E d 59 209 [some (.ref 191), some (.ref 190), some (zi_i l2), some (.ref r3), none, none, none] [] g (zi_Qv Q)) : zi_W E d 59 67 [some (.ref 191), some (.ref 190), some (zi_i l2), some (.ref r3), some (zi_i l4), none, none] [zi_i s0] g (zi_Qv Q) := by
  unfold w_Tokens_split_b67 at h
  refine zi_istore (pc' := 69) [some _, some _, some _, some _, some _, some _, none] rfl rfl rfl ?_
  refine zi_iload (pc' := 71) rfl rfl rfl ?_
  obtain ⟨o6, h⟩ := h
  refine zi_if_ne (x := 203) (pc' := 74) rfl rfl o6  (fun c51 => ?_) (fun c51 => ?_)
  · replace h := h.1 c51
    refine zi_iinc (pc' := 206) [some _, some _, some _, some _, some _, some _, none] rfl rfl rfl rfl ?_
    refine zi_goto (x := 7) rfl ?_
    exact zi_wk (hH _ _ h) (And.intro rfl (And.intro rfl (And.intro rfl (And.intro rfl (And.intro rfl trivial)))))
  · replace h := h.2 c51
    refine zi_aload_n (pc' := 75) rfl rfl rfl ?_
    refine zi_iload (pc' := 77) rfl rfl rfl ?_
    obtain ⟨o7, h⟩ := h
    refine zi_iald (pc' := 78) rfl rfl rfl o7 ?_
    refine zi_bipush (pc' := 80) rfl rfl (by decide) ?_
    obtain ⟨o8, h⟩ := h
    refine zi_icmp_eq (x := 203) (pc' := 83) rfl rfl o8 (by decide) (fun c50 => ?_) (fun c50 => ?_)
    · replace h := h.1 c50
      refine zi_iinc (pc' := 206) [some _, some _, some _, some _, some _, some _, none] rfl rfl rfl rfl ?_
      refine zi_goto (x := 7) rfl ?_
      exact zi_wk (hH _ _ h) (And.intro rfl (And.intro rfl (And.intro rfl (And.intro rfl (And.intro rfl trivial)))))
    · replace h := h.2 c50
      refine zi_aload_n (pc' := 84) rfl rfl rfl ?_
      refine zi_iload (pc' := 86) rfl rfl rfl ?_
      refine zi_iald (pc' := 87) rfl rfl rfl o7 ?_
      refine zi_bipush (pc' := 89) rfl rfl (by decide) ?_
      refine zi_icmp_ne (x := 95) (pc' := 92) rfl rfl o8 (by decide) (fun c49 => ?_) (fun c49 => ?_)
      · replace h := h.1 c49
        refine zi_aload_n (pc' := 96) rfl rfl rfl ?_
        refine zi_iload (pc' := 98) rfl rfl rfl ?_
        refine zi_iald (pc' := 99) rfl rfl rfl o7 ?_
        refine zi_callS (d' := 1) (as := [_]) (pc' := 102) rfl rfl rfl (Nat.lt_of_lt_of_le (by decide) hd) (s_Tokens_isLetter (Nat.le_refl _) h) (zi_kb (fun v9 g10 b11 h => ?_))
        refine zi_if_eq (x := 137) (pc' := 105) rfl rfl (zi_r_bit b11)  (fun c48 => ?_) (fun c48 => ?_)
        · replace h := h.1 c48
          refine zi_aload_n (pc' := 138) rfl rfl rfl ?_
          refine zi_iload (pc' := 140) rfl rfl rfl ?_
          refine zi_iald (pc' := 141) rfl rfl rfl o7 ?_
          refine zi_callS (d' := 1) (as := [_]) (pc' := 144) rfl rfl rfl (Nat.lt_of_lt_of_le (by decide) hd) (s_Tokens_isDigit (Nat.le_refl _) h) (zi_kb (fun v12 g13 b14 h => ?_))
          refine zi_if_eq (x := 178) (pc' := 147) rfl rfl (zi_r_bit b14)  (fun c36 => ?_) (fun c36 => ?_)
          · replace h := h.1 c36
            refine zi_aload_n (pc' := 179) rfl rfl rfl ?_
            refine zi_aload_n (pc' := 180) rfl rfl rfl ?_
            refine zi_iload (pc' := 182) rfl rfl rfl ?_
            refine zi_iald (pc' := 183) rfl rfl rfl o7 ?_
            refine zi_callS (d' := 1) (as := [_]) (pc' := 186) rfl rfl rfl (Nat.lt_of_lt_of_le (by decide) hd) (s_Tokens_isSignOfLaw (Nat.le_refl _) h) (zi_kb (fun v15 g16 b17 h => ?_))
            refine zi_if_eq (x := 193) (pc' := 189) rfl rfl (zi_r_bit b17)  (fun c24 => ?_) (fun c24 => ?_)
            · replace h := h.1 c24
              refine zi_iconst (pc' := 194) rfl rfl ?_
              refine zi_aload_n (pc' := 195) rfl rfl rfl ?_
              refine zi_iload (pc' := 197) rfl rfl rfl ?_
              refine zi_iald (pc' := 198) rfl rfl rfl o7 ?_
              refine zi_iload (pc' := 200) rfl rfl rfl ?_
              refine zi_callV (d' := 1) (as := [_, _, _]) (pc' := 203) rfl rfl rfl rfl (Nat.lt_of_lt_of_le (by decide) hd) (s_Tokens_add (Nat.le_refl _) h) (zi_kv (fun g19 h => ?_))
              refine zi_iinc (pc' := 206) [some _, some _, some _, some _, some _, some _, none] rfl rfl rfl rfl ?_
              refine zi_goto (x := 7) rfl ?_
              exact zi_wk (hH _ _ h) (And.intro rfl (And.intro rfl (And.intro rfl (And.intro rfl (And.intro rfl trivial)))))
            · replace h := h.2 c24
              refine zi_iconst (pc' := 190) rfl rfl ?_
              refine zi_goto (x := 194) rfl ?_
              refine zi_aload_n (pc' := 195) rfl rfl rfl ?_
              refine zi_iload (pc' := 197) rfl rfl rfl ?_
              refine zi_iald (pc' := 198) rfl rfl rfl o7 ?_
              refine zi_iload (pc' := 200) rfl rfl rfl ?_
              refine zi_callV (d' := 1) (as := [_, _, _]) (pc' := 203) rfl rfl rfl rfl (Nat.lt_of_lt_of_le (by decide) hd) (s_Tokens_add (Nat.le_refl _) h) (zi_kv (fun g22 h => ?_))
              refine zi_iinc (pc' := 206) [some _, some _, some _, some _, some _, some _, none] rfl rfl rfl rfl ?_
              refine zi_goto (x := 7) rfl ?_
              exact zi_wk (hH _ _ h) (And.intro rfl (And.intro rfl (And.intro rfl (And.intro rfl (And.intro rfl trivial)))))
          · replace h := h.2 c36
            refine zi_aload_n (pc' := 148) rfl rfl rfl ?_
            refine zi_iload (pc' := 150) rfl rfl rfl ?_
            refine zi_iload_n (pc' := 151) rfl rfl rfl ?_
            refine zi_callS (d' := 2) (as := [_, _, _]) (pc' := 154) rfl rfl rfl (Nat.lt_of_lt_of_le (by decide) hd) (s_Tokens_numberAt (Nat.le_refl _) h) (zi_ki (fun v25 g26 h => ?_))
            refine zi_istore (pc' := 156) [some _, some _, some _, some _, some _, some _, some _] rfl rfl rfl ?_
            refine zi_aload_n (pc' := 157) rfl rfl rfl ?_
            refine zi_iload (pc' := 159) rfl rfl rfl ?_
            refine zi_iconst (pc' := 160) rfl rfl ?_
            obtain ⟨o28, h⟩ := h
            refine zi_icmp_ne (x := 167) (pc' := 163) rfl rfl o28 (by decide) (fun c35 => ?_) (fun c35 => ?_)
            · replace h := h.1 c35
              refine zi_iconst (pc' := 168) rfl rfl ?_
              refine zi_iload (pc' := 170) rfl rfl rfl ?_
              refine zi_iload (pc' := 172) rfl rfl rfl ?_
              refine zi_callV (d' := 1) (as := [_, _, _]) (pc' := 175) rfl rfl rfl rfl (Nat.lt_of_lt_of_le (by decide) hd) (s_Tokens_add (Nat.le_refl _) h) (zi_kv (fun g30 h => ?_))
              refine zi_goto (x := 203) rfl ?_
              refine zi_iinc (pc' := 206) [some _, some _, some _, some _, some _, some _, some _] rfl rfl rfl rfl ?_
              refine zi_goto (x := 7) rfl ?_
              exact zi_wk (hH _ _ h) (And.intro rfl (And.intro rfl (And.intro rfl (And.intro rfl (And.intro rfl trivial)))))
            · replace h := h.2 c35
              refine zi_iconst (pc' := 164) rfl rfl ?_
              refine zi_goto (x := 168) rfl ?_
              refine zi_iload (pc' := 170) rfl rfl rfl ?_
              refine zi_iload (pc' := 172) rfl rfl rfl ?_
              refine zi_callV (d' := 1) (as := [_, _, _]) (pc' := 175) rfl rfl rfl rfl (Nat.lt_of_lt_of_le (by decide) hd) (s_Tokens_add (Nat.le_refl _) h) (zi_kv (fun g33 h => ?_))
              refine zi_goto (x := 203) rfl ?_
              refine zi_iinc (pc' := 206) [some _, some _, some _, some _, some _, some _, some _] rfl rfl rfl rfl ?_
              refine zi_goto (x := 7) rfl ?_
              exact zi_wk (hH _ _ h) (And.intro rfl (And.intro rfl (And.intro rfl (And.intro rfl (And.intro rfl trivial)))))
        · replace h := h.2 c48
          refine zi_aload_n (pc' := 106) rfl rfl rfl ?_
          refine zi_iload (pc' := 108) rfl rfl rfl ?_
          refine zi_iload_n (pc' := 109) rfl rfl rfl ?_
          refine zi_aload_n (pc' := 110) rfl rfl rfl ?_
          refine zi_callS (d' := 9) (as := [_, _, _, _]) (pc' := 113) rfl rfl rfl (Nat.lt_of_lt_of_le (by decide) hd) (s_Tokens_keywordAt (Nat.le_refl _) hr3 h) (zi_ki (fun v37 g38 h => ?_))
          refine zi_istore (pc' := 115) [some _, some _, some _, some _, some _, some _, some _] rfl rfl rfl ?_
          refine zi_aload_n (pc' := 116) rfl rfl rfl ?_
          refine zi_iload (pc' := 118) rfl rfl rfl ?_
          refine zi_iconst (pc' := 119) rfl rfl ?_
          obtain ⟨o40, h⟩ := h
          refine zi_icmp_ne (x := 126) (pc' := 122) rfl rfl o40 (by decide) (fun c47 => ?_) (fun c47 => ?_)
          · replace h := h.1 c47
            refine zi_iconst (pc' := 127) rfl rfl ?_
            refine zi_iload (pc' := 129) rfl rfl rfl ?_
            refine zi_iload (pc' := 131) rfl rfl rfl ?_
            refine zi_callV (d' := 1) (as := [_, _, _]) (pc' := 134) rfl rfl rfl rfl (Nat.lt_of_lt_of_le (by decide) hd) (s_Tokens_add (Nat.le_refl _) h) (zi_kv (fun g42 h => ?_))
            refine zi_goto (x := 203) rfl ?_
            refine zi_iinc (pc' := 206) [some _, some _, some _, some _, some _, some _, some _] rfl rfl rfl rfl ?_
            refine zi_goto (x := 7) rfl ?_
            exact zi_wk (hH _ _ h) (And.intro rfl (And.intro rfl (And.intro rfl (And.intro rfl (And.intro rfl trivial)))))
          · replace h := h.2 c47
            refine zi_iconst (pc' := 123) rfl rfl ?_
            refine zi_goto (x := 127) rfl ?_
            refine zi_iload (pc' := 129) rfl rfl rfl ?_
            refine zi_iload (pc' := 131) rfl rfl rfl ?_
            refine zi_callV (d' := 1) (as := [_, _, _]) (pc' := 134) rfl rfl rfl rfl (Nat.lt_of_lt_of_le (by decide) hd) (s_Tokens_add (Nat.le_refl _) h) (zi_kv (fun g45 h => ?_))
            refine zi_goto (x := 203) rfl ?_
            refine zi_iinc (pc' := 206) [some _, some _, some _, some _, some _, some _, some _] rfl rfl rfl rfl ?_
            refine zi_goto (x := 7) rfl ?_
            exact zi_wk (hH _ _ h) (And.intro rfl (And.intro rfl (And.intro rfl (And.intro rfl (And.intro rfl trivial)))))
      · replace h := h.2 c49
        refine zi_goto (x := 203) rfl ?_
        refine zi_iinc (pc' := 206) [some _, some _, some _, some _, some _, some _, none] rfl rfl rfl rfl ?_
        refine zi_goto (x := 7) rfl ?_
        exact zi_wk (hH _ _ h) (And.intro rfl (And.intro rfl (And.intro rfl (And.intro rfl (And.intro rfl trivial)))))
set_option maxRecDepth 100000 in
theorem s_Tokens_split_b40 {E : sx_E} {d : Nat} (hd : 10 ≤ d) {r3 : Nat} (hr3 : zs_str r3) {l2 : Int} {l4 : Int} {H : Int → zi_M → Prop} {K209 : zi_M → Prop} {Q : Int → zi_M → Prop} {g : zi_M} (h : w_Tokens_split_b40 r3 l2 l4 g H K209 Q) (hH : ∀ (m4 : Int) (g : zi_M), H m4 g → zi_W E d 59 7 [some (.ref 191), some (.ref 190), some (zi_i l2), some (.ref r3), some (zi_i m4), none, none] [] g (zi_Qv Q)) (hK209 : ∀ (g : zi_M), K209 g → zi_W E d 59 209 [some (.ref 191), some (.ref 190), some (zi_i l2), some (.ref r3), none, none, none] [] g (zi_Qv Q)) : zi_W E d 59 40 [some (.ref 191), some (.ref 190), some (zi_i l2), some (.ref r3), some (zi_i l4), none, none] [] g (zi_Qv Q) := by
  unfold w_Tokens_split_b40 at h
  refine zi_aload_n (pc' := 41) rfl rfl rfl ?_
  refine zi_iload (pc' := 43) rfl rfl rfl ?_
  obtain ⟨o56, h⟩ := h
  refine zi_iald (pc' := 44) rfl rfl rfl o56 ?_
  refine zi_callS (d' := 1) (as := [_]) (pc' := 47) rfl rfl rfl (Nat.lt_of_lt_of_le (by decide) hd) (s_Tokens_isDigit (Nat.le_refl _) h) (zi_kb (fun v57 g58 b59 h => ?_))
  refine zi_if_eq (x := 66) (pc' := 50) rfl rfl (zi_r_bit b59)  (fun c65 => ?_) (fun c65 => ?_)
  · replace h := h.1 c65
    refine zi_iconst (pc' := 67) rfl rfl ?_
    exact zi_wk (s_Tokens_split_b67 hd hr3 h hH hK209) (And.intro rfl (And.intro rfl (And.intro rfl (And.intro rfl (And.intro rfl trivial)))))
  · replace h := h.2 c65
    refine zi_aload_n (pc' := 51) rfl rfl rfl ?_
    refine zi_iload (pc' := 53) rfl rfl rfl ?_
    refine zi_iconst (pc' := 54) rfl rfl ?_
    refine zi_isub (pc' := 55) rfl rfl ?_
    obtain ⟨o60, h⟩ := h
    refine zi_iald (pc' := 56) rfl rfl rfl o60 ?_
    refine zi_callS (d' := 1) (as := [_]) (pc' := 59) rfl rfl rfl (Nat.lt_of_lt_of_le (by decide) hd) (s_Tokens_isDigit (Nat.le_refl _) h) (zi_kb (fun v61 g62 b63 h => ?_))
    refine zi_if_eq (x := 66) (pc' := 62) rfl rfl (zi_r_bit b63)  (fun c64 => ?_) (fun c64 => ?_)
    · replace h := h.1 c64
      refine zi_iconst (pc' := 67) rfl rfl ?_
      exact zi_wk (s_Tokens_split_b67 hd hr3 h hH hK209) (And.intro rfl (And.intro rfl (And.intro rfl (And.intro rfl (And.intro rfl trivial)))))
    · replace h := h.2 c64
      refine zi_iconst (pc' := 63) rfl rfl ?_
      refine zi_goto (x := 67) rfl ?_
      exact zi_wk (s_Tokens_split_b67 hd hr3 h hH hK209) (And.intro rfl (And.intro rfl (And.intro rfl (And.intro rfl (And.intro rfl trivial)))))
set_option maxRecDepth 100000 in
theorem s_Tokens_split_l7_r {E : sx_E} {d : Nat} (hd : 10 ≤ d) {r3 : Nat} (hr3 : zs_str r3) {l2 : Int} {K209 : zi_M → Prop} {Q : Int → zi_M → Prop} (hK209 : ∀ (g : zi_M), K209 g → zi_W E d 59 209 [some (.ref 191), some (.ref 190), some (zi_i l2), some (.ref r3), none, none, none] [] g (zi_Qv Q)) : ∀ (f : Nat) {l4 : Int} {g : zi_M}, w_Tokens_split_l7 r3 l2 K209 Q f l4 g → zi_W E d 59 7 [some (.ref 191), some (.ref 190), some (zi_i l2), some (.ref r3), some (zi_i l4), none, none] [] g (zi_Qv Q)
  | 0, _, _, h => False.elim h
  | f + 1, l4, g, h => by
    refine zi_iload (pc' := 9) rfl rfl rfl ?_
    refine zi_iload_n (pc' := 10) rfl rfl rfl ?_
    obtain ⟨o4, o5, h⟩ := h
    refine zi_icmp_ge (x := 209) (pc' := 13) rfl rfl o4 o5 (fun c73 => ?_) (fun c73 => ?_)
    · replace h := h.1 c73
      exact zi_wk (hK209 _ h) (And.intro rfl (And.intro rfl (And.intro rfl (And.intro rfl trivial))))
    · replace h := h.2 c73
      refine zi_iload (pc' := 15) rfl rfl rfl ?_
      refine zi_if_le (x := 66) (pc' := 18) rfl rfl o4  (fun c72 => ?_) (fun c72 => ?_)
      · replace h := h.1 c72
        refine zi_iconst (pc' := 67) rfl rfl ?_
        exact zi_wk (s_Tokens_split_b67 hd hr3 h (fun _ _ h => s_Tokens_split_l7_r hd hr3 hK209 f h) hK209) (And.intro rfl (And.intro rfl (And.intro rfl (And.intro rfl (And.intro rfl trivial)))))
      · replace h := h.2 c72
        refine zi_aload_n (pc' := 19) rfl rfl rfl ?_
        refine zi_iload (pc' := 21) rfl rfl rfl ?_
        obtain ⟨o52, h⟩ := h
        refine zi_iald (pc' := 22) rfl rfl rfl o52 ?_
        refine zi_callS (d' := 1) (as := [_]) (pc' := 25) rfl rfl rfl (Nat.lt_of_lt_of_le (by decide) hd) (s_Tokens_isLetter (Nat.le_refl _) h) (zi_kb (fun v53 g54 b55 h => ?_))
        refine zi_if_eq (x := 40) (pc' := 28) rfl rfl (zi_r_bit b55)  (fun c71 => ?_) (fun c71 => ?_)
        · replace h := h.1 c71
          exact zi_wk (s_Tokens_split_b40 hd hr3 h (fun _ _ h => s_Tokens_split_l7_r hd hr3 hK209 f h) hK209) (And.intro rfl (And.intro rfl (And.intro rfl (And.intro rfl (And.intro rfl trivial)))))
        · replace h := h.2 c71
          refine zi_aload_n (pc' := 29) rfl rfl rfl ?_
          refine zi_iload (pc' := 31) rfl rfl rfl ?_
          refine zi_iconst (pc' := 32) rfl rfl ?_
          refine zi_isub (pc' := 33) rfl rfl ?_
          obtain ⟨o66, h⟩ := h
          refine zi_iald (pc' := 34) rfl rfl rfl o66 ?_
          refine zi_callS (d' := 1) (as := [_]) (pc' := 37) rfl rfl rfl (Nat.lt_of_lt_of_le (by decide) hd) (s_Tokens_isLetter (Nat.le_refl _) h) (zi_kb (fun v67 g68 b69 h => ?_))
          refine zi_if_ne (x := 62) (pc' := 40) rfl rfl (zi_r_bit b69)  (fun c70 => ?_) (fun c70 => ?_)
          · replace h := h.1 c70
            refine zi_iconst (pc' := 63) rfl rfl ?_
            refine zi_goto (x := 67) rfl ?_
            exact zi_wk (s_Tokens_split_b67 hd hr3 h (fun _ _ h => s_Tokens_split_l7_r hd hr3 hK209 f h) hK209) (And.intro rfl (And.intro rfl (And.intro rfl (And.intro rfl (And.intro rfl trivial)))))
          · replace h := h.2 c70
            exact zi_wk (s_Tokens_split_b40 hd hr3 h (fun _ _ h => s_Tokens_split_l7_r hd hr3 hK209 f h) hK209) (And.intro rfl (And.intro rfl (And.intro rfl (And.intro rfl (And.intro rfl trivial)))))
set_option maxRecDepth 100000 in
theorem s_Tokens_split_l7 {E : sx_E} {d : Nat} (hd : 10 ≤ d) {r3 : Nat} (hr3 : zs_str r3) {l2 : Int} {K209 : zi_M → Prop} {Q : Int → zi_M → Prop} {l4 : Int} {g : zi_M} (h : ∃ f, w_Tokens_split_l7 r3 l2 K209 Q f l4 g) (hK209 : ∀ (g : zi_M), K209 g → zi_W E d 59 209 [some (.ref 191), some (.ref 190), some (zi_i l2), some (.ref r3), none, none, none] [] g (zi_Qv Q)) : zi_W E d 59 7 [some (.ref 191), some (.ref 190), some (zi_i l2), some (.ref r3), some (zi_i l4), none, none] [] g (zi_Qv Q) := by
  obtain ⟨f, h⟩ := h
  exact s_Tokens_split_l7_r hd hr3 hK209 f h
set_option maxRecDepth 100000 in
theorem s_Tokens_split {E : sx_E} {d : Nat} (hd : 10 ≤ d) {r3 : Nat} (hr3 : zs_str r3) {l2 : Int} {g : zi_M} {Q : Int → zi_M → Prop} (h : w_Tokens_split r3 l2 g Q) : zi_S E d 59 [.ref 191, .ref 190, zi_i l2, .ref r3] g (zi_Qv Q) := by
  refine zi_Sof jf_59 [some (.ref 191), some (.ref 190), some (zi_i l2), some (.ref r3), none, none, none] rfl (And.intro rfl (And.intro rfl (And.intro rfl (And.intro rfl trivial)))) ?_
  unfold w_Tokens_split at h
  refine zi_aload_n (pc' := 1) rfl rfl rfl ?_
  refine zi_callV (d' := 1) (as := []) (pc' := 4) rfl rfl rfl rfl (Nat.lt_of_lt_of_le (by decide) hd) (s_Tokens_clear (Nat.le_refl _) h) (zi_kv (fun g2 h => ?_))
  refine zi_iconst (pc' := 5) rfl rfl ?_
  refine zi_istore (pc' := 7) [some _, some _, some _, some _, some _, none, none] rfl rfl rfl ?_
  refine zi_wk (s_Tokens_split_l7 hd hr3 h (fun g74 h => ?_)) (And.intro rfl (And.intro rfl (And.intro rfl (And.intro rfl (And.intro rfl trivial)))))
  refine zi_aload_n (pc' := 210) rfl rfl rfl ?_
  refine zi_iconst (pc' := 211) rfl rfl ?_
  refine zi_iconst (pc' := 212) rfl rfl ?_
  refine zi_iload_n (pc' := 213) rfl rfl rfl ?_
  refine zi_callV (d' := 1) (as := [_, _, _]) (pc' := 216) rfl rfl rfl rfl (Nat.lt_of_lt_of_le (by decide) hd) (s_Tokens_add (Nat.le_refl _) h) (zi_kv (fun g76 h => ?_))
  exact zi_vret rfl rfl h
-- SpoutNews.takeLaw(I)I
noncomputable def w_S_takeLaw (l1 : Int) (g : zi_M) (Q : Int → zi_M → Prop) : Prop := w_Tokens_split 1000000001 l1 g (fun _ g2 => w_LawReader_readLaw g2 (fun v4 g5 => ((¬ v4 = 0 → w_Law_copyFrom 20 196 g5 (fun _ g8 => Q (g8 196 7) g8)) ∧ (v4 = 0 → Q (-1) g5))))
set_option maxRecDepth 100000 in
theorem s_S_takeLaw {E : sx_E} {d : Nat} (hd : 11 ≤ d) {l1 : Int} {g : zi_M} {Q : Int → zi_M → Prop} (h : w_S_takeLaw l1 g Q) : zi_S E d 58 [.ref 0, zi_i l1] g (zi_Q Q) := by
  refine zi_Sof jf_58 [some (.ref 0), some (zi_i l1)] rfl (And.intro rfl (And.intro rfl trivial)) ?_
  unfold w_S_takeLaw at h
  refine zi_aload_n (pc' := 1) rfl rfl rfl ?_
  refine zi_getr (pc' := 4) rfl rfl rfl rfl rfl ?_
  refine zi_aload_n (pc' := 5) rfl rfl rfl ?_
  refine zi_getr (pc' := 8) rfl rfl rfl rfl rfl ?_
  refine zi_iload_n (pc' := 9) rfl rfl rfl ?_
  refine zi_ldcS (x := 1) (pc' := 11) rfl rfl rfl ?_
  refine zi_callV (d' := 10) (as := [_, _, _]) (pc' := 14) rfl rfl rfl rfl (Nat.lt_of_lt_of_le (by decide) hd) (s_Tokens_split (Nat.le_refl _) (show zs_str 1000000001 from rfl) h) (zi_kv (fun g2 h => ?_))
  refine zi_aload_n (pc' := 15) rfl rfl rfl ?_
  refine zi_getr (pc' := 18) rfl rfl rfl rfl rfl ?_
  refine zi_aload_n (pc' := 19) rfl rfl rfl ?_
  refine zi_getr (pc' := 22) rfl rfl rfl rfl rfl ?_
  refine zi_aload_n (pc' := 23) rfl rfl rfl ?_
  refine zi_getr (pc' := 26) rfl rfl rfl rfl rfl ?_
  refine zi_getr (pc' := 29) rfl rfl rfl rfl rfl ?_
  refine zi_callV (d' := 6) (as := [_, _]) (pc' := 32) rfl rfl rfl rfl (Nat.lt_of_lt_of_le (by decide) hd) (s_LawReader_readLaw (Nat.le_refl _) h) (zi_kb (fun v4 g5 b6 h => ?_))
  refine zi_if_ne (x := 37) (pc' := 35) rfl rfl (zi_r_bit b6)  (fun c10 => ?_) (fun c10 => ?_)
  · replace h := h.1 c10
    refine zi_aload_n (pc' := 38) rfl rfl rfl ?_
    refine zi_getr (pc' := 41) rfl rfl rfl rfl rfl ?_
    refine zi_getr (pc' := 44) rfl rfl rfl rfl rfl ?_
    refine zi_getr (pc' := 47) rfl rfl rfl rfl rfl ?_
    refine zi_aload_n (pc' := 48) rfl rfl rfl ?_
    refine zi_getr (pc' := 51) rfl rfl rfl rfl rfl ?_
    refine zi_getr (pc' := 54) rfl rfl rfl rfl rfl ?_
    refine zi_callV (d' := 1) (as := [_]) (pc' := 57) rfl rfl rfl rfl (Nat.lt_of_lt_of_le (by decide) hd) (s_Law_copyFrom (Nat.le_refl _) rfl rfl h) (zi_kv (fun g8 h => ?_))
    refine zi_aload_n (pc' := 58) rfl rfl rfl ?_
    refine zi_getr (pc' := 61) rfl rfl rfl rfl rfl ?_
    refine zi_getr (pc' := 64) rfl rfl rfl rfl rfl ?_
    refine zi_geti (pc' := 67) 7 rfl rfl rfl rfl rfl rfl ?_
    exact zi_iret rfl rfl h
  · replace h := h.2 c10
    refine zi_iconst (pc' := 36) rfl rfl ?_
    exact zi_iret rfl rfl h
-- SpoutNews.takeGutters(I)I
noncomputable def w_S_takeGutters (l1 : Int) (g : zi_M) (Q : Int → zi_M → Prop) : Prop := w_Tokens_split 1000000002 l1 g (fun _ g2 => w_Texts_readGutters g2 (fun v4 g5 => ((¬ v4 = 0 → w_Texts_copyGutters 19 195 g5 (fun _ g8 => Q (g8 195 2) g8)) ∧ (v4 = 0 → Q (-1) g5))))
set_option maxRecDepth 100000 in
theorem s_S_takeGutters {E : sx_E} {d : Nat} (hd : 11 ≤ d) {l1 : Int} {g : zi_M} {Q : Int → zi_M → Prop} (h : w_S_takeGutters l1 g Q) : zi_S E d 103 [.ref 0, zi_i l1] g (zi_Q Q) := by
  refine zi_Sof jf_103 [some (.ref 0), some (zi_i l1)] rfl (And.intro rfl (And.intro rfl trivial)) ?_
  unfold w_S_takeGutters at h
  refine zi_aload_n (pc' := 1) rfl rfl rfl ?_
  refine zi_getr (pc' := 4) rfl rfl rfl rfl rfl ?_
  refine zi_aload_n (pc' := 5) rfl rfl rfl ?_
  refine zi_getr (pc' := 8) rfl rfl rfl rfl rfl ?_
  refine zi_iload_n (pc' := 9) rfl rfl rfl ?_
  refine zi_ldcS (x := 2) (pc' := 11) rfl rfl rfl ?_
  refine zi_callV (d' := 10) (as := [_, _, _]) (pc' := 14) rfl rfl rfl rfl (Nat.lt_of_lt_of_le (by decide) hd) (s_Tokens_split (Nat.le_refl _) (show zs_str 1000000002 from rfl) h) (zi_kv (fun g2 h => ?_))
  refine zi_aload_n (pc' := 15) rfl rfl rfl ?_
  refine zi_getr (pc' := 18) rfl rfl rfl rfl rfl ?_
  refine zi_aload_n (pc' := 19) rfl rfl rfl ?_
  refine zi_getr (pc' := 22) rfl rfl rfl rfl rfl ?_
  refine zi_aload_n (pc' := 23) rfl rfl rfl ?_
  refine zi_getr (pc' := 26) rfl rfl rfl rfl rfl ?_
  refine zi_getr (pc' := 29) rfl rfl rfl rfl rfl ?_
  refine zi_callV (d' := 4) (as := [_, _]) (pc' := 32) rfl rfl rfl rfl (Nat.lt_of_lt_of_le (by decide) hd) (s_Texts_readGutters (Nat.le_refl _) h) (zi_kb (fun v4 g5 b6 h => ?_))
  refine zi_if_ne (x := 37) (pc' := 35) rfl rfl (zi_r_bit b6)  (fun c10 => ?_) (fun c10 => ?_)
  · replace h := h.1 c10
    refine zi_aload_n (pc' := 38) rfl rfl rfl ?_
    refine zi_getr (pc' := 41) rfl rfl rfl rfl rfl ?_
    refine zi_getr (pc' := 44) rfl rfl rfl rfl rfl ?_
    refine zi_aload_n (pc' := 45) rfl rfl rfl ?_
    refine zi_getr (pc' := 48) rfl rfl rfl rfl rfl ?_
    refine zi_callV (d' := 1) (as := [_]) (pc' := 51) rfl rfl rfl rfl (Nat.lt_of_lt_of_le (by decide) hd) (s_Texts_copyGutters (Nat.le_refl _) rfl rfl h) (zi_kv (fun g8 h => ?_))
    refine zi_aload_n (pc' := 52) rfl rfl rfl ?_
    refine zi_getr (pc' := 55) rfl rfl rfl rfl rfl ?_
    refine zi_geti (pc' := 58) 2 rfl rfl rfl rfl rfl rfl ?_
    exact zi_iret rfl rfl h
  · replace h := h.2 c10
    refine zi_iconst (pc' := 36) rfl rfl ?_
    exact zi_iret rfl rfl h
-- SpoutNews.takeWeather(I)I
noncomputable def w_S_takeWeather (l1 : Int) (g : zi_M) (Q : Int → zi_M → Prop) : Prop := w_Tokens_split 1000000003 l1 g (fun _ g2 => w_Texts_readWeather g2 (fun v4 g5 => ((¬ v4 = 0 → w_Texts_copyWeather 19 195 g5 (fun _ g8 => w_Past_forget g8 (fun _ g11 => Q (g11 195 5) g11))) ∧ (v4 = 0 → Q (-1) g5))))
set_option maxRecDepth 100000 in
theorem s_S_takeWeather {E : sx_E} {d : Nat} (hd : 11 ≤ d) {l1 : Int} {g : zi_M} {Q : Int → zi_M → Prop} (h : w_S_takeWeather l1 g Q) : zi_S E d 107 [.ref 0, zi_i l1] g (zi_Q Q) := by
  refine zi_Sof jf_107 [some (.ref 0), some (zi_i l1)] rfl (And.intro rfl (And.intro rfl trivial)) ?_
  unfold w_S_takeWeather at h
  refine zi_aload_n (pc' := 1) rfl rfl rfl ?_
  refine zi_getr (pc' := 4) rfl rfl rfl rfl rfl ?_
  refine zi_aload_n (pc' := 5) rfl rfl rfl ?_
  refine zi_getr (pc' := 8) rfl rfl rfl rfl rfl ?_
  refine zi_iload_n (pc' := 9) rfl rfl rfl ?_
  refine zi_ldcS (x := 3) (pc' := 11) rfl rfl rfl ?_
  refine zi_callV (d' := 10) (as := [_, _, _]) (pc' := 14) rfl rfl rfl rfl (Nat.lt_of_lt_of_le (by decide) hd) (s_Tokens_split (Nat.le_refl _) (show zs_str 1000000003 from rfl) h) (zi_kv (fun g2 h => ?_))
  refine zi_aload_n (pc' := 15) rfl rfl rfl ?_
  refine zi_getr (pc' := 18) rfl rfl rfl rfl rfl ?_
  refine zi_aload_n (pc' := 19) rfl rfl rfl ?_
  refine zi_getr (pc' := 22) rfl rfl rfl rfl rfl ?_
  refine zi_callV (d' := 4) (as := [_]) (pc' := 25) rfl rfl rfl rfl (Nat.lt_of_lt_of_le (by decide) hd) (s_Texts_readWeather (Nat.le_refl _) h) (zi_kb (fun v4 g5 b6 h => ?_))
  refine zi_if_ne (x := 30) (pc' := 28) rfl rfl (zi_r_bit b6)  (fun c13 => ?_) (fun c13 => ?_)
  · replace h := h.1 c13
    refine zi_aload_n (pc' := 31) rfl rfl rfl ?_
    refine zi_getr (pc' := 34) rfl rfl rfl rfl rfl ?_
    refine zi_getr (pc' := 37) rfl rfl rfl rfl rfl ?_
    refine zi_aload_n (pc' := 38) rfl rfl rfl ?_
    refine zi_getr (pc' := 41) rfl rfl rfl rfl rfl ?_
    refine zi_callV (d' := 1) (as := [_]) (pc' := 44) rfl rfl rfl rfl (Nat.lt_of_lt_of_le (by decide) hd) (s_Texts_copyWeather (Nat.le_refl _) rfl rfl h) (zi_kv (fun g8 h => ?_))
    refine zi_aload_n (pc' := 45) rfl rfl rfl ?_
    refine zi_getr (pc' := 48) rfl rfl rfl rfl rfl ?_
    refine zi_callV (d' := 1) (as := []) (pc' := 51) rfl rfl rfl rfl (Nat.lt_of_lt_of_le (by decide) hd) (s_Past_forget (Nat.le_refl _) h) (zi_kv (fun g11 h => ?_))
    refine zi_aload_n (pc' := 52) rfl rfl rfl ?_
    refine zi_getr (pc' := 55) rfl rfl rfl rfl rfl ?_
    refine zi_geti (pc' := 58) 5 rfl rfl rfl rfl rfl rfl ?_
    exact zi_iret rfl rfl h
  · replace h := h.2 c13
    refine zi_iconst (pc' := 29) rfl rfl ?_
    exact zi_iret rfl rfl h
-- SpoutNews.takePlan(I)I
noncomputable def w_S_takePlan (l1 : Int) (g : zi_M) (Q : Int → zi_M → Prop) : Prop := w_Tokens_split 1000000004 l1 g (fun _ g2 => w_Texts_readPlan g2 (fun v4 g5 => ((¬ v4 = 0 → w_Texts_copyPlan 19 195 g5 (fun _ g8 => w_Past_forget g8 (fun _ g11 => Q (g11 195 10) g11))) ∧ (v4 = 0 → Q (-1) g5))))
set_option maxRecDepth 100000 in
theorem s_S_takePlan {E : sx_E} {d : Nat} (hd : 11 ≤ d) {l1 : Int} {g : zi_M} {Q : Int → zi_M → Prop} (h : w_S_takePlan l1 g Q) : zi_S E d 110 [.ref 0, zi_i l1] g (zi_Q Q) := by
  refine zi_Sof jf_110 [some (.ref 0), some (zi_i l1)] rfl (And.intro rfl (And.intro rfl trivial)) ?_
  unfold w_S_takePlan at h
  refine zi_aload_n (pc' := 1) rfl rfl rfl ?_
  refine zi_getr (pc' := 4) rfl rfl rfl rfl rfl ?_
  refine zi_aload_n (pc' := 5) rfl rfl rfl ?_
  refine zi_getr (pc' := 8) rfl rfl rfl rfl rfl ?_
  refine zi_iload_n (pc' := 9) rfl rfl rfl ?_
  refine zi_ldcS (x := 4) (pc' := 11) rfl rfl rfl ?_
  refine zi_callV (d' := 10) (as := [_, _, _]) (pc' := 14) rfl rfl rfl rfl (Nat.lt_of_lt_of_le (by decide) hd) (s_Tokens_split (Nat.le_refl _) (show zs_str 1000000004 from rfl) h) (zi_kv (fun g2 h => ?_))
  refine zi_aload_n (pc' := 15) rfl rfl rfl ?_
  refine zi_getr (pc' := 18) rfl rfl rfl rfl rfl ?_
  refine zi_aload_n (pc' := 19) rfl rfl rfl ?_
  refine zi_getr (pc' := 22) rfl rfl rfl rfl rfl ?_
  refine zi_aload_n (pc' := 23) rfl rfl rfl ?_
  refine zi_getr (pc' := 26) rfl rfl rfl rfl rfl ?_
  refine zi_getr (pc' := 29) rfl rfl rfl rfl rfl ?_
  refine zi_callV (d' := 4) (as := [_, _]) (pc' := 32) rfl rfl rfl rfl (Nat.lt_of_lt_of_le (by decide) hd) (s_Texts_readPlan (Nat.le_refl _) h) (zi_kb (fun v4 g5 b6 h => ?_))
  refine zi_if_ne (x := 37) (pc' := 35) rfl rfl (zi_r_bit b6)  (fun c13 => ?_) (fun c13 => ?_)
  · replace h := h.1 c13
    refine zi_aload_n (pc' := 38) rfl rfl rfl ?_
    refine zi_getr (pc' := 41) rfl rfl rfl rfl rfl ?_
    refine zi_getr (pc' := 44) rfl rfl rfl rfl rfl ?_
    refine zi_aload_n (pc' := 45) rfl rfl rfl ?_
    refine zi_getr (pc' := 48) rfl rfl rfl rfl rfl ?_
    refine zi_callV (d' := 1) (as := [_]) (pc' := 51) rfl rfl rfl rfl (Nat.lt_of_lt_of_le (by decide) hd) (s_Texts_copyPlan (Nat.le_refl _) rfl rfl h) (zi_kv (fun g8 h => ?_))
    refine zi_aload_n (pc' := 52) rfl rfl rfl ?_
    refine zi_getr (pc' := 55) rfl rfl rfl rfl rfl ?_
    refine zi_callV (d' := 1) (as := []) (pc' := 58) rfl rfl rfl rfl (Nat.lt_of_lt_of_le (by decide) hd) (s_Past_forget (Nat.le_refl _) h) (zi_kv (fun g11 h => ?_))
    refine zi_aload_n (pc' := 59) rfl rfl rfl ?_
    refine zi_getr (pc' := 62) rfl rfl rfl rfl rfl ?_
    refine zi_geti (pc' := 65) 10 rfl rfl rfl rfl rfl rfl ?_
    exact zi_iret rfl rfl h
  · replace h := h.2 c13
    refine zi_iconst (pc' := 36) rfl rfl ?_
    exact zi_iret rfl rfl h
-- SpoutNews.text(I)I
noncomputable def w_S_text (l1 : Int) (g : zi_M) (Q : Int → zi_M → Prop) : Prop := (∀ g1, g1 = zi_u g 0 8 0 → (zi_r l1 ∧ ((l1 < 0 ∨ 3 < l1 → w_Tokens_clear g1 (fun _ g5 => Q (-1) g5)) ∧ (l1 = 0 → w_S_takeLaw (g 0 8) g1 (fun v7 g8 => Q v7 g8)) ∧ (l1 = 1 → w_S_takeGutters (g 0 8) g1 (fun v10 g11 => Q v10 g11)) ∧ (l1 = 2 → w_S_takeWeather (g 0 8) g1 (fun v13 g14 => Q v13 g14)) ∧ (l1 = 3 → w_S_takePlan (g 0 8) g1 (fun v16 g17 => Q v16 g17)))))
set_option maxRecDepth 100000 in
theorem s_S_text {E : sx_E} {d : Nat} (hd : 12 ≤ d) {l1 : Int} {g : zi_M} {Q : Int → zi_M → Prop} (h : w_S_text l1 g Q) : zi_S E d 57 [.ref 0, zi_i l1] g (zi_Q Q) := by
  refine zi_Sof jf_57 [some (.ref 0), some (zi_i l1), none] rfl (And.intro rfl (And.intro rfl trivial)) ?_
  unfold w_S_text at h
  refine zi_aload_n (pc' := 1) rfl rfl rfl ?_
  refine zi_geti (pc' := 4) 8 rfl rfl rfl rfl rfl rfl ?_
  refine zi_istore_n (pc' := 5) [some _, some _, some _] rfl rfl rfl ?_
  refine zi_aload_n (pc' := 6) rfl rfl rfl ?_
  refine zi_iconst (pc' := 7) rfl rfl ?_
  refine zi_puti (pc' := 10) 8 rfl rfl rfl rfl rfl  ?_
  replace h := h _ rfl
  refine zi_iload_n (pc' := 11) rfl rfl rfl ?_
  obtain ⟨o2, h⟩ := h
  refine zi_tsw [(0, 40), (1, 46), (2, 52), (3, 58)] 64 rfl rfl o2 (fun c3 => ?_) (And.intro (fun c3 => ?_) (And.intro (fun c3 => ?_) (And.intro (fun c3 => ?_) (And.intro (fun c3 => ?_) trivial))))
  · replace h := h.1 c3
    refine zi_aload_n (pc' := 65) rfl rfl rfl ?_
    refine zi_getr (pc' := 68) rfl rfl rfl rfl rfl ?_
    refine zi_callV (d' := 1) (as := []) (pc' := 71) rfl rfl rfl rfl (Nat.lt_of_lt_of_le (by decide) hd) (s_Tokens_clear (Nat.le_refl _) h) (zi_kv (fun g5 h => ?_))
    refine zi_iconst (pc' := 72) rfl rfl ?_
    exact zi_iret rfl rfl h
  · replace h := h.2.1 c3
    refine zi_aload_n (pc' := 41) rfl rfl rfl ?_
    refine zi_iload_n (pc' := 42) rfl rfl rfl ?_
    refine zi_callV (d' := 11) (as := [_]) (pc' := 45) rfl rfl rfl rfl (Nat.lt_of_lt_of_le (by decide) hd) (s_S_takeLaw (Nat.le_refl _) h) (zi_ki (fun v7 g8 h => ?_))
    exact zi_iret rfl rfl h
  · replace h := h.2.2.1 c3
    refine zi_aload_n (pc' := 47) rfl rfl rfl ?_
    refine zi_iload_n (pc' := 48) rfl rfl rfl ?_
    refine zi_callV (d' := 11) (as := [_]) (pc' := 51) rfl rfl rfl rfl (Nat.lt_of_lt_of_le (by decide) hd) (s_S_takeGutters (Nat.le_refl _) h) (zi_ki (fun v10 g11 h => ?_))
    exact zi_iret rfl rfl h
  · replace h := h.2.2.2.1 c3
    refine zi_aload_n (pc' := 53) rfl rfl rfl ?_
    refine zi_iload_n (pc' := 54) rfl rfl rfl ?_
    refine zi_callV (d' := 11) (as := [_]) (pc' := 57) rfl rfl rfl rfl (Nat.lt_of_lt_of_le (by decide) hd) (s_S_takeWeather (Nat.le_refl _) h) (zi_ki (fun v13 g14 h => ?_))
    exact zi_iret rfl rfl h
  · replace h := h.2.2.2.2 c3
    refine zi_aload_n (pc' := 59) rfl rfl rfl ?_
    refine zi_iload_n (pc' := 60) rfl rfl rfl ?_
    refine zi_callV (d' := 11) (as := [_]) (pc' := 63) rfl rfl rfl rfl (Nat.lt_of_lt_of_le (by decide) hd) (s_S_takePlan (Nat.le_refl _) h) (zi_ki (fun v16 g17 h => ?_))
    exact zi_iret rfl rfl h
-- SpoutNews$Thought.seatFrom(II)V
noncomputable def w_Thought_seatFrom_l35 (R : Int → Int → zi_M → (Int → zi_M → Prop) → Prop) (l1 : Int) (l2 : Int) (K84 : zi_M → Prop) (Q : Int → zi_M → Prop) : Nat → Int → zi_M → Prop
  | 0, _, _ => False
  | f + 1, l3, g => (zi_r l3 ∧ ((10 ≤ l3 → K84 g) ∧ (l3 < 10 → ((0 ≤ l1 ∧ l1 < 8) ∧ ((¬ (zi_and (zi_shr (zi_and (g 181 l1) (zi_xor l2 (-1))) l3) 1) = 1 → w_Thought_seatFrom_l35 R l1 l2 K84 Q f (l3 + 1) g) ∧ ((zi_and (zi_shr (zi_and (g 181 l1) (zi_xor l2 (-1))) l3) 1) = 1 → (∀ g6, g6 = zi_u g 182 l1 l3 → R (l1 + 1) (zi_or l2 (zi_shl 1 l3)) g6 (fun _ g8 => w_Thought_seatFrom_l35 R l1 l2 K84 Q f (l3 + 1) g8))))))))
noncomputable def w_Thought_seatR : Nat → Int → Int → zi_M → (Int → zi_M → Prop) → Prop
  | 0, _, _, _, _ => False
  | n + 1, l1, l2, g, Q => (zi_r l1 ∧ ((l1 < 8 → ((0 ≤ l1 ∧ l1 < 8) ∧ (zi_r (g 181 l1) ∧ ((¬ (g 181 l1) = 0 → (∃ f13, w_Thought_seatFrom_l35 (w_Thought_seatR n) l1 l2 (fun g12 => Q 0 g12) Q f13 0 g)) ∧ ((g 181 l1) = 0 → w_Thought_seatR n (l1 + 1) l2 g (fun _ g15 => Q 0 g15)))))) ∧ (8 ≤ l1 → w_Thought_countWay g (fun _ g19 => Q 0 g19))))
noncomputable def w_Thought_seatFrom (l1 l2 : Int) (g : zi_M) (Q : Int → zi_M → Prop) : Prop := w_Thought_seatR 9 l1 l2 g Q

set_option maxRecDepth 100000 in
theorem s_Thought_seatFrom_l35_r {E : sx_E} {d : Nat} {n : Nat} (hn : n < d) {R : Int → Int → zi_M → (Int → zi_M → Prop) → Prop} (hR : ∀ {l1 l2 : Int} {g : zi_M} {Q : Int → zi_M → Prop}, R l1 l2 g Q → zi_S E n 136 [.ref 180, zi_i l1, zi_i l2] g (zi_Qv Q)) {l1 : Int} {l2 : Int} {K84 : zi_M → Prop} {Q : Int → zi_M → Prop} (hK84 : ∀ (g : zi_M), K84 g → zi_W E d 136 84 [some (.ref 180), some (zi_i l1), some (zi_i l2), none] [] g (zi_Qv Q)) : ∀ (f : Nat) {l3 : Int} {g : zi_M}, w_Thought_seatFrom_l35 R l1 l2 K84 Q f l3 g → zi_W E d 136 35 [some (.ref 180), some (zi_i l1), some (zi_i l2), some (zi_i l3)] [] g (zi_Qv Q)
  | 0, _, _, h => False.elim h
  | f + 1, l3, g, h => by
    refine zi_iload_n (pc' := 36) rfl rfl rfl ?_
    refine zi_bipush (pc' := 38) rfl rfl (by decide) ?_
    obtain ⟨o4, h⟩ := h
    refine zi_icmp_ge (x := 84) (pc' := 41) rfl rfl o4 (by decide) (fun c11 => ?_) (fun c11 => ?_)
    · replace h := h.1 c11
      exact zi_wk (hK84 _ h) (And.intro rfl (And.intro rfl (And.intro rfl trivial)))
    · replace h := h.2 c11
      refine zi_aload_n (pc' := 42) rfl rfl rfl ?_
      refine zi_getr (pc' := 45) rfl rfl rfl rfl rfl ?_
      refine zi_iload_n (pc' := 46) rfl rfl rfl ?_
      obtain ⟨o5, h⟩ := h
      refine zi_iald (pc' := 47) rfl rfl rfl o5 ?_
      refine zi_iload_n (pc' := 48) rfl rfl rfl ?_
      refine zi_iconst (pc' := 49) rfl rfl ?_
      refine zi_ixor (pc' := 50) rfl rfl ?_
      refine zi_iand (pc' := 51) rfl rfl ?_
      refine zi_iload_n (pc' := 52) rfl rfl rfl ?_
      refine zi_ishr (pc' := 53) rfl rfl ?_
      refine zi_iconst (pc' := 54) rfl rfl ?_
      refine zi_iand (pc' := 55) rfl rfl ?_
      refine zi_iconst (pc' := 56) rfl rfl ?_
      refine zi_icmp_ne (x := 78) (pc' := 59) rfl rfl (zi_r_and _ _) (by decide) (fun c10 => ?_) (fun c10 => ?_)
      · replace h := h.1 c10
        refine zi_iinc (pc' := 81) [some _, some _, some _, some _] rfl rfl rfl rfl ?_
        refine zi_goto (x := 35) rfl ?_
        exact zi_wk (s_Thought_seatFrom_l35_r hn hR hK84 f h) (And.intro rfl (And.intro rfl (And.intro rfl (And.intro rfl trivial))))
      · replace h := h.2 c10
        refine zi_aload_n (pc' := 60) rfl rfl rfl ?_
        refine zi_getr (pc' := 63) rfl rfl rfl rfl rfl ?_
        refine zi_iload_n (pc' := 64) rfl rfl rfl ?_
        refine zi_iload_n (pc' := 65) rfl rfl rfl ?_
        refine zi_iast (pc' := 66) rfl rfl rfl o5 ?_
        replace h := h _ rfl
        refine zi_aload_n (pc' := 67) rfl rfl rfl ?_
        refine zi_iload_n (pc' := 68) rfl rfl rfl ?_
        refine zi_iconst (pc' := 69) rfl rfl ?_
        refine zi_iadd (pc' := 70) rfl rfl ?_
        refine zi_iload_n (pc' := 71) rfl rfl rfl ?_
        refine zi_iconst (pc' := 72) rfl rfl ?_
        refine zi_iload_n (pc' := 73) rfl rfl rfl ?_
        refine zi_ishl (pc' := 74) rfl rfl ?_
        refine zi_ior (pc' := 75) rfl rfl ?_
        refine zi_callV (d' := n) (as := [_, _]) (pc' := 78) rfl rfl rfl rfl hn (hR h) (zi_kv (fun g8 h => ?_))
        refine zi_iinc (pc' := 81) [some _, some _, some _, some _] rfl rfl rfl rfl ?_
        refine zi_goto (x := 35) rfl ?_
        exact zi_wk (s_Thought_seatFrom_l35_r hn hR hK84 f h) (And.intro rfl (And.intro rfl (And.intro rfl (And.intro rfl trivial))))
set_option maxRecDepth 100000 in
theorem s_Thought_seatFrom_l35 {E : sx_E} {d : Nat} {n : Nat} (hn : n < d) {R : Int → Int → zi_M → (Int → zi_M → Prop) → Prop} (hR : ∀ {l1 l2 : Int} {g : zi_M} {Q : Int → zi_M → Prop}, R l1 l2 g Q → zi_S E n 136 [.ref 180, zi_i l1, zi_i l2] g (zi_Qv Q)) {l1 : Int} {l2 : Int} {K84 : zi_M → Prop} {Q : Int → zi_M → Prop} {l3 : Int} {g : zi_M} (h : ∃ f, w_Thought_seatFrom_l35 R l1 l2 K84 Q f l3 g) (hK84 : ∀ (g : zi_M), K84 g → zi_W E d 136 84 [some (.ref 180), some (zi_i l1), some (zi_i l2), none] [] g (zi_Qv Q)) : zi_W E d 136 35 [some (.ref 180), some (zi_i l1), some (zi_i l2), some (zi_i l3)] [] g (zi_Qv Q) := by
  obtain ⟨f, h⟩ := h
  exact s_Thought_seatFrom_l35_r hn hR hK84 f h
set_option maxRecDepth 100000 in
theorem s_Thought_seatR {E : sx_E} : ∀ (n : Nat) {d : Nat} (hd : n + 1 ≤ d) {l1 l2 : Int} {g : zi_M} {Q : Int → zi_M → Prop} (h : w_Thought_seatR n l1 l2 g Q), zi_S E d 136 [.ref 180, zi_i l1, zi_i l2] g (zi_Qv Q)
  | 0, _, _, _, _, _, _, h => False.elim h
  | n + 1, d, hd, l1, l2, g, Q, h => by
    refine zi_Sof jf_136 [some (.ref 180), some (zi_i l1), some (zi_i l2), none] rfl (And.intro rfl (And.intro rfl (And.intro rfl trivial))) ?_
    unfold w_Thought_seatR at h
    refine zi_iload_n (pc' := 1) rfl rfl rfl ?_
    refine zi_bipush (pc' := 3) rfl rfl (by decide) ?_
    obtain ⟨o1, h⟩ := h
    refine zi_icmp_lt (x := 13) (pc' := 6) rfl rfl o1 (by decide) (fun c21 => ?_) (fun c21 => ?_)
    · replace h := h.1 c21
      refine zi_aload_n (pc' := 14) rfl rfl rfl ?_
      refine zi_getr (pc' := 17) rfl rfl rfl rfl rfl ?_
      refine zi_iload_n (pc' := 18) rfl rfl rfl ?_
      obtain ⟨o2, h⟩ := h
      refine zi_iald (pc' := 19) rfl rfl rfl o2 ?_
      obtain ⟨o3, h⟩ := h
      refine zi_if_ne (x := 33) (pc' := 22) rfl rfl o3  (fun c17 => ?_) (fun c17 => ?_)
      · replace h := h.1 c17
        refine zi_iconst (pc' := 34) rfl rfl ?_
        refine zi_istore_n (pc' := 35) [some _, some _, some _, some _] rfl rfl rfl ?_
        refine zi_wk (s_Thought_seatFrom_l35 (n := n + 1) (by omega) (fun h => s_Thought_seatR n (Nat.le_refl _) h) h (fun g12 h => ?_)) (And.intro rfl (And.intro rfl (And.intro rfl (And.intro rfl trivial))))
        exact zi_vret rfl rfl h
      · replace h := h.2 c17
        refine zi_aload_n (pc' := 23) rfl rfl rfl ?_
        refine zi_iload_n (pc' := 24) rfl rfl rfl ?_
        refine zi_iconst (pc' := 25) rfl rfl ?_
        refine zi_iadd (pc' := 26) rfl rfl ?_
        refine zi_iload_n (pc' := 27) rfl rfl rfl ?_
        refine zi_callV (d' := n + 1) (as := [_, _]) (pc' := 30) rfl rfl rfl rfl (by omega) (s_Thought_seatR n (Nat.le_refl _) h) (zi_kv (fun g15 h => ?_))
        refine zi_goto (x := 84) rfl ?_
        exact zi_vret rfl rfl h
    · replace h := h.2 c21
      refine zi_aload_n (pc' := 7) rfl rfl rfl ?_
      refine zi_callV (d' := 1) (as := []) (pc' := 10) rfl rfl rfl rfl (by omega) (s_Thought_countWay (Nat.le_refl _) h) (zi_kv (fun g19 h => ?_))
      refine zi_goto (x := 84) rfl ?_
      exact zi_vret rfl rfl h
theorem s_Thought_seatFrom {E : sx_E} {d : Nat} (hd : 14 ≤ d) {l1 l2 : Int} {g : zi_M} {Q : Int → zi_M → Prop} (h : w_Thought_seatFrom l1 l2 g Q) : zi_S E d 136 [.ref 180, zi_i l1, zi_i l2] g (zi_Qv Q) := s_Thought_seatR 9 (Nat.le_trans (by decide) hd) h

-- SpoutNews$Thought.countWays(LSpoutNews$Told;)V
noncomputable def w_Thought_countWays_l23 (K59 : zi_M → Prop) (Q : Int → zi_M → Prop) : Nat → Int → zi_M → Prop
  | 0, _, _ => False
  | f + 1, l2, g => (zi_r l2 ∧ zi_r (g 36 2) ∧ (((g 36 2) ≤ l2 → K59 g) ∧ (l2 < (g 36 2) → ((0 ≤ l2 ∧ l2 < 12) ∧ ((0 ≤ (g 37 l2) ∧ (g 37 l2) < 8) ∧ (∀ g8, g8 = zi_u g 181 (g 37 l2) (zi_or (g 181 (g 37 l2)) (zi_shl 1 (g 38 l2))) → w_Thought_countWays_l23 K59 Q f (l2 + 1) g8))))))
noncomputable def w_Thought_countWays (g : zi_M) (Q : Int → zi_M → Prop) : Prop := (∀ g1, g1 = zi_fl g 181 8 0 → (∀ g2, g2 = zi_fl g1 183 80 0 → (∀ g3, g3 = zi_u g2 180 3 0 → (∃ f14, w_Thought_countWays_l23 (fun g10 => w_Thought_seatFrom 0 0 g10 (fun _ g12 => Q 0 g12)) Q f14 0 g3))))
set_option maxRecDepth 100000 in
theorem s_Thought_countWays_l23_r {E : sx_E} {d : Nat} (hd : 15 ≤ d) {K59 : zi_M → Prop} {Q : Int → zi_M → Prop} (hK59 : ∀ (g : zi_M), K59 g → zi_W E d 135 59 [some (.ref 180), some (.ref 36), none] [] g (zi_Qv Q)) : ∀ (f : Nat) {l2 : Int} {g : zi_M}, w_Thought_countWays_l23 K59 Q f l2 g → zi_W E d 135 23 [some (.ref 180), some (.ref 36), some (zi_i l2)] [] g (zi_Qv Q)
  | 0, _, _, h => False.elim h
  | f + 1, l2, g, h => by
    refine zi_iload_n (pc' := 24) rfl rfl rfl ?_
    refine zi_aload_n (pc' := 25) rfl rfl rfl ?_
    refine zi_geti (pc' := 28) 2 rfl rfl rfl rfl rfl rfl ?_
    obtain ⟨o4, o5, h⟩ := h
    refine zi_icmp_ge (x := 59) (pc' := 31) rfl rfl o4 o5 (fun c9 => ?_) (fun c9 => ?_)
    · replace h := h.1 c9
      exact zi_wk (hK59 _ h) (And.intro rfl (And.intro rfl trivial))
    · replace h := h.2 c9
      refine zi_aload_n (pc' := 32) rfl rfl rfl ?_
      refine zi_getr (pc' := 35) rfl rfl rfl rfl rfl ?_
      refine zi_aload_n (pc' := 36) rfl rfl rfl ?_
      refine zi_getr (pc' := 39) rfl rfl rfl rfl rfl ?_
      refine zi_iload_n (pc' := 40) rfl rfl rfl ?_
      obtain ⟨o6, h⟩ := h
      refine zi_iald (pc' := 41) rfl rfl rfl o6 ?_
      refine zi_dup2 (pc' := 42) rfl rfl rfl rfl ?_
      obtain ⟨o7, h⟩ := h
      refine zi_iald (pc' := 43) rfl rfl rfl o7 ?_
      refine zi_iconst (pc' := 44) rfl rfl ?_
      refine zi_aload_n (pc' := 45) rfl rfl rfl ?_
      refine zi_getr (pc' := 48) rfl rfl rfl rfl rfl ?_
      refine zi_iload_n (pc' := 49) rfl rfl rfl ?_
      refine zi_iald (pc' := 50) rfl rfl rfl o6 ?_
      refine zi_ishl (pc' := 51) rfl rfl ?_
      refine zi_ior (pc' := 52) rfl rfl ?_
      refine zi_iast (pc' := 53) rfl rfl rfl o7 ?_
      replace h := h _ rfl
      refine zi_iinc (pc' := 56) [some _, some _, some _] rfl rfl rfl rfl ?_
      refine zi_goto (x := 23) rfl ?_
      exact zi_wk (s_Thought_countWays_l23_r hd hK59 f h) (And.intro rfl (And.intro rfl (And.intro rfl trivial)))
set_option maxRecDepth 100000 in
theorem s_Thought_countWays_l23 {E : sx_E} {d : Nat} (hd : 15 ≤ d) {K59 : zi_M → Prop} {Q : Int → zi_M → Prop} {l2 : Int} {g : zi_M} (h : ∃ f, w_Thought_countWays_l23 K59 Q f l2 g) (hK59 : ∀ (g : zi_M), K59 g → zi_W E d 135 59 [some (.ref 180), some (.ref 36), none] [] g (zi_Qv Q)) : zi_W E d 135 23 [some (.ref 180), some (.ref 36), some (zi_i l2)] [] g (zi_Qv Q) := by
  obtain ⟨f, h⟩ := h
  exact s_Thought_countWays_l23_r hd hK59 f h
set_option maxRecDepth 100000 in
theorem s_Thought_countWays {E : sx_E} {d : Nat} (hd : 15 ≤ d) {g : zi_M} {Q : Int → zi_M → Prop} (h : w_Thought_countWays g Q) : zi_S E d 135 [.ref 180, .ref 36] g (zi_Qv Q) := by
  refine zi_Sof jf_135 [some (.ref 180), some (.ref 36), none] rfl (And.intro rfl (And.intro rfl trivial)) ?_
  unfold w_Thought_countWays at h
  refine zi_aload_n (pc' := 1) rfl rfl rfl ?_
  refine zi_getr (pc' := 4) rfl rfl rfl rfl rfl ?_
  refine zi_iconst (pc' := 5) rfl rfl ?_
  refine zi_callS (d' := 2) (as := [_, _]) (pc' := 8) rfl rfl rfl (Nat.lt_of_lt_of_le (by decide) hd) (zi_fill (n := 8) rfl rfl) (zi_kv (fun g' h' => ?_))
  subst h'
  replace h := h _ rfl
  refine zi_aload_n (pc' := 9) rfl rfl rfl ?_
  refine zi_getr (pc' := 12) rfl rfl rfl rfl rfl ?_
  refine zi_iconst (pc' := 13) rfl rfl ?_
  refine zi_callS (d' := 2) (as := [_, _]) (pc' := 16) rfl rfl rfl (Nat.lt_of_lt_of_le (by decide) hd) (zi_fill (n := 80) rfl rfl) (zi_kv (fun g' h' => ?_))
  subst h'
  replace h := h _ rfl
  refine zi_aload_n (pc' := 17) rfl rfl rfl ?_
  refine zi_iconst (pc' := 18) rfl rfl ?_
  refine zi_puti (pc' := 21) 3 rfl rfl rfl rfl rfl  ?_
  replace h := h _ rfl
  refine zi_iconst (pc' := 22) rfl rfl ?_
  refine zi_istore_n (pc' := 23) [some _, some _, some _] rfl rfl rfl ?_
  refine zi_wk (s_Thought_countWays_l23 hd h (fun g10 h => ?_)) (And.intro rfl (And.intro rfl (And.intro rfl trivial)))
  refine zi_aload_n (pc' := 60) rfl rfl rfl ?_
  refine zi_iconst (pc' := 61) rfl rfl ?_
  refine zi_iconst (pc' := 62) rfl rfl ?_
  refine zi_callV (d' := 14) (as := [_, _]) (pc' := 65) rfl rfl rfl rfl (Nat.lt_of_lt_of_le (by decide) hd) (s_Thought_seatFrom (Nat.le_refl _) h) (zi_kv (fun g12 h => ?_))
  exact zi_vret rfl rfl h
-- SpoutNews.ways(I)I
noncomputable def w_S_ways (l1 : Int) (g : zi_M) (Q : Int → zi_M → Prop) : Prop := (zi_r l1 ∧ ((l1 < 0 → Q (-1) g) ∧ (0 ≤ l1 → ((l1 ≤ 2 → w_Thought_countWays g (fun _ g3 => ((l1 ≠ 0 → l1 ≠ 1 → w_Thought_whomToAsk g3 (fun v6 g7 => Q v6 g7)) ∧ (l1 = 0 → Q (g3 180 3) g3) ∧ (l1 = 1 → w_Thought_sureCouples g3 (fun v9 g10 => Q v9 g10))))) ∧ (2 < l1 → Q (-1) g)))))
set_option maxRecDepth 100000 in
theorem s_S_ways {E : sx_E} {d : Nat} (hd : 16 ≤ d) {l1 : Int} {g : zi_M} {Q : Int → zi_M → Prop} (h : w_S_ways l1 g Q) : zi_S E d 134 [.ref 0, zi_i l1] g (zi_Q Q) := by
  refine zi_Sof jf_134 [some (.ref 0), some (zi_i l1)] rfl (And.intro rfl (And.intro rfl trivial)) ?_
  unfold w_S_ways at h
  refine zi_iload_n (pc' := 1) rfl rfl rfl ?_
  obtain ⟨o1, h⟩ := h
  refine zi_if_lt (x := 9) (pc' := 4) rfl rfl o1  (fun c13 => ?_) (fun c13 => ?_)
  · replace h := h.1 c13
    refine zi_iconst (pc' := 10) rfl rfl ?_
    exact zi_iret rfl rfl h
  · replace h := h.2 c13
    refine zi_iload_n (pc' := 5) rfl rfl rfl ?_
    refine zi_iconst (pc' := 6) rfl rfl ?_
    refine zi_icmp_le (x := 11) (pc' := 9) rfl rfl o1 (by decide) (fun c12 => ?_) (fun c12 => ?_)
    · replace h := h.1 c12
      refine zi_aload_n (pc' := 12) rfl rfl rfl ?_
      refine zi_getr (pc' := 15) rfl rfl rfl rfl rfl ?_
      refine zi_aload_n (pc' := 16) rfl rfl rfl ?_
      refine zi_getr (pc' := 19) rfl rfl rfl rfl rfl ?_
      refine zi_getr (pc' := 22) rfl rfl rfl rfl rfl ?_
      refine zi_callV (d' := 15) (as := [_]) (pc' := 25) rfl rfl rfl rfl (Nat.lt_of_lt_of_le (by decide) hd) (s_Thought_countWays (Nat.le_refl _) h) (zi_kv (fun g3 h => ?_))
      refine zi_iload_n (pc' := 26) rfl rfl rfl ?_
      refine zi_lsw [(0, 52), (1, 60)] 68 rfl rfl o1 (fun c5 => ?_) (And.intro (fun c5 => ?_) (And.intro (fun c5 => ?_) trivial))
      · replace h := h.1 (c5 _ (List.mem_cons_self)) (c5 _ (List.mem_cons_of_mem _ (List.mem_cons_self)))
        refine zi_aload_n (pc' := 69) rfl rfl rfl ?_
        refine zi_getr (pc' := 72) rfl rfl rfl rfl rfl ?_
        refine zi_callV (d' := 1) (as := []) (pc' := 75) rfl rfl rfl rfl (Nat.lt_of_lt_of_le (by decide) hd) (s_Thought_whomToAsk (Nat.le_refl _) h) (zi_ki (fun v6 g7 h => ?_))
        exact zi_iret rfl rfl h
      · replace h := h.2.1 c5
        refine zi_aload_n (pc' := 53) rfl rfl rfl ?_
        refine zi_getr (pc' := 56) rfl rfl rfl rfl rfl ?_
        refine zi_geti (pc' := 59) 3 rfl rfl rfl rfl rfl rfl ?_
        exact zi_iret rfl rfl h
      · replace h := h.2.2 c5
        refine zi_aload_n (pc' := 61) rfl rfl rfl ?_
        refine zi_getr (pc' := 64) rfl rfl rfl rfl rfl ?_
        refine zi_callV (d' := 1) (as := []) (pc' := 67) rfl rfl rfl rfl (Nat.lt_of_lt_of_le (by decide) hd) (s_Thought_sureCouples (Nat.le_refl _) h) (zi_ki (fun v9 g10 h => ?_))
        exact zi_iret rfl rfl h
    · replace h := h.2 c12
      refine zi_iconst (pc' := 10) rfl rfl ?_
      exact zi_iret rfl rfl h
-- SpoutNews.surmise(III)I
noncomputable def w_S_surmise (l1 : Int) (l2 : Int) (l3 : Int) (g : zi_M) (Q : Int → zi_M → Prop) : Prop := (zi_r l1 ∧ ((l1 < 0 → Q (-1) g) ∧ (0 ≤ l1 → ((1000 < l1 → Q (-1) g) ∧ (l1 ≤ 1000 → (zi_r l2 ∧ ((l2 < 0 → Q (-1) g) ∧ (0 ≤ l2 → ((20 < l2 → Q (-1) g) ∧ (l2 ≤ 20 → (zi_r l3 ∧ ((l3 < 0 → Q (-1) g) ∧ (0 ≤ l3 → ((l3 ≤ 20 → w_Thought_likely l1 l2 l3 g (fun v4 g5 => Q v4 g5)) ∧ (20 < l3 → Q (-1) g)))))))))))))))
set_option maxRecDepth 100000 in
theorem s_S_surmise {E : sx_E} {d : Nat} (hd : 11 ≤ d) {l1 : Int} {l2 : Int} {l3 : Int} {g : zi_M} {Q : Int → zi_M → Prop} (h : w_S_surmise l1 l2 l3 g Q) : zi_S E d 160 [.ref 0, zi_i l1, zi_i l2, zi_i l3] g (zi_Q Q) := by
  refine zi_Sof jf_160 [some (.ref 0), some (zi_i l1), some (zi_i l2), some (zi_i l3)] rfl (And.intro rfl (And.intro rfl (And.intro rfl (And.intro rfl trivial)))) ?_
  unfold w_S_surmise at h
  refine zi_iload_n (pc' := 1) rfl rfl rfl ?_
  obtain ⟨o1, h⟩ := h
  refine zi_if_lt (x := 31) (pc' := 4) rfl rfl o1  (fun c12 => ?_) (fun c12 => ?_)
  · replace h := h.1 c12
    refine zi_iconst (pc' := 32) rfl rfl ?_
    exact zi_iret rfl rfl h
  · replace h := h.2 c12
    refine zi_iload_n (pc' := 5) rfl rfl rfl ?_
    refine zi_sipush (pc' := 8) rfl rfl (by decide) ?_
    refine zi_icmp_gt (x := 31) (pc' := 11) rfl rfl o1 (by decide) (fun c11 => ?_) (fun c11 => ?_)
    · replace h := h.1 c11
      refine zi_iconst (pc' := 32) rfl rfl ?_
      exact zi_iret rfl rfl h
    · replace h := h.2 c11
      refine zi_iload_n (pc' := 12) rfl rfl rfl ?_
      obtain ⟨o2, h⟩ := h
      refine zi_if_lt (x := 31) (pc' := 15) rfl rfl o2  (fun c10 => ?_) (fun c10 => ?_)
      · replace h := h.1 c10
        refine zi_iconst (pc' := 32) rfl rfl ?_
        exact zi_iret rfl rfl h
      · replace h := h.2 c10
        refine zi_iload_n (pc' := 16) rfl rfl rfl ?_
        refine zi_bipush (pc' := 18) rfl rfl (by decide) ?_
        refine zi_icmp_gt (x := 31) (pc' := 21) rfl rfl o2 (by decide) (fun c9 => ?_) (fun c9 => ?_)
        · replace h := h.1 c9
          refine zi_iconst (pc' := 32) rfl rfl ?_
          exact zi_iret rfl rfl h
        · replace h := h.2 c9
          refine zi_iload_n (pc' := 22) rfl rfl rfl ?_
          obtain ⟨o3, h⟩ := h
          refine zi_if_lt (x := 31) (pc' := 25) rfl rfl o3  (fun c8 => ?_) (fun c8 => ?_)
          · replace h := h.1 c8
            refine zi_iconst (pc' := 32) rfl rfl ?_
            exact zi_iret rfl rfl h
          · replace h := h.2 c8
            refine zi_iload_n (pc' := 26) rfl rfl rfl ?_
            refine zi_bipush (pc' := 28) rfl rfl (by decide) ?_
            refine zi_icmp_le (x := 33) (pc' := 31) rfl rfl o3 (by decide) (fun c7 => ?_) (fun c7 => ?_)
            · replace h := h.1 c7
              refine zi_iload_n (pc' := 34) rfl rfl rfl ?_
              refine zi_iload_n (pc' := 35) rfl rfl rfl ?_
              refine zi_iload_n (pc' := 36) rfl rfl rfl ?_
              refine zi_callS (d' := 10) (as := [_, _, _]) (pc' := 39) rfl rfl rfl (Nat.lt_of_lt_of_le (by decide) hd) (s_Thought_likely (Nat.le_refl _) h) (zi_ki (fun v4 g5 h => ?_))
              exact zi_iret rfl rfl h
            · replace h := h.2 c7
              refine zi_iconst (pc' := 32) rfl rfl ?_
              exact zi_iret rfl rfl h
