-- by program (wip/gen/mkz.py)
-- SpoutNewsModel.readGutter()I
noncomputable def w_M_readGutter_b62 (l1 : Int) (g : zi_M) (Q : Int → zi_M → Prop) : Prop := w_M_readNumber 0 ((g 214 6) - 1) g (fun v12 g13 => (zi_r v12 ∧ ((¬ v12 = (-1) → ((0 ≤ (10 + l1) ∧ (10 + l1) < 20) ∧ (∀ g17, g17 = zi_u g13 232 (10 + l1) (v12 + 1) → w_M_readMark 59 g17 (fun v18 g19 => Q v18 g19)))) ∧ (v12 = (-1) → Q (-1) g13))))
noncomputable def w_M_readGutter (g : zi_M) (Q : Int → zi_M → Prop) : Prop := w_M_readTold 16 0 ((g 214 6) - 1) g (fun v1 g2 => (zi_r v1 ∧ ((¬ v1 = (-1) → w_M_isWord 17 g2 (fun v5 g6 => ((¬ v5 = 0 → w_M_reads g6 (fun _ g9 => (zi_r (g9 214 16) ∧ ((¬ (g9 214 16) = 3 → w_M_readGutter_b62 v1 g9 Q) ∧ ((g9 214 16) = 3 → (zi_r (g9 214 17) ∧ ((¬ (g9 214 17) = v1 → w_M_readGutter_b62 v1 g9 Q) ∧ ((g9 214 17) = v1 → w_M_errs 2 g9 (fun v23 g24 => Q v23 g24))))))))) ∧ (v5 = 0 → w_M_errs 1 g6 (fun v28 g29 => Q v28 g29))))) ∧ (v1 = (-1) → Q (-1) g2))))
set_option maxRecDepth 100000 in
theorem s_M_readGutter_b62 {E : sx_E} {d : Nat} (hd : 6 ≤ d) {l1 : Int} {Q : Int → zi_M → Prop} {g : zi_M} (h : w_M_readGutter_b62 l1 g Q) : zi_W E d 212 62 [some (.ref 214), some (zi_i l1), none] [] g (zi_Q Q) := by
  unfold w_M_readGutter_b62 at h
  refine zi_aload_n (pc' := 63) rfl rfl rfl ?_
  refine zi_iconst (pc' := 64) rfl rfl ?_
  refine zi_aload_n (pc' := 65) rfl rfl rfl ?_
  refine zi_geti (pc' := 68) 6 rfl rfl rfl rfl rfl rfl ?_
  refine zi_iconst (pc' := 69) rfl rfl ?_
  refine zi_isub (pc' := 70) rfl rfl ?_
  refine zi_callV (d' := 4) (as := [_, _]) (pc' := 73) rfl rfl rfl rfl (Nat.lt_of_lt_of_le (by decide) hd) (s_M_readNumber (Nat.le_refl _) h) (zi_ki (fun v12 g13 h => ?_))
  refine zi_istore_n (pc' := 74) [some _, some _, some _] rfl rfl rfl ?_
  refine zi_iload_n (pc' := 75) rfl rfl rfl ?_
  refine zi_iconst (pc' := 76) rfl rfl ?_
  obtain ⟨o15, h⟩ := h
  refine zi_icmp_ne (x := 81) (pc' := 79) rfl rfl o15 (by decide) (fun c21 => ?_) (fun c21 => ?_)
  · replace h := h.1 c21
    refine zi_aload_n (pc' := 82) rfl rfl rfl ?_
    refine zi_getr (pc' := 85) rfl rfl rfl rfl rfl ?_
    refine zi_bipush (pc' := 87) rfl rfl (by decide) ?_
    refine zi_iload_n (pc' := 88) rfl rfl rfl ?_
    refine zi_iadd (pc' := 89) rfl rfl ?_
    refine zi_iload_n (pc' := 90) rfl rfl rfl ?_
    refine zi_iconst (pc' := 91) rfl rfl ?_
    refine zi_iadd (pc' := 92) rfl rfl ?_
    obtain ⟨o16, h⟩ := h
    refine zi_iast (pc' := 93) rfl rfl rfl o16 ?_
    replace h := h _ rfl
    refine zi_aload_n (pc' := 94) rfl rfl rfl ?_
    refine zi_bipush (pc' := 96) rfl rfl (by decide) ?_
    refine zi_callV (d' := 4) (as := [_]) (pc' := 99) rfl rfl rfl rfl (Nat.lt_of_lt_of_le (by decide) hd) (s_M_readMark (Nat.le_refl _) h) (zi_ki (fun v18 g19 h => ?_))
    exact zi_iret rfl rfl h
  · replace h := h.2 c21
    refine zi_iconst (pc' := 80) rfl rfl ?_
    exact zi_iret rfl rfl h
set_option maxRecDepth 100000 in
theorem s_M_readGutter {E : sx_E} {d : Nat} (hd : 6 ≤ d) {g : zi_M} {Q : Int → zi_M → Prop} (h : w_M_readGutter g Q) : zi_S E d 212 [.ref 214] g (zi_Q Q) := by
  refine zi_Sof jf_212 [some (.ref 214), none, none] rfl (And.intro rfl trivial) ?_
  unfold w_M_readGutter at h
  refine zi_aload_n (pc' := 1) rfl rfl rfl ?_
  refine zi_bipush (pc' := 3) rfl rfl (by decide) ?_
  refine zi_iconst (pc' := 4) rfl rfl ?_
  refine zi_aload_n (pc' := 5) rfl rfl rfl ?_
  refine zi_geti (pc' := 8) 6 rfl rfl rfl rfl rfl rfl ?_
  refine zi_iconst (pc' := 9) rfl rfl ?_
  refine zi_isub (pc' := 10) rfl rfl ?_
  refine zi_callV (d' := 5) (as := [_, _, _]) (pc' := 13) rfl rfl rfl rfl (Nat.lt_of_lt_of_le (by decide) hd) (s_M_readTold (Nat.le_refl _) h) (zi_ki (fun v1 g2 h => ?_))
  refine zi_istore_n (pc' := 14) [some _, some _, none] rfl rfl rfl ?_
  refine zi_iload_n (pc' := 15) rfl rfl rfl ?_
  refine zi_iconst (pc' := 16) rfl rfl ?_
  obtain ⟨o4, h⟩ := h
  refine zi_icmp_ne (x := 21) (pc' := 19) rfl rfl o4 (by decide) (fun c32 => ?_) (fun c32 => ?_)
  · replace h := h.1 c32
    refine zi_aload_n (pc' := 22) rfl rfl rfl ?_
    refine zi_bipush (pc' := 24) rfl rfl (by decide) ?_
    refine zi_callV (d' := 1) (as := [_]) (pc' := 27) rfl rfl rfl rfl (Nat.lt_of_lt_of_le (by decide) hd) (s_M_isWord (Nat.le_refl _) h) (zi_kb (fun v5 g6 b7 h => ?_))
    refine zi_if_ne (x := 36) (pc' := 30) rfl rfl (zi_r_bit b7)  (fun c31 => ?_) (fun c31 => ?_)
    · replace h := h.1 c31
      refine zi_aload_n (pc' := 37) rfl rfl rfl ?_
      refine zi_callV (d' := 3) (as := []) (pc' := 40) rfl rfl rfl rfl (Nat.lt_of_lt_of_le (by decide) hd) (s_M_reads (Nat.le_refl _) h) (zi_kv (fun g9 h => ?_))
      refine zi_aload_n (pc' := 41) rfl rfl rfl ?_
      refine zi_geti (pc' := 44) 16 rfl rfl rfl rfl rfl rfl ?_
      refine zi_iconst (pc' := 45) rfl rfl ?_
      obtain ⟨o11, h⟩ := h
      refine zi_icmp_ne (x := 62) (pc' := 48) rfl rfl o11 (by decide) (fun c27 => ?_) (fun c27 => ?_)
      · replace h := h.1 c27
        exact zi_wk (s_M_readGutter_b62 hd h) (And.intro rfl (And.intro rfl trivial))
      · replace h := h.2 c27
        refine zi_aload_n (pc' := 49) rfl rfl rfl ?_
        refine zi_geti (pc' := 52) 17 rfl rfl rfl rfl rfl rfl ?_
        refine zi_iload_n (pc' := 53) rfl rfl rfl ?_
        obtain ⟨o22, h⟩ := h
        refine zi_icmp_ne (x := 62) (pc' := 56) rfl rfl o22 o4 (fun c26 => ?_) (fun c26 => ?_)
        · replace h := h.1 c26
          exact zi_wk (s_M_readGutter_b62 hd h) (And.intro rfl (And.intro rfl trivial))
        · replace h := h.2 c26
          refine zi_aload_n (pc' := 57) rfl rfl rfl ?_
          refine zi_iconst (pc' := 58) rfl rfl ?_
          refine zi_callV (d' := 1) (as := [_]) (pc' := 61) rfl rfl rfl rfl (Nat.lt_of_lt_of_le (by decide) hd) (s_M_errs (Nat.le_refl _) h) (zi_ki (fun v23 g24 h => ?_))
          exact zi_iret rfl rfl h
    · replace h := h.2 c31
      refine zi_aload_n (pc' := 31) rfl rfl rfl ?_
      refine zi_iconst (pc' := 32) rfl rfl ?_
      refine zi_callV (d' := 1) (as := [_]) (pc' := 35) rfl rfl rfl rfl (Nat.lt_of_lt_of_le (by decide) hd) (s_M_errs (Nat.le_refl _) h) (zi_ki (fun v28 g29 h => ?_))
      exact zi_iret rfl rfl h
  · replace h := h.2 c32
    refine zi_iconst (pc' := 20) rfl rfl ?_
    exact zi_iret rfl rfl h
-- SpoutNewsModel.readGutters()I
noncomputable def w_M_readGutters_l2 (K24 : zi_M → Prop) (Q : Int → zi_M → Prop) : Nat → Int → zi_M → Prop
  | 0, _, _ => False
  | f + 1, l1, g => (zi_r l1 ∧ ((10 ≤ l1 → K24 g) ∧ (l1 < 10 → ((0 ≤ (10 + l1) ∧ (10 + l1) < 20) ∧ (∀ g3, g3 = zi_u g 232 (10 + l1) 0 → w_M_readGutters_l2 K24 Q f (l1 + 1) g3)))))
noncomputable def w_M_readGutters_l26 (K41 : zi_M → Prop) (K55 : zi_M → Prop) (K64 : Int → zi_M → Prop) (Q : Int → zi_M → Prop) : Nat → Int → zi_M → Prop
  | 0, _, _ => False
  | f + 1, l1, g => w_M_isWord 16 g (fun v6 g7 => ((v6 = 0 → K64 l1 g7) ∧ (¬ v6 = 0 → (zi_r l1 ∧ ((¬ l1 = 16 → w_M_readGutter g7 (fun v10 g11 => (zi_r v10 ∧ ((¬ v10 = (-1) → w_M_readGutters_l26 K41 K55 K64 Q f (l1 + 1) g11) ∧ (v10 = (-1) → K55 g11))))) ∧ (l1 = 16 → K41 g7))))))
noncomputable def w_M_readGutters (g : zi_M) (Q : Int → zi_M → Prop) : Prop := (∃ f30, w_M_readGutters_l2 (fun g5 => (∃ f29, w_M_readGutters_l26 (fun g17 => w_M_errs 3 g17 (fun v18 g19 => Q v18 g19)) (fun g21 => Q (-1) g21) (fun k22 g23 => (zi_r (g23 214 16) ∧ ((¬ (g23 214 16) = 0 → w_M_errs 1 g23 (fun v25 g26 => Q v25 g26)) ∧ ((g23 214 16) = 0 → Q k22 g23)))) Q f29 0 g5)) Q f30 0 g)
set_option maxRecDepth 100000 in
theorem s_M_readGutters_l2_r {E : sx_E} {d : Nat} (hd : 7 ≤ d) {K24 : zi_M → Prop} {Q : Int → zi_M → Prop} (hK24 : ∀ (g : zi_M), K24 g → zi_W E d 209 24 [some (.ref 214), none] [] g (zi_Q Q)) : ∀ (f : Nat) {l1 : Int} {g : zi_M}, w_M_readGutters_l2 K24 Q f l1 g → zi_W E d 209 2 [some (.ref 214), some (zi_i l1)] [] g (zi_Q Q)
  | 0, _, _, h => False.elim h
  | f + 1, l1, g, h => by
    refine zi_iload_n (pc' := 3) rfl rfl rfl ?_
    refine zi_bipush (pc' := 5) rfl rfl (by decide) ?_
    obtain ⟨o1, h⟩ := h
    refine zi_icmp_ge (x := 24) (pc' := 8) rfl rfl o1 (by decide) (fun c4 => ?_) (fun c4 => ?_)
    · replace h := h.1 c4
      exact zi_wk (hK24 _ h) (And.intro rfl trivial)
    · replace h := h.2 c4
      refine zi_aload_n (pc' := 9) rfl rfl rfl ?_
      refine zi_getr (pc' := 12) rfl rfl rfl rfl rfl ?_
      refine zi_bipush (pc' := 14) rfl rfl (by decide) ?_
      refine zi_iload_n (pc' := 15) rfl rfl rfl ?_
      refine zi_iadd (pc' := 16) rfl rfl ?_
      refine zi_iconst (pc' := 17) rfl rfl ?_
      obtain ⟨o2, h⟩ := h
      refine zi_iast (pc' := 18) rfl rfl rfl o2 ?_
      replace h := h _ rfl
      refine zi_iinc (pc' := 21) [some _, some _] rfl rfl rfl rfl ?_
      refine zi_goto (x := 2) rfl ?_
      exact zi_wk (s_M_readGutters_l2_r hd hK24 f h) (And.intro rfl (And.intro rfl trivial))
set_option maxRecDepth 100000 in
theorem s_M_readGutters_l2 {E : sx_E} {d : Nat} (hd : 7 ≤ d) {K24 : zi_M → Prop} {Q : Int → zi_M → Prop} {l1 : Int} {g : zi_M} (h : ∃ f, w_M_readGutters_l2 K24 Q f l1 g) (hK24 : ∀ (g : zi_M), K24 g → zi_W E d 209 24 [some (.ref 214), none] [] g (zi_Q Q)) : zi_W E d 209 2 [some (.ref 214), some (zi_i l1)] [] g (zi_Q Q) := by
  obtain ⟨f, h⟩ := h
  exact s_M_readGutters_l2_r hd hK24 f h
set_option maxRecDepth 100000 in
theorem s_M_readGutters_l26_r {E : sx_E} {d : Nat} (hd : 7 ≤ d) {K41 : zi_M → Prop} {K55 : zi_M → Prop} {K64 : Int → zi_M → Prop} {Q : Int → zi_M → Prop} (hK41 : ∀ (g : zi_M), K41 g → zi_W E d 209 41 [some (.ref 214), none] [] g (zi_Q Q)) (hK55 : ∀ (g : zi_M), K55 g → zi_W E d 209 55 [some (.ref 214), none] [] g (zi_Q Q)) (hK64 : ∀ (k1 : Int) (g : zi_M), K64 k1 g → zi_W E d 209 64 [some (.ref 214), some (zi_i k1)] [] g (zi_Q Q)) : ∀ (f : Nat) {l1 : Int} {g : zi_M}, w_M_readGutters_l26 K41 K55 K64 Q f l1 g → zi_W E d 209 26 [some (.ref 214), some (zi_i l1)] [] g (zi_Q Q)
  | 0, _, _, h => False.elim h
  | f + 1, l1, g, h => by
    refine zi_aload_n (pc' := 27) rfl rfl rfl ?_
    refine zi_bipush (pc' := 29) rfl rfl (by decide) ?_
    refine zi_callV (d' := 1) (as := [_]) (pc' := 32) rfl rfl rfl rfl (Nat.lt_of_lt_of_le (by decide) hd) (s_M_isWord (Nat.le_refl _) h) (zi_kb (fun v6 g7 b8 h => ?_))
    refine zi_if_eq (x := 64) (pc' := 35) rfl rfl (zi_r_bit b8)  (fun c16 => ?_) (fun c16 => ?_)
    · replace h := h.1 c16
      exact zi_wk (hK64 _ _ h) (And.intro rfl (And.intro rfl trivial))
    · replace h := h.2 c16
      refine zi_iload_n (pc' := 36) rfl rfl rfl ?_
      refine zi_bipush (pc' := 38) rfl rfl (by decide) ?_
      obtain ⟨o9, h⟩ := h
      refine zi_icmp_ne (x := 47) (pc' := 41) rfl rfl o9 (by decide) (fun c15 => ?_) (fun c15 => ?_)
      · replace h := h.1 c15
        refine zi_aload_n (pc' := 48) rfl rfl rfl ?_
        refine zi_callV (d' := 6) (as := []) (pc' := 51) rfl rfl rfl rfl (Nat.lt_of_lt_of_le (by decide) hd) (s_M_readGutter (Nat.le_refl _) h) (zi_ki (fun v10 g11 h => ?_))
        refine zi_iconst (pc' := 52) rfl rfl ?_
        obtain ⟨o13, h⟩ := h
        refine zi_icmp_ne (x := 57) (pc' := 55) rfl rfl o13 (by decide) (fun c14 => ?_) (fun c14 => ?_)
        · replace h := h.1 c14
          refine zi_iload_n (pc' := 58) rfl rfl rfl ?_
          refine zi_iconst (pc' := 59) rfl rfl ?_
          refine zi_iadd (pc' := 60) rfl rfl ?_
          refine zi_istore_n (pc' := 61) [some _, some _] rfl rfl rfl ?_
          refine zi_goto (x := 26) rfl ?_
          exact zi_wk (s_M_readGutters_l26_r hd hK41 hK55 hK64 f h) (And.intro rfl (And.intro rfl trivial))
        · replace h := h.2 c14
          exact zi_wk (hK55 _ h) (And.intro rfl trivial)
      · replace h := h.2 c15
        exact zi_wk (hK41 _ h) (And.intro rfl trivial)
set_option maxRecDepth 100000 in
theorem s_M_readGutters_l26 {E : sx_E} {d : Nat} (hd : 7 ≤ d) {K41 : zi_M → Prop} {K55 : zi_M → Prop} {K64 : Int → zi_M → Prop} {Q : Int → zi_M → Prop} {l1 : Int} {g : zi_M} (h : ∃ f, w_M_readGutters_l26 K41 K55 K64 Q f l1 g) (hK41 : ∀ (g : zi_M), K41 g → zi_W E d 209 41 [some (.ref 214), none] [] g (zi_Q Q)) (hK55 : ∀ (g : zi_M), K55 g → zi_W E d 209 55 [some (.ref 214), none] [] g (zi_Q Q)) (hK64 : ∀ (k1 : Int) (g : zi_M), K64 k1 g → zi_W E d 209 64 [some (.ref 214), some (zi_i k1)] [] g (zi_Q Q)) : zi_W E d 209 26 [some (.ref 214), some (zi_i l1)] [] g (zi_Q Q) := by
  obtain ⟨f, h⟩ := h
  exact s_M_readGutters_l26_r hd hK41 hK55 hK64 f h
set_option maxRecDepth 100000 in
theorem s_M_readGutters {E : sx_E} {d : Nat} (hd : 7 ≤ d) {g : zi_M} {Q : Int → zi_M → Prop} (h : w_M_readGutters g Q) : zi_S E d 209 [.ref 214] g (zi_Q Q) := by
  refine zi_Sof jf_209 [some (.ref 214), none] rfl (And.intro rfl trivial) ?_
  unfold w_M_readGutters at h
  refine zi_iconst (pc' := 1) rfl rfl ?_
  refine zi_istore_n (pc' := 2) [some _, some _] rfl rfl rfl ?_
  refine zi_wk (s_M_readGutters_l2 hd h (fun g5 h => ?_)) (And.intro rfl (And.intro rfl trivial))
  refine zi_iconst (pc' := 25) rfl rfl ?_
  refine zi_istore_n (pc' := 26) [some _, some _] rfl rfl rfl ?_
  refine zi_wk (s_M_readGutters_l26 hd h (fun g17 h => ?_) (fun g21 h => ?_) (fun k22 g23 h => ?_)) (And.intro rfl (And.intro rfl trivial))
  · refine zi_aload_n (pc' := 42) rfl rfl rfl ?_
    refine zi_iconst (pc' := 43) rfl rfl ?_
    refine zi_callV (d' := 1) (as := [_]) (pc' := 46) rfl rfl rfl rfl (Nat.lt_of_lt_of_le (by decide) hd) (s_M_errs (Nat.le_refl _) h) (zi_ki (fun v18 g19 h => ?_))
    exact zi_iret rfl rfl h
  · refine zi_iconst (pc' := 56) rfl rfl ?_
    exact zi_iret rfl rfl h
  · refine zi_aload_n (pc' := 65) rfl rfl rfl ?_
    refine zi_geti (pc' := 68) 16 rfl rfl rfl rfl rfl rfl ?_
    obtain ⟨o24, h⟩ := h
    refine zi_if_ne (x := 75) (pc' := 71) rfl rfl o24  (fun c28 => ?_) (fun c28 => ?_)
    · replace h := h.1 c28
      refine zi_aload_n (pc' := 76) rfl rfl rfl ?_
      refine zi_iconst (pc' := 77) rfl rfl ?_
      refine zi_callV (d' := 1) (as := [_]) (pc' := 80) rfl rfl rfl rfl (Nat.lt_of_lt_of_le (by decide) hd) (s_M_errs (Nat.le_refl _) h) (zi_ki (fun v25 g26 h => ?_))
      exact zi_iret rfl rfl h
    · replace h := h.2 c28
      refine zi_iload_n (pc' := 72) rfl rfl rfl ?_
      refine zi_goto (x := 80) rfl ?_
      exact zi_iret rfl rfl h
-- SpoutNewsModel.readsText(I)I
noncomputable def w_M_readsText (l1 : Int) (g : zi_M) (Q : Int → zi_M → Prop) : Prop := (∀ g1, g1 = zi_u g 214 26 0 → w_M_reads g1 (fun _ g3 => (zi_r l1 ∧ ((¬ l1 = 1 → ((¬ l1 = 2 → ((¬ l1 = 3 → w_M_readLaw g3 (fun v6 g7 => Q v6 g7)) ∧ (l1 = 3 → w_M_readPlan g3 (fun v9 g10 => Q v9 g10)))) ∧ (l1 = 2 → w_M_readWeather g3 (fun v13 g14 => Q v13 g14)))) ∧ (l1 = 1 → w_M_readGutters g3 (fun v17 g18 => Q v17 g18))))))
set_option maxRecDepth 100000 in
theorem s_M_readsText {E : sx_E} {d : Nat} (hd : 10 ≤ d) {l1 : Int} {g : zi_M} {Q : Int → zi_M → Prop} (h : w_M_readsText l1 g Q) : zi_S E d 202 [.ref 214, zi_i l1] g (zi_Q Q) := by
  refine zi_Sof jf_202 [some (.ref 214), some (zi_i l1)] rfl (And.intro rfl (And.intro rfl trivial)) ?_
  unfold w_M_readsText at h
  refine zi_aload_n (pc' := 1) rfl rfl rfl ?_
  refine zi_iconst (pc' := 2) rfl rfl ?_
  refine zi_puti (pc' := 5) 26 rfl rfl rfl rfl rfl  ?_
  replace h := h _ rfl
  refine zi_aload_n (pc' := 6) rfl rfl rfl ?_
  refine zi_callV (d' := 3) (as := []) (pc' := 9) rfl rfl rfl rfl (Nat.lt_of_lt_of_le (by decide) hd) (s_M_reads (Nat.le_refl _) h) (zi_kv (fun g3 h => ?_))
  refine zi_iload_n (pc' := 10) rfl rfl rfl ?_
  refine zi_iconst (pc' := 11) rfl rfl ?_
  obtain ⟨o5, h⟩ := h
  refine zi_icmp_ne (x := 19) (pc' := 14) rfl rfl o5 (by decide) (fun c20 => ?_) (fun c20 => ?_)
  · replace h := h.1 c20
    refine zi_iload_n (pc' := 20) rfl rfl rfl ?_
    refine zi_iconst (pc' := 21) rfl rfl ?_
    refine zi_icmp_ne (x := 29) (pc' := 24) rfl rfl o5 (by decide) (fun c16 => ?_) (fun c16 => ?_)
    · replace h := h.1 c16
      refine zi_iload_n (pc' := 30) rfl rfl rfl ?_
      refine zi_iconst (pc' := 31) rfl rfl ?_
      refine zi_icmp_ne (x := 41) (pc' := 34) rfl rfl o5 (by decide) (fun c12 => ?_) (fun c12 => ?_)
      · replace h := h.1 c12
        refine zi_aload_n (pc' := 42) rfl rfl rfl ?_
        refine zi_callV (d' := 9) (as := []) (pc' := 45) rfl rfl rfl rfl (Nat.lt_of_lt_of_le (by decide) hd) (s_M_readLaw (Nat.le_refl _) h) (zi_ki (fun v6 g7 h => ?_))
        exact zi_iret rfl rfl h
      · replace h := h.2 c12
        refine zi_aload_n (pc' := 35) rfl rfl rfl ?_
        refine zi_callV (d' := 7) (as := []) (pc' := 38) rfl rfl rfl rfl (Nat.lt_of_lt_of_le (by decide) hd) (s_M_readPlan (Nat.le_refl _) h) (zi_ki (fun v9 g10 h => ?_))
        refine zi_goto (x := 45) rfl ?_
        exact zi_iret rfl rfl h
    · replace h := h.2 c16
      refine zi_aload_n (pc' := 25) rfl rfl rfl ?_
      refine zi_callV (d' := 6) (as := []) (pc' := 28) rfl rfl rfl rfl (Nat.lt_of_lt_of_le (by decide) hd) (s_M_readWeather (Nat.le_refl _) h) (zi_ki (fun v13 g14 h => ?_))
      exact zi_iret rfl rfl h
  · replace h := h.2 c20
    refine zi_aload_n (pc' := 15) rfl rfl rfl ?_
    refine zi_callV (d' := 7) (as := []) (pc' := 18) rfl rfl rfl rfl (Nat.lt_of_lt_of_le (by decide) hd) (s_M_readGutters (Nat.le_refl _) h) (zi_ki (fun v17 g18 h => ?_))
    exact zi_iret rfl rfl h
-- SpoutNewsModel.text(I)I
noncomputable def w_M_text_b69 (l1 : Int) (l2 : Int) (g : zi_M) (Q : Int → zi_M → Prop) : Prop := (∀ g10, g10 = zi_u g 214 13 0 → (zi_r l2 ∧ ((¬ l2 = (-1) → (zi_r l1 ∧ ((¬ l1 = 0 → w_M_takesOther l1 l2 g10 (fun _ g14 => Q l2 g14)) ∧ (l1 = 0 → w_M_takesLaw l2 g10 (fun _ g17 => Q l2 g17))))) ∧ (l2 = (-1) → Q (-1) g10))))
noncomputable def w_M_text (l1 : Int) (g : zi_M) (Q : Int → zi_M → Prop) : Prop := (∀ g1, g1 = zi_u g 214 0 0 → (∀ g2, g2 = zi_u g1 214 33 0 → (∀ g3, g3 = zi_u g2 214 34 (-1) → (∀ g4, g4 = zi_u g3 214 14 0 → (∀ g5, g5 = zi_u g4 214 27 0 → (∀ g6, g6 = zi_u g5 214 28 0 → w_M_isIn l1 0 3 g6 (fun v7 g8 => ((v7 = 0 → w_M_text_b69 l1 (-1) g8 Q) ∧ (¬ v7 = 0 → w_M_readsText l1 g8 (fun v21 g22 => (zi_r v21 ∧ ((¬ v21 = (-1) → w_M_text_b69 l1 v21 g22 Q) ∧ (v21 = (-1) → (∀ g25, g25 = zi_u g22 214 33 (g22 214 31) → (∀ g26, g26 = zi_u g25 214 34 (g25 214 32) → w_M_text_b69 l1 v21 g26 Q)))))))))))))))
set_option maxRecDepth 100000 in
theorem s_M_text_b69 {E : sx_E} {d : Nat} (hd : 11 ≤ d) {l1 : Int} {l2 : Int} {Q : Int → zi_M → Prop} {g : zi_M} (h : w_M_text_b69 l1 l2 g Q) : zi_W E d 201 69 [some (.ref 214), some (zi_i l1), some (zi_i l2)] [] g (zi_Q Q) := by
  unfold w_M_text_b69 at h
  refine zi_aload_n (pc' := 70) rfl rfl rfl ?_
  refine zi_iconst (pc' := 71) rfl rfl ?_
  refine zi_puti (pc' := 74) 13 rfl rfl rfl rfl rfl  ?_
  replace h := h _ rfl
  refine zi_iload_n (pc' := 75) rfl rfl rfl ?_
  refine zi_iconst (pc' := 76) rfl rfl ?_
  obtain ⟨o11, h⟩ := h
  refine zi_icmp_ne (x := 81) (pc' := 79) rfl rfl o11 (by decide) (fun c20 => ?_) (fun c20 => ?_)
  · replace h := h.1 c20
    refine zi_iload_n (pc' := 82) rfl rfl rfl ?_
    obtain ⟨o12, h⟩ := h
    refine zi_if_ne (x := 93) (pc' := 85) rfl rfl o12  (fun c19 => ?_) (fun c19 => ?_)
    · replace h := h.1 c19
      refine zi_aload_n (pc' := 94) rfl rfl rfl ?_
      refine zi_iload_n (pc' := 95) rfl rfl rfl ?_
      refine zi_iload_n (pc' := 96) rfl rfl rfl ?_
      refine zi_callV (d' := 1) (as := [_, _]) (pc' := 99) rfl rfl rfl rfl (Nat.lt_of_lt_of_le (by decide) hd) (s_M_takesOther (Nat.le_refl _) h) (zi_kv (fun g14 h => ?_))
      refine zi_iload_n (pc' := 100) rfl rfl rfl ?_
      exact zi_iret rfl rfl h
    · replace h := h.2 c19
      refine zi_aload_n (pc' := 86) rfl rfl rfl ?_
      refine zi_iload_n (pc' := 87) rfl rfl rfl ?_
      refine zi_callV (d' := 1) (as := [_]) (pc' := 90) rfl rfl rfl rfl (Nat.lt_of_lt_of_le (by decide) hd) (s_M_takesLaw (Nat.le_refl _) h) (zi_kv (fun g17 h => ?_))
      refine zi_goto (x := 99) rfl ?_
      refine zi_iload_n (pc' := 100) rfl rfl rfl ?_
      exact zi_iret rfl rfl h
  · replace h := h.2 c20
    refine zi_iconst (pc' := 80) rfl rfl ?_
    exact zi_iret rfl rfl h
set_option maxRecDepth 100000 in
theorem s_M_text {E : sx_E} {d : Nat} (hd : 11 ≤ d) {l1 : Int} {g : zi_M} {Q : Int → zi_M → Prop} (h : w_M_text l1 g Q) : zi_S E d 201 [.ref 214, zi_i l1] g (zi_Q Q) := by
  refine zi_Sof jf_201 [some (.ref 214), some (zi_i l1), none] rfl (And.intro rfl (And.intro rfl trivial)) ?_
  unfold w_M_text at h
  refine zi_aload_n (pc' := 1) rfl rfl rfl ?_
  refine zi_iconst (pc' := 2) rfl rfl ?_
  refine zi_puti (pc' := 5) 0 rfl rfl rfl rfl rfl  ?_
  replace h := h _ rfl
  refine zi_aload_n (pc' := 6) rfl rfl rfl ?_
  refine zi_iconst (pc' := 7) rfl rfl ?_
  refine zi_puti (pc' := 10) 33 rfl rfl rfl rfl rfl  ?_
  replace h := h _ rfl
  refine zi_aload_n (pc' := 11) rfl rfl rfl ?_
  refine zi_iconst (pc' := 12) rfl rfl ?_
  refine zi_puti (pc' := 15) 34 rfl rfl rfl rfl rfl  ?_
  replace h := h _ rfl
  refine zi_aload_n (pc' := 16) rfl rfl rfl ?_
  refine zi_iconst (pc' := 17) rfl rfl ?_
  refine zi_puti (pc' := 20) 14 rfl rfl rfl rfl rfl  ?_
  replace h := h _ rfl
  refine zi_aload_n (pc' := 21) rfl rfl rfl ?_
  refine zi_iconst (pc' := 22) rfl rfl ?_
  refine zi_puti (pc' := 25) 27 rfl rfl rfl rfl rfl  ?_
  replace h := h _ rfl
  refine zi_aload_n (pc' := 26) rfl rfl rfl ?_
  refine zi_iconst (pc' := 27) rfl rfl ?_
  refine zi_puti (pc' := 30) 28 rfl rfl rfl rfl rfl  ?_
  replace h := h _ rfl
  refine zi_iconst (pc' := 31) rfl rfl ?_
  refine zi_istore_n (pc' := 32) [some _, some _, some _] rfl rfl rfl ?_
  refine zi_aload_n (pc' := 33) rfl rfl rfl ?_
  refine zi_iload_n (pc' := 34) rfl rfl rfl ?_
  refine zi_iconst (pc' := 35) rfl rfl ?_
  refine zi_iconst (pc' := 36) rfl rfl ?_
  refine zi_callV (d' := 1) (as := [_, _, _]) (pc' := 39) rfl rfl rfl rfl (Nat.lt_of_lt_of_le (by decide) hd) (s_M_isIn (Nat.le_refl _) h) (zi_kb (fun v7 g8 b9 h => ?_))
  refine zi_if_eq (x := 69) (pc' := 42) rfl rfl (zi_r_bit b9)  (fun c28 => ?_) (fun c28 => ?_)
  · replace h := h.1 c28
    exact zi_wk (s_M_text_b69 hd h) (And.intro rfl (And.intro rfl (And.intro rfl trivial)))
  · replace h := h.2 c28
    refine zi_aload_n (pc' := 43) rfl rfl rfl ?_
    refine zi_iload_n (pc' := 44) rfl rfl rfl ?_
    refine zi_callV (d' := 10) (as := [_]) (pc' := 47) rfl rfl rfl rfl (Nat.lt_of_lt_of_le (by decide) hd) (s_M_readsText (Nat.le_refl _) h) (zi_ki (fun v21 g22 h => ?_))
    refine zi_istore_n (pc' := 48) [some _, some _, some _] rfl rfl rfl ?_
    refine zi_iload_n (pc' := 49) rfl rfl rfl ?_
    refine zi_iconst (pc' := 50) rfl rfl ?_
    obtain ⟨o24, h⟩ := h
    refine zi_icmp_ne (x := 69) (pc' := 53) rfl rfl o24 (by decide) (fun c27 => ?_) (fun c27 => ?_)
    · replace h := h.1 c27
      exact zi_wk (s_M_text_b69 hd h) (And.intro rfl (And.intro rfl (And.intro rfl trivial)))
    · replace h := h.2 c27
      refine zi_aload_n (pc' := 54) rfl rfl rfl ?_
      refine zi_aload_n (pc' := 55) rfl rfl rfl ?_
      refine zi_geti (pc' := 58) 31 rfl rfl rfl rfl rfl rfl ?_
      refine zi_puti (pc' := 61) 33 rfl rfl rfl rfl rfl  ?_
      replace h := h _ rfl
      refine zi_aload_n (pc' := 62) rfl rfl rfl ?_
      refine zi_aload_n (pc' := 63) rfl rfl rfl ?_
      refine zi_geti (pc' := 66) 32 rfl rfl rfl rfl rfl rfl ?_
      refine zi_puti (pc' := 69) 34 rfl rfl rfl rfl rfl  ?_
      replace h := h _ rfl
      exact zi_wk (s_M_text_b69 hd h) (And.intro rfl (And.intro rfl (And.intro rfl trivial)))
-- SpoutNews.fault(I)I
noncomputable def w_S_fault (l1 : Int) (g : zi_M) (Q : Int → zi_M → Prop) : Prop := (zi_r l1 ∧ ((l1 ≠ 0 → l1 ≠ 1 → Q (-1) g) ∧ (l1 = 0 → Q (g 191 5) g) ∧ (l1 = 1 → Q (g 191 6) g)))
set_option maxRecDepth 100000 in
theorem s_S_fault {E : sx_E} {d : Nat} (hd : 1 ≤ d) {l1 : Int} {g : zi_M} {Q : Int → zi_M → Prop} (h : w_S_fault l1 g Q) : zi_S E d 114 [.ref 0, zi_i l1] g (zi_Q Q) := by
  refine zi_Sof jf_114 [some (.ref 0), some (zi_i l1)] rfl (And.intro rfl (And.intro rfl trivial)) ?_
  unfold w_S_fault at h
  refine zi_iload_n (pc' := 1) rfl rfl rfl ?_
  obtain ⟨o1, h⟩ := h
  refine zi_lsw [(0, 28), (1, 36)] 44 rfl rfl o1 (fun c2 => ?_) (And.intro (fun c2 => ?_) (And.intro (fun c2 => ?_) trivial))
  · replace h := h.1 (c2 _ (List.mem_cons_self)) (c2 _ (List.mem_cons_of_mem _ (List.mem_cons_self)))
    refine zi_iconst (pc' := 45) rfl rfl ?_
    exact zi_iret rfl rfl h
  · replace h := h.2.1 c2
    refine zi_aload_n (pc' := 29) rfl rfl rfl ?_
    refine zi_getr (pc' := 32) rfl rfl rfl rfl rfl ?_
    refine zi_geti (pc' := 35) 5 rfl rfl rfl rfl rfl rfl ?_
    exact zi_iret rfl rfl h
  · replace h := h.2.2 c2
    refine zi_aload_n (pc' := 37) rfl rfl rfl ?_
    refine zi_getr (pc' := 40) rfl rfl rfl rfl rfl ?_
    refine zi_geti (pc' := 43) 6 rfl rfl rfl rfl rfl rfl ?_
    exact zi_iret rfl rfl h
-- SpoutNewsModel.fault(I)I
noncomputable def w_M_fault (l1 : Int) (g : zi_M) (Q : Int → zi_M → Prop) : Prop := (∀ g1, g1 = zi_u g 214 0 0 → (zi_r l1 ∧ ((¬ l1 = 0 → ((¬ l1 = 1 → Q (-1) g1) ∧ (l1 = 1 → Q (g1 214 34) g1))) ∧ (l1 = 0 → Q (g1 214 33) g1))))
set_option maxRecDepth 100000 in
theorem s_M_fault {E : sx_E} {d : Nat} (hd : 1 ≤ d) {l1 : Int} {g : zi_M} {Q : Int → zi_M → Prop} (h : w_M_fault l1 g Q) : zi_S E d 235 [.ref 214, zi_i l1] g (zi_Q Q) := by
  refine zi_Sof jf_235 [some (.ref 214), some (zi_i l1)] rfl (And.intro rfl (And.intro rfl trivial)) ?_
  unfold w_M_fault at h
  refine zi_aload_n (pc' := 1) rfl rfl rfl ?_
  refine zi_iconst (pc' := 2) rfl rfl ?_
  refine zi_puti (pc' := 5) 0 rfl rfl rfl rfl rfl  ?_
  replace h := h _ rfl
  refine zi_iload_n (pc' := 6) rfl rfl rfl ?_
  obtain ⟨o2, h⟩ := h
  refine zi_if_ne (x := 16) (pc' := 9) rfl rfl o2  (fun c4 => ?_) (fun c4 => ?_)
  · replace h := h.1 c4
    refine zi_iload_n (pc' := 17) rfl rfl rfl ?_
    refine zi_iconst (pc' := 18) rfl rfl ?_
    refine zi_icmp_ne (x := 28) (pc' := 21) rfl rfl o2 (by decide) (fun c3 => ?_) (fun c3 => ?_)
    · replace h := h.1 c3
      refine zi_iconst (pc' := 29) rfl rfl ?_
      exact zi_iret rfl rfl h
    · replace h := h.2 c3
      refine zi_aload_n (pc' := 22) rfl rfl rfl ?_
      refine zi_geti (pc' := 25) 34 rfl rfl rfl rfl rfl rfl ?_
      refine zi_goto (x := 29) rfl ?_
      exact zi_iret rfl rfl h
  · replace h := h.2 c4
    refine zi_aload_n (pc' := 10) rfl rfl rfl ?_
    refine zi_geti (pc' := 13) 33 rfl rfl rfl rfl rfl rfl ?_
    refine zi_goto (x := 29) rfl ?_
    exact zi_iret rfl rfl h
-- SpoutNews.of(II)I
noncomputable def w_S_of_b92 (l1 : Int) (l2 : Int) (g : zi_M) (Q : Int → zi_M → Prop) : Prop := (zi_r l2 ∧ ((l2 < 0 ∨ 8 < l2 → Q (-2) g) ∧ (l2 = 0 → ((0 ≤ l1 ∧ l1 < 10) ∧ Q (g 3 l1) g)) ∧ (l2 = 1 → ((0 ≤ l1 ∧ l1 < 10) ∧ Q (g 4 l1) g)) ∧ (l2 = 2 → ((0 ≤ l1 ∧ l1 < 10) ∧ Q (g 5 l1) g)) ∧ (l2 = 3 → ((0 ≤ l1 ∧ l1 < 10) ∧ Q (g 6 l1) g)) ∧ (l2 = 4 → ((0 ≤ l1 ∧ l1 < 10) ∧ Q (g 8 l1) g)) ∧ (l2 = 5 → ((0 ≤ l1 ∧ l1 < 10) ∧ Q (g 7 l1) g)) ∧ (l2 = 6 → w_Texts_gutterOf l1 g (fun v14 g15 => Q v14 g15)) ∧ (l2 = 7 → w_Law_tells 2 0 l1 0 g (fun v17 g18 => Q v17 g18)) ∧ (l2 = 8 → w_Law_tells 2 1 l1 0 g (fun v20 g21 => Q v20 g21))))
noncomputable def w_S_of_b59 (l1 : Int) (l2 : Int) (g : zi_M) (Q : Int → zi_M → Prop) : Prop := (zi_r l2 ∧ ((l2 < 40 → w_S_of_b92 l1 l2 g Q) ∧ (40 ≤ l2 → ((56 ≤ l2 → w_S_of_b92 l1 l2 g Q) ∧ (l2 < 56 → w_Law_tells 2 2 l1 (l2 - 40) g (fun v23 g24 => Q v23 g24))))))
noncomputable def w_S_of (l1 : Int) (l2 : Int) (g : zi_M) (Q : Int → zi_M → Prop) : Prop := w_World_isSpout 2 l1 g (fun v1 g2 => ((¬ v1 = 0 → (zi_r l2 ∧ ((l2 < 20 → w_S_of_b59 l1 l2 g2 Q) ∧ (20 ≤ l2 → ((40 ≤ l2 → w_S_of_b59 l1 l2 g2 Q) ∧ (l2 < 40 → ((0 ≤ l1 ∧ l1 < 10) ∧ (zi_r (l2 - 20) ∧ zi_r (g2 8 l1) ∧ (((g2 8 l1) ≤ (l2 - 20) → Q (-2) g2) ∧ ((l2 - 20) < (g2 8 l1) → w_World_wordAt 2 l1 (l2 - 20) g2 (fun v31 g32 => Q v31 g32))))))))))) ∧ (v1 = 0 → Q (-2) g2)))
set_option maxRecDepth 100000 in
theorem s_S_of_b92 {E : sx_E} {d : Nat} (hd : 4 ≤ d) {l1 : Int} {l2 : Int} {Q : Int → zi_M → Prop} {g : zi_M} (h : w_S_of_b92 l1 l2 g Q) : zi_W E d 115 92 [some (.ref 0), some (zi_i l1), some (zi_i l2), some (.ref 2)] [] g (zi_Q Q) := by
  unfold w_S_of_b92 at h
  refine zi_iload_n (pc' := 93) rfl rfl rfl ?_
  obtain ⟨o6, h⟩ := h
  refine zi_tsw [(0, 144), (1, 151), (2, 158), (3, 165), (4, 172), (5, 179), (6, 186), (7, 198), (8, 216)] 234 rfl rfl o6 (fun c7 => ?_) (And.intro (fun c7 => ?_) (And.intro (fun c7 => ?_) (And.intro (fun c7 => ?_) (And.intro (fun c7 => ?_) (And.intro (fun c7 => ?_) (And.intro (fun c7 => ?_) (And.intro (fun c7 => ?_) (And.intro (fun c7 => ?_) (And.intro (fun c7 => ?_) trivial)))))))))
  · replace h := h.1 c7
    refine zi_bipush (pc' := 236) rfl rfl (by decide) ?_
    exact zi_iret rfl rfl h
  · replace h := h.2.1 c7
    refine zi_aload_n (pc' := 145) rfl rfl rfl ?_
    refine zi_getr (pc' := 148) rfl rfl rfl rfl rfl ?_
    refine zi_iload_n (pc' := 149) rfl rfl rfl ?_
    obtain ⟨o8, h⟩ := h
    refine zi_iald (pc' := 150) rfl rfl rfl o8 ?_
    exact zi_iret rfl rfl h
  · replace h := h.2.2.1 c7
    refine zi_aload_n (pc' := 152) rfl rfl rfl ?_
    refine zi_getr (pc' := 155) rfl rfl rfl rfl rfl ?_
    refine zi_iload_n (pc' := 156) rfl rfl rfl ?_
    obtain ⟨o9, h⟩ := h
    refine zi_iald (pc' := 157) rfl rfl rfl o9 ?_
    exact zi_iret rfl rfl h
  · replace h := h.2.2.2.1 c7
    refine zi_aload_n (pc' := 159) rfl rfl rfl ?_
    refine zi_getr (pc' := 162) rfl rfl rfl rfl rfl ?_
    refine zi_iload_n (pc' := 163) rfl rfl rfl ?_
    obtain ⟨o10, h⟩ := h
    refine zi_iald (pc' := 164) rfl rfl rfl o10 ?_
    exact zi_iret rfl rfl h
  · replace h := h.2.2.2.2.1 c7
    refine zi_aload_n (pc' := 166) rfl rfl rfl ?_
    refine zi_getr (pc' := 169) rfl rfl rfl rfl rfl ?_
    refine zi_iload_n (pc' := 170) rfl rfl rfl ?_
    obtain ⟨o11, h⟩ := h
    refine zi_iald (pc' := 171) rfl rfl rfl o11 ?_
    exact zi_iret rfl rfl h
  · replace h := h.2.2.2.2.2.1 c7
    refine zi_aload_n (pc' := 173) rfl rfl rfl ?_
    refine zi_getr (pc' := 176) rfl rfl rfl rfl rfl ?_
    refine zi_iload_n (pc' := 177) rfl rfl rfl ?_
    obtain ⟨o12, h⟩ := h
    refine zi_iald (pc' := 178) rfl rfl rfl o12 ?_
    exact zi_iret rfl rfl h
  · replace h := h.2.2.2.2.2.2.1 c7
    refine zi_aload_n (pc' := 180) rfl rfl rfl ?_
    refine zi_getr (pc' := 183) rfl rfl rfl rfl rfl ?_
    refine zi_iload_n (pc' := 184) rfl rfl rfl ?_
    obtain ⟨o13, h⟩ := h
    refine zi_iald (pc' := 185) rfl rfl rfl o13 ?_
    exact zi_iret rfl rfl h
  · replace h := h.2.2.2.2.2.2.2.1 c7
    refine zi_aload_n (pc' := 187) rfl rfl rfl ?_
    refine zi_getr (pc' := 190) rfl rfl rfl rfl rfl ?_
    refine zi_getr (pc' := 193) rfl rfl rfl rfl rfl ?_
    refine zi_iload_n (pc' := 194) rfl rfl rfl ?_
    refine zi_callV (d' := 1) (as := [_]) (pc' := 197) rfl rfl rfl rfl (Nat.lt_of_lt_of_le (by decide) hd) (s_Texts_gutterOf (Nat.le_refl _) h) (zi_ki (fun v14 g15 h => ?_))
    exact zi_iret rfl rfl h
  · replace h := h.2.2.2.2.2.2.2.2.1 c7
    refine zi_aload_n (pc' := 199) rfl rfl rfl ?_
    refine zi_getr (pc' := 202) rfl rfl rfl rfl rfl ?_
    refine zi_getr (pc' := 205) rfl rfl rfl rfl rfl ?_
    refine zi_getr (pc' := 208) rfl rfl rfl rfl rfl ?_
    refine zi_iconst (pc' := 209) rfl rfl ?_
    refine zi_aload_n (pc' := 210) rfl rfl rfl ?_
    refine zi_iload_n (pc' := 211) rfl rfl rfl ?_
    refine zi_iconst (pc' := 212) rfl rfl ?_
    refine zi_callV (d' := 3) (as := [_, _, _, _]) (pc' := 215) rfl rfl rfl rfl (Nat.lt_of_lt_of_le (by decide) hd) (s_Law_tells (Nat.le_refl _) rfl h) (zi_ki (fun v17 g18 h => ?_))
    exact zi_iret rfl rfl h
  · replace h := h.2.2.2.2.2.2.2.2.2 c7
    refine zi_aload_n (pc' := 217) rfl rfl rfl ?_
    refine zi_getr (pc' := 220) rfl rfl rfl rfl rfl ?_
    refine zi_getr (pc' := 223) rfl rfl rfl rfl rfl ?_
    refine zi_getr (pc' := 226) rfl rfl rfl rfl rfl ?_
    refine zi_iconst (pc' := 227) rfl rfl ?_
    refine zi_aload_n (pc' := 228) rfl rfl rfl ?_
    refine zi_iload_n (pc' := 229) rfl rfl rfl ?_
    refine zi_iconst (pc' := 230) rfl rfl ?_
    refine zi_callV (d' := 3) (as := [_, _, _, _]) (pc' := 233) rfl rfl rfl rfl (Nat.lt_of_lt_of_le (by decide) hd) (s_Law_tells (Nat.le_refl _) rfl h) (zi_ki (fun v20 g21 h => ?_))
    exact zi_iret rfl rfl h
set_option maxRecDepth 100000 in
theorem s_S_of_b59 {E : sx_E} {d : Nat} (hd : 4 ≤ d) {l1 : Int} {l2 : Int} {Q : Int → zi_M → Prop} {g : zi_M} (h : w_S_of_b59 l1 l2 g Q) : zi_W E d 115 59 [some (.ref 0), some (zi_i l1), some (zi_i l2), some (.ref 2)] [] g (zi_Q Q) := by
  unfold w_S_of_b59 at h
  refine zi_iload_n (pc' := 60) rfl rfl rfl ?_
  refine zi_bipush (pc' := 62) rfl rfl (by decide) ?_
  obtain ⟨o5, h⟩ := h
  refine zi_icmp_lt (x := 92) (pc' := 65) rfl rfl o5 (by decide) (fun c27 => ?_) (fun c27 => ?_)
  · replace h := h.1 c27
    exact zi_wk (s_S_of_b92 hd h) (And.intro rfl (And.intro rfl (And.intro rfl (And.intro rfl trivial))))
  · replace h := h.2 c27
    refine zi_iload_n (pc' := 66) rfl rfl rfl ?_
    refine zi_bipush (pc' := 68) rfl rfl (by decide) ?_
    refine zi_icmp_ge (x := 92) (pc' := 71) rfl rfl o5 (by decide) (fun c26 => ?_) (fun c26 => ?_)
    · replace h := h.1 c26
      exact zi_wk (s_S_of_b92 hd h) (And.intro rfl (And.intro rfl (And.intro rfl (And.intro rfl trivial))))
    · replace h := h.2 c26
      refine zi_aload_n (pc' := 72) rfl rfl rfl ?_
      refine zi_getr (pc' := 75) rfl rfl rfl rfl rfl ?_
      refine zi_getr (pc' := 78) rfl rfl rfl rfl rfl ?_
      refine zi_getr (pc' := 81) rfl rfl rfl rfl rfl ?_
      refine zi_iconst (pc' := 82) rfl rfl ?_
      refine zi_aload_n (pc' := 83) rfl rfl rfl ?_
      refine zi_iload_n (pc' := 84) rfl rfl rfl ?_
      refine zi_iload_n (pc' := 85) rfl rfl rfl ?_
      refine zi_bipush (pc' := 87) rfl rfl (by decide) ?_
      refine zi_isub (pc' := 88) rfl rfl ?_
      refine zi_callV (d' := 3) (as := [_, _, _, _]) (pc' := 91) rfl rfl rfl rfl (Nat.lt_of_lt_of_le (by decide) hd) (s_Law_tells (Nat.le_refl _) rfl h) (zi_ki (fun v23 g24 h => ?_))
      exact zi_iret rfl rfl h
set_option maxRecDepth 100000 in
theorem s_S_of {E : sx_E} {d : Nat} (hd : 4 ≤ d) {l1 : Int} {l2 : Int} {g : zi_M} {Q : Int → zi_M → Prop} (h : w_S_of l1 l2 g Q) : zi_S E d 115 [.ref 0, zi_i l1, zi_i l2] g (zi_Q Q) := by
  refine zi_Sof jf_115 [some (.ref 0), some (zi_i l1), some (zi_i l2), none] rfl (And.intro rfl (And.intro rfl (And.intro rfl trivial))) ?_
  unfold w_S_of at h
  refine zi_aload_n (pc' := 1) rfl rfl rfl ?_
  refine zi_getr (pc' := 4) rfl rfl rfl rfl rfl ?_
  refine zi_getr (pc' := 7) rfl rfl rfl rfl rfl ?_
  refine zi_astore_n (pc' := 8) [some _, some _, some _, some _] rfl rfl rfl ?_
  refine zi_aload_n (pc' := 9) rfl rfl rfl ?_
  refine zi_iload_n (pc' := 10) rfl rfl rfl ?_
  refine zi_callV (d' := 1) (as := [_]) (pc' := 13) rfl rfl rfl rfl (Nat.lt_of_lt_of_le (by decide) hd) (s_World_isSpout (Nat.le_refl _) rfl h) (zi_kb (fun v1 g2 b3 h => ?_))
  refine zi_if_ne (x := 19) (pc' := 16) rfl rfl (zi_r_bit b3)  (fun c37 => ?_) (fun c37 => ?_)
  · replace h := h.1 c37
    refine zi_iload_n (pc' := 20) rfl rfl rfl ?_
    refine zi_bipush (pc' := 22) rfl rfl (by decide) ?_
    obtain ⟨o4, h⟩ := h
    refine zi_icmp_lt (x := 59) (pc' := 25) rfl rfl o4 (by decide) (fun c36 => ?_) (fun c36 => ?_)
    · replace h := h.1 c36
      exact zi_wk (s_S_of_b59 hd h) (And.intro rfl (And.intro rfl (And.intro rfl (And.intro rfl trivial))))
    · replace h := h.2 c36
      refine zi_iload_n (pc' := 26) rfl rfl rfl ?_
      refine zi_bipush (pc' := 28) rfl rfl (by decide) ?_
      refine zi_icmp_ge (x := 59) (pc' := 31) rfl rfl o4 (by decide) (fun c35 => ?_) (fun c35 => ?_)
      · replace h := h.1 c35
        exact zi_wk (s_S_of_b59 hd h) (And.intro rfl (And.intro rfl (And.intro rfl (And.intro rfl trivial))))
      · replace h := h.2 c35
        refine zi_iload_n (pc' := 32) rfl rfl rfl ?_
        refine zi_bipush (pc' := 34) rfl rfl (by decide) ?_
        refine zi_isub (pc' := 35) rfl rfl ?_
        refine zi_aload_n (pc' := 36) rfl rfl rfl ?_
        refine zi_getr (pc' := 39) rfl rfl rfl rfl rfl ?_
        refine zi_iload_n (pc' := 40) rfl rfl rfl ?_
        obtain ⟨o28, h⟩ := h
        refine zi_iald (pc' := 41) rfl rfl rfl o28 ?_
        obtain ⟨o29, o30, h⟩ := h
        refine zi_icmp_ge (x := 56) (pc' := 44) rfl rfl o29 o30 (fun c34 => ?_) (fun c34 => ?_)
        · replace h := h.1 c34
          refine zi_bipush (pc' := 58) rfl rfl (by decide) ?_
          exact zi_iret rfl rfl h
        · replace h := h.2 c34
          refine zi_aload_n (pc' := 45) rfl rfl rfl ?_
          refine zi_iload_n (pc' := 46) rfl rfl rfl ?_
          refine zi_iload_n (pc' := 47) rfl rfl rfl ?_
          refine zi_bipush (pc' := 49) rfl rfl (by decide) ?_
          refine zi_isub (pc' := 50) rfl rfl ?_
          refine zi_callV (d' := 2) (as := [_, _]) (pc' := 53) rfl rfl rfl rfl (Nat.lt_of_lt_of_le (by decide) hd) (s_World_wordAt (Nat.le_refl _) rfl h) (zi_ki (fun v31 g32 h => ?_))
          refine zi_goto (x := 58) rfl ?_
          exact zi_iret rfl rfl h
  · replace h := h.2 c37
    refine zi_bipush (pc' := 18) rfl rfl (by decide) ?_
    exact zi_iret rfl rfl h
-- SpoutNewsModel.of(II)I
noncomputable def w_M_of (l1 : Int) (l2 : Int) (g : zi_M) (Q : Int → zi_M → Prop) : Prop := (∀ g1, g1 = zi_u g 214 0 0 → w_M_isSpout l1 g1 (fun v2 g3 => ((¬ v2 = 0 → ((0 ≤ (26 + l1) ∧ (26 + l1) < 264) ∧ w_M_isIn l2 20 (19 + (g3 215 (26 + l1))) g3 (fun v6 g7 => ((v6 = 0 → w_M_isIn l2 40 55 g7 (fun v9 g10 => ((v9 = 0 → (zi_r l2 ∧ ((¬ l2 = 0 → ((¬ l2 = 1 → ((¬ l2 = 2 → ((¬ l2 = 3 → ((¬ l2 = 4 → ((¬ l2 = 5 → ((¬ l2 = 6 → ((¬ l2 = 7 → ((¬ l2 = 8 → Q (-2) g10) ∧ (l2 = 8 → w_M_jetOf l1 g10 (fun v13 g14 => Q v13 g14)))) ∧ (l2 = 7 → w_M_hearsOf l1 g10 (fun v17 g18 => Q v17 g18)))) ∧ (l2 = 6 → w_M_into l1 g10 (fun v21 g22 => Q v21 g22)))) ∧ (l2 = 5 → ((0 ≤ (16 + l1) ∧ (16 + l1) < 264) ∧ Q (g10 215 (16 + l1)) g10)))) ∧ (l2 = 4 → Q (g10 215 (26 + l1)) g10))) ∧ (l2 = 3 → ((0 ≤ (6 + l1) ∧ (6 + l1) < 264) ∧ Q (g10 215 (6 + l1)) g10)))) ∧ (l2 = 2 → ((0 ≤ l1 ∧ l1 < 10) ∧ Q (g10 220 l1) g10)))) ∧ (l2 = 1 → ((0 ≤ l1 ∧ l1 < 10) ∧ Q (g10 219 l1) g10)))) ∧ (l2 = 0 → ((0 ≤ l1 ∧ l1 < 10) ∧ Q (g10 218 l1) g10))))) ∧ (¬ v9 = 0 → w_M_slipOf l1 (l2 - 40) g10 (fun v36 g37 => Q v36 g37))))) ∧ (¬ v6 = 0 → w_M_heardAt l1 (l2 - 20) g7 (fun v40 g41 => Q v40 g41)))))) ∧ (v2 = 0 → Q (-2) g3))))
set_option maxRecDepth 100000 in
theorem s_M_of {E : sx_E} {d : Nat} (hd : 6 ≤ d) {l1 : Int} {l2 : Int} {g : zi_M} {Q : Int → zi_M → Prop} (h : w_M_of l1 l2 g Q) : zi_S E d 266 [.ref 214, zi_i l1, zi_i l2] g (zi_Q Q) := by
  refine zi_Sof jf_266 [some (.ref 214), some (zi_i l1), some (zi_i l2)] rfl (And.intro rfl (And.intro rfl (And.intro rfl trivial))) ?_
  unfold w_M_of at h
  refine zi_aload_n (pc' := 1) rfl rfl rfl ?_
  refine zi_iconst (pc' := 2) rfl rfl ?_
  refine zi_puti (pc' := 5) 0 rfl rfl rfl rfl rfl  ?_
  replace h := h _ rfl
  refine zi_aload_n (pc' := 6) rfl rfl rfl ?_
  refine zi_iload_n (pc' := 7) rfl rfl rfl ?_
  refine zi_callV (d' := 1) (as := [_]) (pc' := 10) rfl rfl rfl rfl (Nat.lt_of_lt_of_le (by decide) hd) (s_M_isSpout (Nat.le_refl _) h) (zi_kb (fun v2 g3 b4 h => ?_))
  refine zi_if_ne (x := 16) (pc' := 13) rfl rfl (zi_r_bit b4)  (fun c44 => ?_) (fun c44 => ?_)
  · replace h := h.1 c44
    refine zi_aload_n (pc' := 17) rfl rfl rfl ?_
    refine zi_iload_n (pc' := 18) rfl rfl rfl ?_
    refine zi_bipush (pc' := 20) rfl rfl (by decide) ?_
    refine zi_bipush (pc' := 22) rfl rfl (by decide) ?_
    refine zi_aload_n (pc' := 23) rfl rfl rfl ?_
    refine zi_getr (pc' := 26) rfl rfl rfl rfl rfl ?_
    refine zi_bipush (pc' := 28) rfl rfl (by decide) ?_
    refine zi_iload_n (pc' := 29) rfl rfl rfl ?_
    refine zi_iadd (pc' := 30) rfl rfl ?_
    obtain ⟨o5, h⟩ := h
    refine zi_iald (pc' := 31) rfl rfl rfl o5 ?_
    refine zi_iadd (pc' := 32) rfl rfl ?_
    refine zi_callV (d' := 1) (as := [_, _, _]) (pc' := 35) rfl rfl rfl rfl (Nat.lt_of_lt_of_le (by decide) hd) (s_M_isIn (Nat.le_refl _) h) (zi_kb (fun v6 g7 b8 h => ?_))
    refine zi_if_eq (x := 48) (pc' := 38) rfl rfl (zi_r_bit b8)  (fun c43 => ?_) (fun c43 => ?_)
    · replace h := h.1 c43
      refine zi_aload_n (pc' := 49) rfl rfl rfl ?_
      refine zi_iload_n (pc' := 50) rfl rfl rfl ?_
      refine zi_bipush (pc' := 52) rfl rfl (by decide) ?_
      refine zi_bipush (pc' := 54) rfl rfl (by decide) ?_
      refine zi_callV (d' := 1) (as := [_, _, _]) (pc' := 57) rfl rfl rfl rfl (Nat.lt_of_lt_of_le (by decide) hd) (s_M_isIn (Nat.le_refl _) h) (zi_kb (fun v9 g10 b11 h => ?_))
      refine zi_if_eq (x := 70) (pc' := 60) rfl rfl (zi_r_bit b11)  (fun c39 => ?_) (fun c39 => ?_)
      · replace h := h.1 c39
        refine zi_iload_n (pc' := 71) rfl rfl rfl ?_
        obtain ⟨o12, h⟩ := h
        refine zi_if_ne (x := 81) (pc' := 74) rfl rfl o12  (fun c35 => ?_) (fun c35 => ?_)
        · replace h := h.1 c35
          refine zi_iload_n (pc' := 82) rfl rfl rfl ?_
          refine zi_iconst (pc' := 83) rfl rfl ?_
          refine zi_icmp_ne (x := 93) (pc' := 86) rfl rfl o12 (by decide) (fun c33 => ?_) (fun c33 => ?_)
          · replace h := h.1 c33
            refine zi_iload_n (pc' := 94) rfl rfl rfl ?_
            refine zi_iconst (pc' := 95) rfl rfl ?_
            refine zi_icmp_ne (x := 105) (pc' := 98) rfl rfl o12 (by decide) (fun c31 => ?_) (fun c31 => ?_)
            · replace h := h.1 c31
              refine zi_iload_n (pc' := 106) rfl rfl rfl ?_
              refine zi_iconst (pc' := 107) rfl rfl ?_
              refine zi_icmp_ne (x := 120) (pc' := 110) rfl rfl o12 (by decide) (fun c29 => ?_) (fun c29 => ?_)
              · replace h := h.1 c29
                refine zi_iload_n (pc' := 121) rfl rfl rfl ?_
                refine zi_iconst (pc' := 122) rfl rfl ?_
                refine zi_icmp_ne (x := 135) (pc' := 125) rfl rfl o12 (by decide) (fun c27 => ?_) (fun c27 => ?_)
                · replace h := h.1 c27
                  refine zi_iload_n (pc' := 136) rfl rfl rfl ?_
                  refine zi_iconst (pc' := 137) rfl rfl ?_
                  refine zi_icmp_ne (x := 150) (pc' := 140) rfl rfl o12 (by decide) (fun c26 => ?_) (fun c26 => ?_)
                  · replace h := h.1 c26
                    refine zi_iload_n (pc' := 151) rfl rfl rfl ?_
                    refine zi_bipush (pc' := 153) rfl rfl (by decide) ?_
                    refine zi_icmp_ne (x := 162) (pc' := 156) rfl rfl o12 (by decide) (fun c24 => ?_) (fun c24 => ?_)
                    · replace h := h.1 c24
                      refine zi_iload_n (pc' := 163) rfl rfl rfl ?_
                      refine zi_bipush (pc' := 165) rfl rfl (by decide) ?_
                      refine zi_icmp_ne (x := 176) (pc' := 168) rfl rfl o12 (by decide) (fun c20 => ?_) (fun c20 => ?_)
                      · replace h := h.1 c20
                        refine zi_iload_n (pc' := 177) rfl rfl rfl ?_
                        refine zi_bipush (pc' := 179) rfl rfl (by decide) ?_
                        refine zi_icmp_ne (x := 190) (pc' := 182) rfl rfl o12 (by decide) (fun c16 => ?_) (fun c16 => ?_)
                        · replace h := h.1 c16
                          refine zi_bipush (pc' := 192) rfl rfl (by decide) ?_
                          exact zi_iret rfl rfl h
                        · replace h := h.2 c16
                          refine zi_aload_n (pc' := 183) rfl rfl rfl ?_
                          refine zi_iload_n (pc' := 184) rfl rfl rfl ?_
                          refine zi_callV (d' := 5) (as := [_]) (pc' := 187) rfl rfl rfl rfl (Nat.lt_of_lt_of_le (by decide) hd) (s_M_jetOf (Nat.le_refl _) h) (zi_ki (fun v13 g14 h => ?_))
                          refine zi_goto (x := 192) rfl ?_
                          exact zi_iret rfl rfl h
                      · replace h := h.2 c20
                        refine zi_aload_n (pc' := 169) rfl rfl rfl ?_
                        refine zi_iload_n (pc' := 170) rfl rfl rfl ?_
                        refine zi_callV (d' := 5) (as := [_]) (pc' := 173) rfl rfl rfl rfl (Nat.lt_of_lt_of_le (by decide) hd) (s_M_hearsOf (Nat.le_refl _) h) (zi_ki (fun v17 g18 h => ?_))
                        refine zi_goto (x := 192) rfl ?_
                        exact zi_iret rfl rfl h
                    · replace h := h.2 c24
                      refine zi_aload_n (pc' := 157) rfl rfl rfl ?_
                      refine zi_iload_n (pc' := 158) rfl rfl rfl ?_
                      refine zi_callV (d' := 1) (as := [_]) (pc' := 161) rfl rfl rfl rfl (Nat.lt_of_lt_of_le (by decide) hd) (s_M_into (Nat.le_refl _) h) (zi_ki (fun v21 g22 h => ?_))
                      exact zi_iret rfl rfl h
                  · replace h := h.2 c26
                    refine zi_aload_n (pc' := 141) rfl rfl rfl ?_
                    refine zi_getr (pc' := 144) rfl rfl rfl rfl rfl ?_
                    refine zi_bipush (pc' := 146) rfl rfl (by decide) ?_
                    refine zi_iload_n (pc' := 147) rfl rfl rfl ?_
                    refine zi_iadd (pc' := 148) rfl rfl ?_
                    obtain ⟨o25, h⟩ := h
                    refine zi_iald (pc' := 149) rfl rfl rfl o25 ?_
                    exact zi_iret rfl rfl h
                · replace h := h.2 c27
                  refine zi_aload_n (pc' := 126) rfl rfl rfl ?_
                  refine zi_getr (pc' := 129) rfl rfl rfl rfl rfl ?_
                  refine zi_bipush (pc' := 131) rfl rfl (by decide) ?_
                  refine zi_iload_n (pc' := 132) rfl rfl rfl ?_
                  refine zi_iadd (pc' := 133) rfl rfl ?_
                  refine zi_iald (pc' := 134) rfl rfl rfl o5 ?_
                  exact zi_iret rfl rfl h
              · replace h := h.2 c29
                refine zi_aload_n (pc' := 111) rfl rfl rfl ?_
                refine zi_getr (pc' := 114) rfl rfl rfl rfl rfl ?_
                refine zi_bipush (pc' := 116) rfl rfl (by decide) ?_
                refine zi_iload_n (pc' := 117) rfl rfl rfl ?_
                refine zi_iadd (pc' := 118) rfl rfl ?_
                obtain ⟨o28, h⟩ := h
                refine zi_iald (pc' := 119) rfl rfl rfl o28 ?_
                exact zi_iret rfl rfl h
            · replace h := h.2 c31
              refine zi_aload_n (pc' := 99) rfl rfl rfl ?_
              refine zi_getr (pc' := 102) rfl rfl rfl rfl rfl ?_
              refine zi_iload_n (pc' := 103) rfl rfl rfl ?_
              obtain ⟨o30, h⟩ := h
              refine zi_iald (pc' := 104) rfl rfl rfl o30 ?_
              exact zi_iret rfl rfl h
          · replace h := h.2 c33
            refine zi_aload_n (pc' := 87) rfl rfl rfl ?_
            refine zi_getr (pc' := 90) rfl rfl rfl rfl rfl ?_
            refine zi_iload_n (pc' := 91) rfl rfl rfl ?_
            obtain ⟨o32, h⟩ := h
            refine zi_iald (pc' := 92) rfl rfl rfl o32 ?_
            exact zi_iret rfl rfl h
        · replace h := h.2 c35
          refine zi_aload_n (pc' := 75) rfl rfl rfl ?_
          refine zi_getr (pc' := 78) rfl rfl rfl rfl rfl ?_
          refine zi_iload_n (pc' := 79) rfl rfl rfl ?_
          obtain ⟨o34, h⟩ := h
          refine zi_iald (pc' := 80) rfl rfl rfl o34 ?_
          exact zi_iret rfl rfl h
      · replace h := h.2 c39
        refine zi_aload_n (pc' := 61) rfl rfl rfl ?_
        refine zi_iload_n (pc' := 62) rfl rfl rfl ?_
        refine zi_iload_n (pc' := 63) rfl rfl rfl ?_
        refine zi_bipush (pc' := 65) rfl rfl (by decide) ?_
        refine zi_isub (pc' := 66) rfl rfl ?_
        refine zi_callV (d' := 5) (as := [_, _]) (pc' := 69) rfl rfl rfl rfl (Nat.lt_of_lt_of_le (by decide) hd) (s_M_slipOf (Nat.le_refl _) h) (zi_ki (fun v36 g37 h => ?_))
        exact zi_iret rfl rfl h
    · replace h := h.2 c43
      refine zi_aload_n (pc' := 39) rfl rfl rfl ?_
      refine zi_iload_n (pc' := 40) rfl rfl rfl ?_
      refine zi_iload_n (pc' := 41) rfl rfl rfl ?_
      refine zi_bipush (pc' := 43) rfl rfl (by decide) ?_
      refine zi_isub (pc' := 44) rfl rfl ?_
      refine zi_callV (d' := 1) (as := [_, _]) (pc' := 47) rfl rfl rfl rfl (Nat.lt_of_lt_of_le (by decide) hd) (s_M_heardAt (Nat.le_refl _) h) (zi_ki (fun v40 g41 h => ?_))
      exact zi_iret rfl rfl h
  · replace h := h.2 c44
    refine zi_bipush (pc' := 15) rfl rfl (by decide) ?_
    exact zi_iret rfl rfl h
-- SpoutNews.who(II)I
noncomputable def w_S_who (l1 : Int) (l2 : Int) (g : zi_M) (Q : Int → zi_M → Prop) : Prop := w_World_isSitter l1 g (fun v1 g2 => ((¬ v1 = 0 → (zi_r l2 ∧ ((l2 ≠ 0 → l2 ≠ 1 → Q (-2) g2) ∧ (l2 = 0 → ((0 ≤ l1 ∧ l1 < 8) ∧ Q (g2 10 l1) g2)) ∧ (l2 = 1 → ((0 ≤ l1 ∧ l1 < 8) ∧ Q (g2 11 l1) g2))))) ∧ (v1 = 0 → Q (-2) g2)))
set_option maxRecDepth 100000 in
theorem s_S_who {E : sx_E} {d : Nat} (hd : 2 ≤ d) {l1 : Int} {l2 : Int} {g : zi_M} {Q : Int → zi_M → Prop} (h : w_S_who l1 l2 g Q) : zi_S E d 116 [.ref 0, zi_i l1, zi_i l2] g (zi_Q Q) := by
  refine zi_Sof jf_116 [some (.ref 0), some (zi_i l1), some (zi_i l2)] rfl (And.intro rfl (And.intro rfl (And.intro rfl trivial))) ?_
  unfold w_S_who at h
  refine zi_aload_n (pc' := 1) rfl rfl rfl ?_
  refine zi_getr (pc' := 4) rfl rfl rfl rfl rfl ?_
  refine zi_getr (pc' := 7) rfl rfl rfl rfl rfl ?_
  refine zi_iload_n (pc' := 8) rfl rfl rfl ?_
  refine zi_callV (d' := 1) (as := [_]) (pc' := 11) rfl rfl rfl rfl (Nat.lt_of_lt_of_le (by decide) hd) (s_World_isSitter (Nat.le_refl _) h) (zi_kb (fun v1 g2 b3 h => ?_))
  refine zi_if_ne (x := 17) (pc' := 14) rfl rfl (zi_r_bit b3)  (fun c8 => ?_) (fun c8 => ?_)
  · replace h := h.1 c8
    refine zi_iload_n (pc' := 18) rfl rfl rfl ?_
    obtain ⟨o4, h⟩ := h
    refine zi_lsw [(0, 44), (1, 57)] 70 rfl rfl o4 (fun c5 => ?_) (And.intro (fun c5 => ?_) (And.intro (fun c5 => ?_) trivial))
    · replace h := h.1 (c5 _ (List.mem_cons_self)) (c5 _ (List.mem_cons_of_mem _ (List.mem_cons_self)))
      refine zi_bipush (pc' := 72) rfl rfl (by decide) ?_
      exact zi_iret rfl rfl h
    · replace h := h.2.1 c5
      refine zi_aload_n (pc' := 45) rfl rfl rfl ?_
      refine zi_getr (pc' := 48) rfl rfl rfl rfl rfl ?_
      refine zi_getr (pc' := 51) rfl rfl rfl rfl rfl ?_
      refine zi_getr (pc' := 54) rfl rfl rfl rfl rfl ?_
      refine zi_iload_n (pc' := 55) rfl rfl rfl ?_
      obtain ⟨o6, h⟩ := h
      refine zi_iald (pc' := 56) rfl rfl rfl o6 ?_
      exact zi_iret rfl rfl h
    · replace h := h.2.2 c5
      refine zi_aload_n (pc' := 58) rfl rfl rfl ?_
      refine zi_getr (pc' := 61) rfl rfl rfl rfl rfl ?_
      refine zi_getr (pc' := 64) rfl rfl rfl rfl rfl ?_
      refine zi_getr (pc' := 67) rfl rfl rfl rfl rfl ?_
      refine zi_iload_n (pc' := 68) rfl rfl rfl ?_
      obtain ⟨o7, h⟩ := h
      refine zi_iald (pc' := 69) rfl rfl rfl o7 ?_
      exact zi_iret rfl rfl h
  · replace h := h.2 c8
    refine zi_bipush (pc' := 16) rfl rfl (by decide) ?_
    exact zi_iret rfl rfl h
-- SpoutNewsModel.who(II)I
noncomputable def w_M_who (l1 : Int) (l2 : Int) (g : zi_M) (Q : Int → zi_M → Prop) : Prop := (∀ g1, g1 = zi_u g 214 0 0 → w_M_isSitter l1 g1 (fun v2 g3 => ((¬ v2 = 0 → (zi_r l2 ∧ ((¬ l2 = 0 → ((¬ l2 = 1 → Q (-2) g3) ∧ (l2 = 1 → ((0 ≤ (244 + l1) ∧ (244 + l1) < 264) ∧ Q ((g3 215 (244 + l1)) - 1) g3)))) ∧ (l2 = 0 → ((0 ≤ (236 + l1) ∧ (236 + l1) < 264) ∧ Q (g3 215 (236 + l1)) g3))))) ∧ (v2 = 0 → Q (-2) g3))))
set_option maxRecDepth 100000 in
theorem s_M_who {E : sx_E} {d : Nat} (hd : 2 ≤ d) {l1 : Int} {l2 : Int} {g : zi_M} {Q : Int → zi_M → Prop} (h : w_M_who l1 l2 g Q) : zi_S E d 267 [.ref 214, zi_i l1, zi_i l2] g (zi_Q Q) := by
  refine zi_Sof jf_267 [some (.ref 214), some (zi_i l1), some (zi_i l2)] rfl (And.intro rfl (And.intro rfl (And.intro rfl trivial))) ?_
  unfold w_M_who at h
  refine zi_aload_n (pc' := 1) rfl rfl rfl ?_
  refine zi_iconst (pc' := 2) rfl rfl ?_
  refine zi_puti (pc' := 5) 0 rfl rfl rfl rfl rfl  ?_
  replace h := h _ rfl
  refine zi_aload_n (pc' := 6) rfl rfl rfl ?_
  refine zi_iload_n (pc' := 7) rfl rfl rfl ?_
  refine zi_callV (d' := 1) (as := [_]) (pc' := 10) rfl rfl rfl rfl (Nat.lt_of_lt_of_le (by decide) hd) (s_M_isSitter (Nat.le_refl _) h) (zi_kb (fun v2 g3 b4 h => ?_))
  refine zi_if_ne (x := 16) (pc' := 13) rfl rfl (zi_r_bit b4)  (fun c10 => ?_) (fun c10 => ?_)
  · replace h := h.1 c10
    refine zi_iload_n (pc' := 17) rfl rfl rfl ?_
    obtain ⟨o5, h⟩ := h
    refine zi_if_ne (x := 33) (pc' := 20) rfl rfl o5  (fun c9 => ?_) (fun c9 => ?_)
    · replace h := h.1 c9
      refine zi_iload_n (pc' := 34) rfl rfl rfl ?_
      refine zi_iconst (pc' := 35) rfl rfl ?_
      refine zi_icmp_ne (x := 53) (pc' := 38) rfl rfl o5 (by decide) (fun c7 => ?_) (fun c7 => ?_)
      · replace h := h.1 c7
        refine zi_bipush (pc' := 55) rfl rfl (by decide) ?_
        exact zi_iret rfl rfl h
      · replace h := h.2 c7
        refine zi_aload_n (pc' := 39) rfl rfl rfl ?_
        refine zi_getr (pc' := 42) rfl rfl rfl rfl rfl ?_
        refine zi_sipush (pc' := 45) rfl rfl (by decide) ?_
        refine zi_iload_n (pc' := 46) rfl rfl rfl ?_
        refine zi_iadd (pc' := 47) rfl rfl ?_
        obtain ⟨o6, h⟩ := h
        refine zi_iald (pc' := 48) rfl rfl rfl o6 ?_
        refine zi_iconst (pc' := 49) rfl rfl ?_
        refine zi_isub (pc' := 50) rfl rfl ?_
        refine zi_goto (x := 55) rfl ?_
        exact zi_iret rfl rfl h
    · replace h := h.2 c9
      refine zi_aload_n (pc' := 21) rfl rfl rfl ?_
      refine zi_getr (pc' := 24) rfl rfl rfl rfl rfl ?_
      refine zi_sipush (pc' := 27) rfl rfl (by decide) ?_
      refine zi_iload_n (pc' := 28) rfl rfl rfl ?_
      refine zi_iadd (pc' := 29) rfl rfl ?_
      obtain ⟨o8, h⟩ := h
      refine zi_iald (pc' := 30) rfl rfl rfl o8 ?_
      refine zi_goto (x := 55) rfl ?_
      exact zi_iret rfl rfl h
  · replace h := h.2 c10
    refine zi_bipush (pc' := 15) rfl rfl (by decide) ?_
    exact zi_iret rfl rfl h
-- SpoutNews.jar(II)I
noncomputable def w_S_jar (l1 : Int) (l2 : Int) (g : zi_M) (Q : Int → zi_M → Prop) : Prop := (zi_r l1 ∧ ((l1 < 0 → Q (-2) g) ∧ (0 ≤ l1 → ((l1 < 6 → (zi_r l2 ∧ ((l2 ≠ 0 → l2 ≠ 1 → Q (-2) g) ∧ (l2 = 0 → ((0 ≤ l1 ∧ l1 < 6) ∧ Q (g 12 l1) g)) ∧ (l2 = 1 → ((0 ≤ l1 ∧ l1 < 6) ∧ Q (g 13 l1) g))))) ∧ (6 ≤ l1 → Q (-2) g)))))
set_option maxRecDepth 100000 in
theorem s_S_jar {E : sx_E} {d : Nat} (hd : 1 ≤ d) {l1 : Int} {l2 : Int} {g : zi_M} {Q : Int → zi_M → Prop} (h : w_S_jar l1 l2 g Q) : zi_S E d 117 [.ref 0, zi_i l1, zi_i l2] g (zi_Q Q) := by
  refine zi_Sof jf_117 [some (.ref 0), some (zi_i l1), some (zi_i l2)] rfl (And.intro rfl (And.intro rfl (And.intro rfl trivial))) ?_
  unfold w_S_jar at h
  refine zi_iload_n (pc' := 1) rfl rfl rfl ?_
  obtain ⟨o1, h⟩ := h
  refine zi_if_lt (x := 10) (pc' := 4) rfl rfl o1  (fun c7 => ?_) (fun c7 => ?_)
  · replace h := h.1 c7
    refine zi_bipush (pc' := 12) rfl rfl (by decide) ?_
    exact zi_iret rfl rfl h
  · replace h := h.2 c7
    refine zi_iload_n (pc' := 5) rfl rfl rfl ?_
    refine zi_bipush (pc' := 7) rfl rfl (by decide) ?_
    refine zi_icmp_lt (x := 13) (pc' := 10) rfl rfl o1 (by decide) (fun c6 => ?_) (fun c6 => ?_)
    · replace h := h.1 c6
      refine zi_iload_n (pc' := 14) rfl rfl rfl ?_
      obtain ⟨o2, h⟩ := h
      refine zi_lsw [(0, 40), (1, 53)] 66 rfl rfl o2 (fun c3 => ?_) (And.intro (fun c3 => ?_) (And.intro (fun c3 => ?_) trivial))
      · replace h := h.1 (c3 _ (List.mem_cons_self)) (c3 _ (List.mem_cons_of_mem _ (List.mem_cons_self)))
        refine zi_bipush (pc' := 68) rfl rfl (by decide) ?_
        exact zi_iret rfl rfl h
      · replace h := h.2.1 c3
        refine zi_aload_n (pc' := 41) rfl rfl rfl ?_
        refine zi_getr (pc' := 44) rfl rfl rfl rfl rfl ?_
        refine zi_getr (pc' := 47) rfl rfl rfl rfl rfl ?_
        refine zi_getr (pc' := 50) rfl rfl rfl rfl rfl ?_
        refine zi_iload_n (pc' := 51) rfl rfl rfl ?_
        obtain ⟨o4, h⟩ := h
        refine zi_iald (pc' := 52) rfl rfl rfl o4 ?_
        exact zi_iret rfl rfl h
      · replace h := h.2.2 c3
        refine zi_aload_n (pc' := 54) rfl rfl rfl ?_
        refine zi_getr (pc' := 57) rfl rfl rfl rfl rfl ?_
        refine zi_getr (pc' := 60) rfl rfl rfl rfl rfl ?_
        refine zi_getr (pc' := 63) rfl rfl rfl rfl rfl ?_
        refine zi_iload_n (pc' := 64) rfl rfl rfl ?_
        obtain ⟨o5, h⟩ := h
        refine zi_iald (pc' := 65) rfl rfl rfl o5 ?_
        exact zi_iret rfl rfl h
    · replace h := h.2 c6
      refine zi_bipush (pc' := 12) rfl rfl (by decide) ?_
      exact zi_iret rfl rfl h
-- SpoutNewsModel.jar(II)I
noncomputable def w_M_jar (l1 : Int) (l2 : Int) (g : zi_M) (Q : Int → zi_M → Prop) : Prop := (∀ g1, g1 = zi_u g 214 0 0 → w_M_isIn l1 0 5 g1 (fun v2 g3 => ((¬ v2 = 0 → (zi_r l2 ∧ ((¬ l2 = 0 → ((¬ l2 = 1 → Q (-2) g3) ∧ (l2 = 1 → ((0 ≤ (258 + l1) ∧ (258 + l1) < 264) ∧ Q (g3 215 (258 + l1)) g3)))) ∧ (l2 = 0 → ((0 ≤ (252 + l1) ∧ (252 + l1) < 264) ∧ Q ((g3 215 (252 + l1)) - 1) g3))))) ∧ (v2 = 0 → Q (-2) g3))))
set_option maxRecDepth 100000 in
theorem s_M_jar {E : sx_E} {d : Nat} (hd : 2 ≤ d) {l1 : Int} {l2 : Int} {g : zi_M} {Q : Int → zi_M → Prop} (h : w_M_jar l1 l2 g Q) : zi_S E d 268 [.ref 214, zi_i l1, zi_i l2] g (zi_Q Q) := by
  refine zi_Sof jf_268 [some (.ref 214), some (zi_i l1), some (zi_i l2)] rfl (And.intro rfl (And.intro rfl (And.intro rfl trivial))) ?_
  unfold w_M_jar at h
  refine zi_aload_n (pc' := 1) rfl rfl rfl ?_
  refine zi_iconst (pc' := 2) rfl rfl ?_
  refine zi_puti (pc' := 5) 0 rfl rfl rfl rfl rfl  ?_
  replace h := h _ rfl
  refine zi_aload_n (pc' := 6) rfl rfl rfl ?_
  refine zi_iload_n (pc' := 7) rfl rfl rfl ?_
  refine zi_iconst (pc' := 8) rfl rfl ?_
  refine zi_iconst (pc' := 9) rfl rfl ?_
  refine zi_callV (d' := 1) (as := [_, _, _]) (pc' := 12) rfl rfl rfl rfl (Nat.lt_of_lt_of_le (by decide) hd) (s_M_isIn (Nat.le_refl _) h) (zi_kb (fun v2 g3 b4 h => ?_))
  refine zi_if_ne (x := 18) (pc' := 15) rfl rfl (zi_r_bit b4)  (fun c10 => ?_) (fun c10 => ?_)
  · replace h := h.1 c10
    refine zi_iload_n (pc' := 19) rfl rfl rfl ?_
    obtain ⟨o5, h⟩ := h
    refine zi_if_ne (x := 37) (pc' := 22) rfl rfl o5  (fun c9 => ?_) (fun c9 => ?_)
    · replace h := h.1 c9
      refine zi_iload_n (pc' := 38) rfl rfl rfl ?_
      refine zi_iconst (pc' := 39) rfl rfl ?_
      refine zi_icmp_ne (x := 55) (pc' := 42) rfl rfl o5 (by decide) (fun c7 => ?_) (fun c7 => ?_)
      · replace h := h.1 c7
        refine zi_bipush (pc' := 57) rfl rfl (by decide) ?_
        exact zi_iret rfl rfl h
      · replace h := h.2 c7
        refine zi_aload_n (pc' := 43) rfl rfl rfl ?_
        refine zi_getr (pc' := 46) rfl rfl rfl rfl rfl ?_
        refine zi_sipush (pc' := 49) rfl rfl (by decide) ?_
        refine zi_iload_n (pc' := 50) rfl rfl rfl ?_
        refine zi_iadd (pc' := 51) rfl rfl ?_
        obtain ⟨o6, h⟩ := h
        refine zi_iald (pc' := 52) rfl rfl rfl o6 ?_
        refine zi_goto (x := 57) rfl ?_
        exact zi_iret rfl rfl h
    · replace h := h.2 c9
      refine zi_aload_n (pc' := 23) rfl rfl rfl ?_
      refine zi_getr (pc' := 26) rfl rfl rfl rfl rfl ?_
      refine zi_sipush (pc' := 29) rfl rfl (by decide) ?_
      refine zi_iload_n (pc' := 30) rfl rfl rfl ?_
      refine zi_iadd (pc' := 31) rfl rfl ?_
      obtain ⟨o8, h⟩ := h
      refine zi_iald (pc' := 32) rfl rfl rfl o8 ?_
      refine zi_iconst (pc' := 33) rfl rfl ?_
      refine zi_isub (pc' := 34) rfl rfl ?_
      refine zi_goto (x := 57) rfl ?_
      exact zi_iret rfl rfl h
  · replace h := h.2 c10
    refine zi_bipush (pc' := 17) rfl rfl (by decide) ?_
    exact zi_iret rfl rfl h
-- SpoutNews.weather(I)I
noncomputable def w_S_weather (l1 : Int) (g : zi_M) (Q : Int → zi_M → Prop) : Prop := w_Texts_rainOn l1 g (fun v1 g2 => Q v1 g2)
set_option maxRecDepth 100000 in
theorem s_S_weather {E : sx_E} {d : Nat} (hd : 2 ≤ d) {l1 : Int} {g : zi_M} {Q : Int → zi_M → Prop} (h : w_S_weather l1 g Q) : zi_S E d 118 [.ref 0, zi_i l1] g (zi_Q Q) := by
  refine zi_Sof jf_118 [some (.ref 0), some (zi_i l1)] rfl (And.intro rfl (And.intro rfl trivial)) ?_
  unfold w_S_weather at h
  refine zi_aload_n (pc' := 1) rfl rfl rfl ?_
  refine zi_getr (pc' := 4) rfl rfl rfl rfl rfl ?_
  refine zi_getr (pc' := 7) rfl rfl rfl rfl rfl ?_
  refine zi_iload_n (pc' := 8) rfl rfl rfl ?_
  refine zi_callV (d' := 1) (as := [_]) (pc' := 11) rfl rfl rfl rfl (Nat.lt_of_lt_of_le (by decide) hd) (s_Texts_rainOn (Nat.le_refl _) h) (zi_ki (fun v1 g2 h => ?_))
  exact zi_iret rfl rfl h
-- SpoutNewsModel.weather(I)I
noncomputable def w_M_weather (l1 : Int) (g : zi_M) (Q : Int → zi_M → Prop) : Prop := (∀ g1, g1 = zi_u g 214 0 0 → w_M_weatherOf l1 g1 (fun v2 g3 => Q v2 g3))
set_option maxRecDepth 100000 in
theorem s_M_weather {E : sx_E} {d : Nat} (hd : 2 ≤ d) {l1 : Int} {g : zi_M} {Q : Int → zi_M → Prop} (h : w_M_weather l1 g Q) : zi_S E d 269 [.ref 214, zi_i l1] g (zi_Q Q) := by
  refine zi_Sof jf_269 [some (.ref 214), some (zi_i l1)] rfl (And.intro rfl (And.intro rfl trivial)) ?_
  unfold w_M_weather at h
  refine zi_aload_n (pc' := 1) rfl rfl rfl ?_
  refine zi_iconst (pc' := 2) rfl rfl ?_
  refine zi_puti (pc' := 5) 0 rfl rfl rfl rfl rfl  ?_
  replace h := h _ rfl
  refine zi_aload_n (pc' := 6) rfl rfl rfl ?_
  refine zi_iload_n (pc' := 7) rfl rfl rfl ?_
  refine zi_callV (d' := 1) (as := [_]) (pc' := 10) rfl rfl rfl rfl (Nat.lt_of_lt_of_le (by decide) hd) (s_M_weatherOf (Nat.le_refl _) h) (zi_ki (fun v2 g3 h => ?_))
  exact zi_iret rfl rfl h
-- SpoutNews.book(II)I
noncomputable def w_S_book (l1 : Int) (l2 : Int) (g : zi_M) (Q : Int → zi_M → Prop) : Prop := (zi_r l1 ∧ ((l1 < 0 → Q (-1) g) ∧ (0 ≤ l1 → (zi_r (g 2 19) ∧ (((g 2 19) ≤ l1 → Q (-1) g) ∧ (l1 < (g 2 19) → ((l1 < 150 → (zi_r l2 ∧ ((l2 < 0 ∨ 3 < l2 → Q (-1) g) ∧ (l2 = 0 → ((0 ≤ l1 ∧ l1 < 150) ∧ Q (g 15 l1) g)) ∧ (l2 = 1 → ((0 ≤ l1 ∧ l1 < 150) ∧ Q (g 16 l1) g)) ∧ (l2 = 2 → ((0 ≤ l1 ∧ l1 < 150) ∧ Q (g 17 l1) g)) ∧ (l2 = 3 → ((0 ≤ l1 ∧ l1 < 150) ∧ Q (g 18 l1) g))))) ∧ (150 ≤ l1 → Q (-1) g))))))))
set_option maxRecDepth 100000 in
theorem s_S_book {E : sx_E} {d : Nat} (hd : 1 ≤ d) {l1 : Int} {l2 : Int} {g : zi_M} {Q : Int → zi_M → Prop} (h : w_S_book l1 l2 g Q) : zi_S E d 119 [.ref 0, zi_i l1, zi_i l2] g (zi_Q Q) := by
  refine zi_Sof jf_119 [some (.ref 0), some (zi_i l1), some (zi_i l2)] rfl (And.intro rfl (And.intro rfl (And.intro rfl trivial))) ?_
  unfold w_S_book at h
  refine zi_iload_n (pc' := 1) rfl rfl rfl ?_
  obtain ⟨o1, h⟩ := h
  refine zi_if_lt (x := 25) (pc' := 4) rfl rfl o1  (fun c11 => ?_) (fun c11 => ?_)
  · replace h := h.1 c11
    refine zi_iconst (pc' := 26) rfl rfl ?_
    exact zi_iret rfl rfl h
  · replace h := h.2 c11
    refine zi_iload_n (pc' := 5) rfl rfl rfl ?_
    refine zi_aload_n (pc' := 6) rfl rfl rfl ?_
    refine zi_getr (pc' := 9) rfl rfl rfl rfl rfl ?_
    refine zi_getr (pc' := 12) rfl rfl rfl rfl rfl ?_
    refine zi_geti (pc' := 15) 19 rfl rfl rfl rfl rfl rfl ?_
    obtain ⟨o2, h⟩ := h
    refine zi_icmp_ge (x := 25) (pc' := 18) rfl rfl o1 o2 (fun c10 => ?_) (fun c10 => ?_)
    · replace h := h.1 c10
      refine zi_iconst (pc' := 26) rfl rfl ?_
      exact zi_iret rfl rfl h
    · replace h := h.2 c10
      refine zi_iload_n (pc' := 19) rfl rfl rfl ?_
      refine zi_sipush (pc' := 22) rfl rfl (by decide) ?_
      refine zi_icmp_lt (x := 27) (pc' := 25) rfl rfl o1 (by decide) (fun c9 => ?_) (fun c9 => ?_)
      · replace h := h.1 c9
        refine zi_iload_n (pc' := 28) rfl rfl rfl ?_
        obtain ⟨o3, h⟩ := h
        refine zi_tsw [(0, 60), (1, 73), (2, 86), (3, 99)] 112 rfl rfl o3 (fun c4 => ?_) (And.intro (fun c4 => ?_) (And.intro (fun c4 => ?_) (And.intro (fun c4 => ?_) (And.intro (fun c4 => ?_) trivial))))
        · replace h := h.1 c4
          refine zi_iconst (pc' := 113) rfl rfl ?_
          exact zi_iret rfl rfl h
        · replace h := h.2.1 c4
          refine zi_aload_n (pc' := 61) rfl rfl rfl ?_
          refine zi_getr (pc' := 64) rfl rfl rfl rfl rfl ?_
          refine zi_getr (pc' := 67) rfl rfl rfl rfl rfl ?_
          refine zi_getr (pc' := 70) rfl rfl rfl rfl rfl ?_
          refine zi_iload_n (pc' := 71) rfl rfl rfl ?_
          obtain ⟨o5, h⟩ := h
          refine zi_iald (pc' := 72) rfl rfl rfl o5 ?_
          exact zi_iret rfl rfl h
        · replace h := h.2.2.1 c4
          refine zi_aload_n (pc' := 74) rfl rfl rfl ?_
          refine zi_getr (pc' := 77) rfl rfl rfl rfl rfl ?_
          refine zi_getr (pc' := 80) rfl rfl rfl rfl rfl ?_
          refine zi_getr (pc' := 83) rfl rfl rfl rfl rfl ?_
          refine zi_iload_n (pc' := 84) rfl rfl rfl ?_
          obtain ⟨o6, h⟩ := h
          refine zi_iald (pc' := 85) rfl rfl rfl o6 ?_
          exact zi_iret rfl rfl h
        · replace h := h.2.2.2.1 c4
          refine zi_aload_n (pc' := 87) rfl rfl rfl ?_
          refine zi_getr (pc' := 90) rfl rfl rfl rfl rfl ?_
          refine zi_getr (pc' := 93) rfl rfl rfl rfl rfl ?_
          refine zi_getr (pc' := 96) rfl rfl rfl rfl rfl ?_
          refine zi_iload_n (pc' := 97) rfl rfl rfl ?_
          obtain ⟨o7, h⟩ := h
          refine zi_iald (pc' := 98) rfl rfl rfl o7 ?_
          exact zi_iret rfl rfl h
        · replace h := h.2.2.2.2 c4
          refine zi_aload_n (pc' := 100) rfl rfl rfl ?_
          refine zi_getr (pc' := 103) rfl rfl rfl rfl rfl ?_
          refine zi_getr (pc' := 106) rfl rfl rfl rfl rfl ?_
          refine zi_getr (pc' := 109) rfl rfl rfl rfl rfl ?_
          refine zi_iload_n (pc' := 110) rfl rfl rfl ?_
          obtain ⟨o8, h⟩ := h
          refine zi_iald (pc' := 111) rfl rfl rfl o8 ?_
          exact zi_iret rfl rfl h
      · replace h := h.2 c9
        refine zi_iconst (pc' := 26) rfl rfl ?_
        exact zi_iret rfl rfl h
-- SpoutNewsModel.book(II)I
noncomputable def w_M_book (l1 : Int) (l2 : Int) (g : zi_M) (Q : Int → zi_M → Prop) : Prop := (∀ g1, g1 = zi_u g 214 0 0 → w_M_isIn l1 0 ((g1 215 2) - 1) g1 (fun v2 g3 => ((v2 = 0 → Q (-1) g3) ∧ (¬ v2 = 0 → w_M_isIn l2 0 3 g3 (fun v5 g6 => ((v5 = 0 → Q (-1) g6) ∧ (¬ v5 = 0 → ((0 ≤ ((4 * l1) + l2) ∧ ((4 * l1) + l2) < 600) ∧ Q (g6 221 ((4 * l1) + l2)) g6))))))))
set_option maxRecDepth 100000 in
theorem s_M_book {E : sx_E} {d : Nat} (hd : 2 ≤ d) {l1 : Int} {l2 : Int} {g : zi_M} {Q : Int → zi_M → Prop} (h : w_M_book l1 l2 g Q) : zi_S E d 270 [.ref 214, zi_i l1, zi_i l2] g (zi_Q Q) := by
  refine zi_Sof jf_270 [some (.ref 214), some (zi_i l1), some (zi_i l2)] rfl (And.intro rfl (And.intro rfl (And.intro rfl trivial))) ?_
  unfold w_M_book at h
  refine zi_aload_n (pc' := 1) rfl rfl rfl ?_
  refine zi_iconst (pc' := 2) rfl rfl ?_
  refine zi_puti (pc' := 5) 0 rfl rfl rfl rfl rfl  ?_
  replace h := h _ rfl
  refine zi_aload_n (pc' := 6) rfl rfl rfl ?_
  refine zi_iload_n (pc' := 7) rfl rfl rfl ?_
  refine zi_iconst (pc' := 8) rfl rfl ?_
  refine zi_aload_n (pc' := 9) rfl rfl rfl ?_
  refine zi_getr (pc' := 12) rfl rfl rfl rfl rfl ?_
  refine zi_iconst (pc' := 13) rfl rfl ?_
  refine zi_iald (pc' := 14) rfl rfl rfl (by decide) ?_
  refine zi_iconst (pc' := 15) rfl rfl ?_
  refine zi_isub (pc' := 16) rfl rfl ?_
  refine zi_callV (d' := 1) (as := [_, _, _]) (pc' := 19) rfl rfl rfl rfl (Nat.lt_of_lt_of_le (by decide) hd) (s_M_isIn (Nat.le_refl _) h) (zi_kb (fun v2 g3 b4 h => ?_))
  refine zi_if_eq (x := 45) (pc' := 22) rfl rfl (zi_r_bit b4)  (fun c10 => ?_) (fun c10 => ?_)
  · replace h := h.1 c10
    refine zi_iconst (pc' := 46) rfl rfl ?_
    exact zi_iret rfl rfl h
  · replace h := h.2 c10
    refine zi_aload_n (pc' := 23) rfl rfl rfl ?_
    refine zi_iload_n (pc' := 24) rfl rfl rfl ?_
    refine zi_iconst (pc' := 25) rfl rfl ?_
    refine zi_iconst (pc' := 26) rfl rfl ?_
    refine zi_callV (d' := 1) (as := [_, _, _]) (pc' := 29) rfl rfl rfl rfl (Nat.lt_of_lt_of_le (by decide) hd) (s_M_isIn (Nat.le_refl _) h) (zi_kb (fun v5 g6 b7 h => ?_))
    refine zi_if_eq (x := 45) (pc' := 32) rfl rfl (zi_r_bit b7)  (fun c9 => ?_) (fun c9 => ?_)
    · replace h := h.1 c9
      refine zi_iconst (pc' := 46) rfl rfl ?_
      exact zi_iret rfl rfl h
    · replace h := h.2 c9
      refine zi_aload_n (pc' := 33) rfl rfl rfl ?_
      refine zi_getr (pc' := 36) rfl rfl rfl rfl rfl ?_
      refine zi_iconst (pc' := 37) rfl rfl ?_
      refine zi_iload_n (pc' := 38) rfl rfl rfl ?_
      refine zi_imul (pc' := 39) rfl rfl ?_
      refine zi_iload_n (pc' := 40) rfl rfl rfl ?_
      refine zi_iadd (pc' := 41) rfl rfl ?_
      obtain ⟨o8, h⟩ := h
      refine zi_iald (pc' := 42) rfl rfl rfl o8 ?_
      refine zi_goto (x := 46) rfl ?_
      exact zi_iret rfl rfl h
-- SpoutNews$World.heardInAll()I
noncomputable def w_World_heardInAll_l4 (K27 : Int → zi_M → Prop) (Q : Int → zi_M → Prop) : Nat → Int → Int → zi_M → Prop
  | 0, _, _, _ => False
  | f + 1, l1, l2, g => (zi_r l2 ∧ zi_r (g 165 8) ∧ (((g 165 8) ≤ l2 → K27 l1 g) ∧ (l2 < (g 165 8) → ((0 ≤ l2 ∧ l2 < 10) ∧ w_World_heardInAll_l4 K27 Q f (zi_w (l1 + (g 171 l2))) (l2 + 1) g))))
noncomputable def w_World_heardInAll (g : zi_M) (Q : Int → zi_M → Prop) : Prop := (∃ f7, w_World_heardInAll_l4 (fun k5 g6 => Q k5 g6) Q f7 0 0 g)
set_option maxRecDepth 100000 in
theorem s_World_heardInAll_l4_r {E : sx_E} {d : Nat} (hd : 1 ≤ d) {K27 : Int → zi_M → Prop} {Q : Int → zi_M → Prop} (hK27 : ∀ (k1 : Int) (g : zi_M), K27 k1 g → zi_W E d 121 27 [some (.ref 165), some (zi_i k1), none] [] g (zi_Q Q)) : ∀ (f : Nat) {l1 : Int} {l2 : Int} {g : zi_M}, w_World_heardInAll_l4 K27 Q f l1 l2 g → zi_W E d 121 4 [some (.ref 165), some (zi_i l1), some (zi_i l2)] [] g (zi_Q Q)
  | 0, _, _, _, h => False.elim h
  | f + 1, l1, l2, g, h => by
    refine zi_iload_n (pc' := 5) rfl rfl rfl ?_
    refine zi_aload_n (pc' := 6) rfl rfl rfl ?_
    refine zi_geti (pc' := 9) 8 rfl rfl rfl rfl rfl rfl ?_
    obtain ⟨o1, o2, h⟩ := h
    refine zi_icmp_ge (x := 27) (pc' := 12) rfl rfl o1 o2 (fun c4 => ?_) (fun c4 => ?_)
    · replace h := h.1 c4
      exact zi_wk (hK27 _ _ h) (And.intro rfl (And.intro rfl trivial))
    · replace h := h.2 c4
      refine zi_iload_n (pc' := 13) rfl rfl rfl ?_
      refine zi_aload_n (pc' := 14) rfl rfl rfl ?_
      refine zi_getr (pc' := 17) rfl rfl rfl rfl rfl ?_
      refine zi_iload_n (pc' := 18) rfl rfl rfl ?_
      obtain ⟨o3, h⟩ := h
      refine zi_iald (pc' := 19) rfl rfl rfl o3 ?_
      refine zi_iadd (pc' := 20) rfl rfl ?_
      refine zi_wrap ?_
      refine zi_istore_n (pc' := 21) [some _, some _, some _] rfl rfl rfl ?_
      refine zi_iinc (pc' := 24) [some _, some _, some _] rfl rfl rfl rfl ?_
      refine zi_goto (x := 4) rfl ?_
      exact zi_wk (s_World_heardInAll_l4_r hd hK27 f h) (And.intro rfl (And.intro rfl (And.intro rfl trivial)))
set_option maxRecDepth 100000 in
theorem s_World_heardInAll_l4 {E : sx_E} {d : Nat} (hd : 1 ≤ d) {K27 : Int → zi_M → Prop} {Q : Int → zi_M → Prop} {l1 : Int} {l2 : Int} {g : zi_M} (h : ∃ f, w_World_heardInAll_l4 K27 Q f l1 l2 g) (hK27 : ∀ (k1 : Int) (g : zi_M), K27 k1 g → zi_W E d 121 27 [some (.ref 165), some (zi_i k1), none] [] g (zi_Q Q)) : zi_W E d 121 4 [some (.ref 165), some (zi_i l1), some (zi_i l2)] [] g (zi_Q Q) := by
  obtain ⟨f, h⟩ := h
  exact s_World_heardInAll_l4_r hd hK27 f h
set_option maxRecDepth 100000 in
theorem s_World_heardInAll {E : sx_E} {d : Nat} (hd : 1 ≤ d) {g : zi_M} {Q : Int → zi_M → Prop} (h : w_World_heardInAll g Q) : zi_S E d 121 [.ref 165] g (zi_Q Q) := by
  refine zi_Sof jf_121 [some (.ref 165), none, none] rfl (And.intro rfl trivial) ?_
  unfold w_World_heardInAll at h
  refine zi_iconst (pc' := 1) rfl rfl ?_
  refine zi_istore_n (pc' := 2) [some _, some _, none] rfl rfl rfl ?_
  refine zi_iconst (pc' := 3) rfl rfl ?_
  refine zi_istore_n (pc' := 4) [some _, some _, some _] rfl rfl rfl ?_
  refine zi_wk (s_World_heardInAll_l4 hd h (fun k5 g6 h => ?_)) (And.intro rfl (And.intro rfl (And.intro rfl trivial)))
  refine zi_iload_n (pc' := 28) rfl rfl rfl ?_
  exact zi_iret rfl rfl h
-- SpoutNews.goes(II)I
noncomputable def w_S_goes_l73 (l1 : Int) (K110 : zi_M → Prop) (Q : Int → zi_M → Prop) : Nat → Int → zi_M → Prop
  | 0, _, _ => False
  | f + 1, l5, g => (zi_r l5 ∧ zi_r l1 ∧ ((l1 ≤ l5 → K110 g) ∧ (l5 < l1 → w_DayRun_pass 165 g (fun _ g11 => w_S_goes_l73 l1 K110 Q f (l5 + 1) g11))))
noncomputable def w_S_goes_b32 (l1 : Int) (l2 : Int) (l3 : Int) (s0 : Int) (g : zi_M) (Q : Int → zi_M → Prop) : Prop := (zi_r l1 ∧ ((l1 < 1 → Q (-1) g) ∧ (1 ≤ l1 → ((60 < l1 → Q (-1) g) ∧ (l1 ≤ 60 → (zi_r l3 ∧ ((¬ l3 = 0 → w_World_copyFrom 165 2 g (fun _ g6 => (∃ f23, w_S_goes_l73 l1 (fun g14 => (zi_r l2 ∧ ((l2 < 0 ∨ 2 < l2 → (zi_r s0 ∧ ((s0 = 0 → Q (-1) g14) ∧ (¬ s0 = 0 → ((0 ≤ (l2 - 10) ∧ (l2 - 10) < 6) ∧ Q (g14 176 (l2 - 10)) g14))))) ∧ (l2 = 0 → Q (g14 165 15) g14) ∧ (l2 = 1 → Q (g14 165 16) g14) ∧ (l2 = 2 → w_World_heardInAll g14 (fun v20 g21 => Q v20 g21))))) Q f23 0 g6))) ∧ (l3 = 0 → (zi_r s0 ∧ ((¬ s0 = 0 → w_World_copyFrom 165 2 g (fun _ g26 => (∃ f36, w_S_goes_l73 l1 (fun g28 => (zi_r l2 ∧ ((l2 < 0 ∨ 2 < l2 → ((s0 = 0 → Q (-1) g28) ∧ (¬ s0 = 0 → ((0 ≤ (l2 - 10) ∧ (l2 - 10) < 6) ∧ Q (g28 176 (l2 - 10)) g28)))) ∧ (l2 = 0 → Q (g28 165 15) g28) ∧ (l2 = 1 → Q (g28 165 16) g28) ∧ (l2 = 2 → w_World_heardInAll g28 (fun v33 g34 => Q v33 g34))))) Q f36 0 g26))) ∧ (s0 = 0 → Q (-1) g)))))))))))
noncomputable def w_S_goes_b14 (l1 : Int) (l2 : Int) (s0 : Int) (g : zi_M) (Q : Int → zi_M → Prop) : Prop := (zi_r l2 ∧ ((l2 < 10 → w_S_goes_b32 l1 l2 s0 0 g Q) ∧ (10 ≤ l2 → ((16 ≤ l2 → w_S_goes_b32 l1 l2 s0 0 g Q) ∧ (l2 < 16 → w_S_goes_b32 l1 l2 s0 1 g Q)))))
noncomputable def w_S_goes (l1 : Int) (l2 : Int) (g : zi_M) (Q : Int → zi_M → Prop) : Prop := (zi_r l2 ∧ ((l2 < 0 → w_S_goes_b14 l1 l2 0 g Q) ∧ (0 ≤ l2 → ((2 < l2 → w_S_goes_b14 l1 l2 0 g Q) ∧ (l2 ≤ 2 → w_S_goes_b14 l1 l2 1 g Q)))))
set_option maxRecDepth 100000 in
theorem s_S_goes_l73_r {E : sx_E} {d : Nat} (hd : 8 ≤ d) {l1 : Int} {x2 : Int} {x4 : Int} {K110 : zi_M → Prop} {Q : Int → zi_M → Prop} (hK110 : ∀ (g : zi_M), K110 g → zi_W E d 120 110 [some (.ref 0), some (zi_i l1), some (zi_i x2), none, some (zi_i x4), none] [] g (zi_Q Q)) : ∀ (f : Nat) {l5 : Int} {g : zi_M}, w_S_goes_l73 l1 K110 Q f l5 g → zi_W E d 120 73 [some (.ref 0), some (zi_i l1), some (zi_i x2), none, some (zi_i x4), some (zi_i l5)] [] g (zi_Q Q)
  | 0, _, _, h => False.elim h
  | f + 1, l5, g, h => by
    refine zi_iload (pc' := 75) rfl rfl rfl ?_
    refine zi_iload_n (pc' := 76) rfl rfl rfl ?_
    obtain ⟨o8, o9, h⟩ := h
    refine zi_icmp_ge (x := 110) (pc' := 79) rfl rfl o8 o9 (fun c13 => ?_) (fun c13 => ?_)
    · replace h := h.1 c13
      exact zi_wk (hK110 _ h) (And.intro rfl (And.intro rfl (And.intro rfl (And.intro rfl trivial))))
    · replace h := h.2 c13
      refine zi_aload_n (pc' := 80) rfl rfl rfl ?_
      refine zi_getr (pc' := 83) rfl rfl rfl rfl rfl ?_
      refine zi_aload_n (pc' := 84) rfl rfl rfl ?_
      refine zi_getr (pc' := 87) rfl rfl rfl rfl rfl ?_
      refine zi_aload_n (pc' := 88) rfl rfl rfl ?_
      refine zi_getr (pc' := 91) rfl rfl rfl rfl rfl ?_
      refine zi_getr (pc' := 94) rfl rfl rfl rfl rfl ?_
      refine zi_aload_n (pc' := 95) rfl rfl rfl ?_
      refine zi_getr (pc' := 98) rfl rfl rfl rfl rfl ?_
      refine zi_getr (pc' := 101) rfl rfl rfl rfl rfl ?_
      refine zi_callV (d' := 7) (as := [_, _, _]) (pc' := 104) rfl rfl rfl rfl (Nat.lt_of_lt_of_le (by decide) hd) (s_DayRun_pass (Nat.le_refl _) rfl h) (zi_kv (fun g11 h => ?_))
      refine zi_iinc (pc' := 107) [some _, some _, some _, none, some _, some _] rfl rfl rfl rfl ?_
      refine zi_goto (x := 73) rfl ?_
      exact zi_wk (s_S_goes_l73_r hd hK110 f h) (And.intro rfl (And.intro rfl (And.intro rfl (And.intro rfl (And.intro rfl trivial)))))
set_option maxRecDepth 100000 in
theorem s_S_goes_l73 {E : sx_E} {d : Nat} (hd : 8 ≤ d) {l1 : Int} {x2 : Int} {x4 : Int} {K110 : zi_M → Prop} {Q : Int → zi_M → Prop} {l5 : Int} {g : zi_M} (h : ∃ f, w_S_goes_l73 l1 K110 Q f l5 g) (hK110 : ∀ (g : zi_M), K110 g → zi_W E d 120 110 [some (.ref 0), some (zi_i l1), some (zi_i x2), none, some (zi_i x4), none] [] g (zi_Q Q)) : zi_W E d 120 73 [some (.ref 0), some (zi_i l1), some (zi_i x2), none, some (zi_i x4), some (zi_i l5)] [] g (zi_Q Q) := by
  obtain ⟨f, h⟩ := h
  exact s_S_goes_l73_r hd hK110 f h
set_option maxRecDepth 100000 in
theorem s_S_goes_b32 {E : sx_E} {d : Nat} (hd : 8 ≤ d) {l1 : Int} {l2 : Int} {l3 : Int} {s0 : Int} {Q : Int → zi_M → Prop} {g : zi_M} (h : w_S_goes_b32 l1 l2 l3 s0 g Q) : zi_W E d 120 32 [some (.ref 0), some (zi_i l1), some (zi_i l2), some (zi_i l3), none, none] [zi_i s0] g (zi_Q Q) := by
  unfold w_S_goes_b32 at h
  refine zi_istore (pc' := 34) [some _, some _, some _, some _, some _, none] rfl rfl rfl ?_
  refine zi_iload_n (pc' := 35) rfl rfl rfl ?_
  refine zi_iconst (pc' := 36) rfl rfl ?_
  obtain ⟨o3, h⟩ := h
  refine zi_icmp_lt (x := 54) (pc' := 39) rfl rfl o3 (by decide) (fun c40 => ?_) (fun c40 => ?_)
  · replace h := h.1 c40
    refine zi_iconst (pc' := 55) rfl rfl ?_
    exact zi_iret rfl rfl h
  · replace h := h.2 c40
    refine zi_iload_n (pc' := 40) rfl rfl rfl ?_
    refine zi_bipush (pc' := 42) rfl rfl (by decide) ?_
    refine zi_icmp_gt (x := 54) (pc' := 45) rfl rfl o3 (by decide) (fun c39 => ?_) (fun c39 => ?_)
    · replace h := h.1 c39
      refine zi_iconst (pc' := 55) rfl rfl ?_
      exact zi_iret rfl rfl h
    · replace h := h.2 c39
      refine zi_iload_n (pc' := 46) rfl rfl rfl ?_
      obtain ⟨o4, h⟩ := h
      refine zi_if_ne (x := 56) (pc' := 49) rfl rfl o4  (fun c38 => ?_) (fun c38 => ?_)
      · replace h := h.1 c38
        refine zi_aload_n (pc' := 57) rfl rfl rfl ?_
        refine zi_getr (pc' := 60) rfl rfl rfl rfl rfl ?_
        refine zi_aload_n (pc' := 61) rfl rfl rfl ?_
        refine zi_getr (pc' := 64) rfl rfl rfl rfl rfl ?_
        refine zi_getr (pc' := 67) rfl rfl rfl rfl rfl ?_
        refine zi_callV (d' := 1) (as := [_]) (pc' := 70) rfl rfl rfl rfl (Nat.lt_of_lt_of_le (by decide) hd) (s_World_copyFrom (Nat.le_refl _) rfl rfl h) (zi_kv (fun g6 h => ?_))
        refine zi_iconst (pc' := 71) rfl rfl ?_
        refine zi_istore (pc' := 73) [some _, some _, some _, some _, some _, some _] rfl rfl rfl ?_
        refine zi_wk (s_S_goes_l73 hd h (fun g14 h => ?_)) (And.intro rfl (And.intro rfl (And.intro rfl (And.intro rfl (And.intro rfl trivial)))))
        refine zi_iload_n (pc' := 111) rfl rfl rfl ?_
        obtain ⟨o15, h⟩ := h
        refine zi_tsw [(0, 136), (1, 144), (2, 152)] 160 rfl rfl o15 (fun c16 => ?_) (And.intro (fun c16 => ?_) (And.intro (fun c16 => ?_) (And.intro (fun c16 => ?_) trivial)))
        · replace h := h.1 c16
          refine zi_iload (pc' := 162) rfl rfl rfl ?_
          obtain ⟨o17, h⟩ := h
          refine zi_if_eq (x := 180) (pc' := 165) rfl rfl o17  (fun c19 => ?_) (fun c19 => ?_)
          · replace h := h.1 c19
            refine zi_iconst (pc' := 181) rfl rfl ?_
            exact zi_iret rfl rfl h
          · replace h := h.2 c19
            refine zi_aload_n (pc' := 166) rfl rfl rfl ?_
            refine zi_getr (pc' := 169) rfl rfl rfl rfl rfl ?_
            refine zi_getr (pc' := 172) rfl rfl rfl rfl rfl ?_
            refine zi_iload_n (pc' := 173) rfl rfl rfl ?_
            refine zi_bipush (pc' := 175) rfl rfl (by decide) ?_
            refine zi_isub (pc' := 176) rfl rfl ?_
            obtain ⟨o18, h⟩ := h
            refine zi_iald (pc' := 177) rfl rfl rfl o18 ?_
            refine zi_goto (x := 181) rfl ?_
            exact zi_iret rfl rfl h
        · replace h := h.2.1 c16
          refine zi_aload_n (pc' := 137) rfl rfl rfl ?_
          refine zi_getr (pc' := 140) rfl rfl rfl rfl rfl ?_
          refine zi_geti (pc' := 143) 15 rfl rfl rfl rfl rfl rfl ?_
          exact zi_iret rfl rfl h
        · replace h := h.2.2.1 c16
          refine zi_aload_n (pc' := 145) rfl rfl rfl ?_
          refine zi_getr (pc' := 148) rfl rfl rfl rfl rfl ?_
          refine zi_geti (pc' := 151) 16 rfl rfl rfl rfl rfl rfl ?_
          exact zi_iret rfl rfl h
        · replace h := h.2.2.2 c16
          refine zi_aload_n (pc' := 153) rfl rfl rfl ?_
          refine zi_getr (pc' := 156) rfl rfl rfl rfl rfl ?_
          refine zi_callV (d' := 1) (as := []) (pc' := 159) rfl rfl rfl rfl (Nat.lt_of_lt_of_le (by decide) hd) (s_World_heardInAll (Nat.le_refl _) h) (zi_ki (fun v20 g21 h => ?_))
          exact zi_iret rfl rfl h
      · replace h := h.2 c38
        refine zi_iload (pc' := 51) rfl rfl rfl ?_
        obtain ⟨o24, h⟩ := h
        refine zi_if_ne (x := 56) (pc' := 54) rfl rfl o24  (fun c37 => ?_) (fun c37 => ?_)
        · replace h := h.1 c37
          refine zi_aload_n (pc' := 57) rfl rfl rfl ?_
          refine zi_getr (pc' := 60) rfl rfl rfl rfl rfl ?_
          refine zi_aload_n (pc' := 61) rfl rfl rfl ?_
          refine zi_getr (pc' := 64) rfl rfl rfl rfl rfl ?_
          refine zi_getr (pc' := 67) rfl rfl rfl rfl rfl ?_
          refine zi_callV (d' := 1) (as := [_]) (pc' := 70) rfl rfl rfl rfl (Nat.lt_of_lt_of_le (by decide) hd) (s_World_copyFrom (Nat.le_refl _) rfl rfl h) (zi_kv (fun g26 h => ?_))
          refine zi_iconst (pc' := 71) rfl rfl ?_
          refine zi_istore (pc' := 73) [some _, some _, some _, some _, some _, some _] rfl rfl rfl ?_
          refine zi_wk (s_S_goes_l73 hd h (fun g28 h => ?_)) (And.intro rfl (And.intro rfl (And.intro rfl (And.intro rfl (And.intro rfl trivial)))))
          refine zi_iload_n (pc' := 111) rfl rfl rfl ?_
          obtain ⟨o29, h⟩ := h
          refine zi_tsw [(0, 136), (1, 144), (2, 152)] 160 rfl rfl o29 (fun c30 => ?_) (And.intro (fun c30 => ?_) (And.intro (fun c30 => ?_) (And.intro (fun c30 => ?_) trivial)))
          · replace h := h.1 c30
            refine zi_iload (pc' := 162) rfl rfl rfl ?_
            refine zi_if_eq (x := 180) (pc' := 165) rfl rfl o24  (fun c32 => ?_) (fun c32 => ?_)
            · replace h := h.1 c32
              refine zi_iconst (pc' := 181) rfl rfl ?_
              exact zi_iret rfl rfl h
            · replace h := h.2 c32
              refine zi_aload_n (pc' := 166) rfl rfl rfl ?_
              refine zi_getr (pc' := 169) rfl rfl rfl rfl rfl ?_
              refine zi_getr (pc' := 172) rfl rfl rfl rfl rfl ?_
              refine zi_iload_n (pc' := 173) rfl rfl rfl ?_
              refine zi_bipush (pc' := 175) rfl rfl (by decide) ?_
              refine zi_isub (pc' := 176) rfl rfl ?_
              obtain ⟨o31, h⟩ := h
              refine zi_iald (pc' := 177) rfl rfl rfl o31 ?_
              refine zi_goto (x := 181) rfl ?_
              exact zi_iret rfl rfl h
          · replace h := h.2.1 c30
            refine zi_aload_n (pc' := 137) rfl rfl rfl ?_
            refine zi_getr (pc' := 140) rfl rfl rfl rfl rfl ?_
            refine zi_geti (pc' := 143) 15 rfl rfl rfl rfl rfl rfl ?_
            exact zi_iret rfl rfl h
          · replace h := h.2.2.1 c30
            refine zi_aload_n (pc' := 145) rfl rfl rfl ?_
            refine zi_getr (pc' := 148) rfl rfl rfl rfl rfl ?_
            refine zi_geti (pc' := 151) 16 rfl rfl rfl rfl rfl rfl ?_
            exact zi_iret rfl rfl h
          · replace h := h.2.2.2 c30
            refine zi_aload_n (pc' := 153) rfl rfl rfl ?_
            refine zi_getr (pc' := 156) rfl rfl rfl rfl rfl ?_
            refine zi_callV (d' := 1) (as := []) (pc' := 159) rfl rfl rfl rfl (Nat.lt_of_lt_of_le (by decide) hd) (s_World_heardInAll (Nat.le_refl _) h) (zi_ki (fun v33 g34 h => ?_))
            exact zi_iret rfl rfl h
        · replace h := h.2 c37
          refine zi_iconst (pc' := 55) rfl rfl ?_
          exact zi_iret rfl rfl h
set_option maxRecDepth 100000 in
theorem s_S_goes_b14 {E : sx_E} {d : Nat} (hd : 8 ≤ d) {l1 : Int} {l2 : Int} {s0 : Int} {Q : Int → zi_M → Prop} {g : zi_M} (h : w_S_goes_b14 l1 l2 s0 g Q) : zi_W E d 120 14 [some (.ref 0), some (zi_i l1), some (zi_i l2), none, none, none] [zi_i s0] g (zi_Q Q) := by
  unfold w_S_goes_b14 at h
  refine zi_istore_n (pc' := 15) [some _, some _, some _, some _, none, none] rfl rfl rfl ?_
  refine zi_iload_n (pc' := 16) rfl rfl rfl ?_
  refine zi_bipush (pc' := 18) rfl rfl (by decide) ?_
  obtain ⟨o2, h⟩ := h
  refine zi_icmp_lt (x := 31) (pc' := 21) rfl rfl o2 (by decide) (fun c42 => ?_) (fun c42 => ?_)
  · replace h := h.1 c42
    refine zi_iconst (pc' := 32) rfl rfl ?_
    exact zi_wk (s_S_goes_b32 hd h) (And.intro rfl (And.intro rfl (And.intro rfl (And.intro rfl trivial))))
  · replace h := h.2 c42
    refine zi_iload_n (pc' := 22) rfl rfl rfl ?_
    refine zi_bipush (pc' := 24) rfl rfl (by decide) ?_
    refine zi_icmp_ge (x := 31) (pc' := 27) rfl rfl o2 (by decide) (fun c41 => ?_) (fun c41 => ?_)
    · replace h := h.1 c41
      refine zi_iconst (pc' := 32) rfl rfl ?_
      exact zi_wk (s_S_goes_b32 hd h) (And.intro rfl (And.intro rfl (And.intro rfl (And.intro rfl trivial))))
    · replace h := h.2 c41
      refine zi_iconst (pc' := 28) rfl rfl ?_
      refine zi_goto (x := 32) rfl ?_
      exact zi_wk (s_S_goes_b32 hd h) (And.intro rfl (And.intro rfl (And.intro rfl (And.intro rfl trivial))))
set_option maxRecDepth 100000 in
theorem s_S_goes {E : sx_E} {d : Nat} (hd : 8 ≤ d) {l1 : Int} {l2 : Int} {g : zi_M} {Q : Int → zi_M → Prop} (h : w_S_goes l1 l2 g Q) : zi_S E d 120 [.ref 0, zi_i l1, zi_i l2] g (zi_Q Q) := by
  refine zi_Sof jf_120 [some (.ref 0), some (zi_i l1), some (zi_i l2), none, none, none] rfl (And.intro rfl (And.intro rfl (And.intro rfl trivial))) ?_
  unfold w_S_goes at h
  refine zi_iload_n (pc' := 1) rfl rfl rfl ?_
  obtain ⟨o1, h⟩ := h
  refine zi_if_lt (x := 13) (pc' := 4) rfl rfl o1  (fun c44 => ?_) (fun c44 => ?_)
  · replace h := h.1 c44
    refine zi_iconst (pc' := 14) rfl rfl ?_
    exact zi_wk (s_S_goes_b14 hd h) (And.intro rfl (And.intro rfl (And.intro rfl trivial)))
  · replace h := h.2 c44
    refine zi_iload_n (pc' := 5) rfl rfl rfl ?_
    refine zi_iconst (pc' := 6) rfl rfl ?_
    refine zi_icmp_gt (x := 13) (pc' := 9) rfl rfl o1 (by decide) (fun c43 => ?_) (fun c43 => ?_)
    · replace h := h.1 c43
      refine zi_iconst (pc' := 14) rfl rfl ?_
      exact zi_wk (s_S_goes_b14 hd h) (And.intro rfl (And.intro rfl (And.intro rfl trivial)))
    · replace h := h.2 c43
      refine zi_iconst (pc' := 10) rfl rfl ?_
      refine zi_goto (x := 14) rfl ?_
      exact zi_wk (s_S_goes_b14 hd h) (And.intro rfl (And.intro rfl (And.intro rfl trivial)))
-- SpoutNewsModel.thinks()V
noncomputable def w_M_thinks_l2 (K27 : zi_M → Prop) (Q : Int → zi_M → Prop) : Nat → Int → zi_M → Prop
  | 0, _, _ => False
  | f + 1, l1, g => (zi_r l1 ∧ ((264 ≤ l1 → K27 g) ∧ (l1 < 264 → ((0 ≤ l1 ∧ l1 < 264) ∧ (∀ g3, g3 = zi_u g 217 l1 (g 215 l1) → w_M_thinks_l2 K27 Q f (l1 + 1) g3)))))
noncomputable def w_M_thinks (g : zi_M) (Q : Int → zi_M → Prop) : Prop := (∃ f7, w_M_thinks_l2 (fun g5 => (∀ g6, g6 = zi_u g5 214 5 1 → Q 0 g6)) Q f7 0 g)
set_option maxRecDepth 100000 in
theorem s_M_thinks_l2_r {E : sx_E} {d : Nat} (hd : 1 ≤ d) {K27 : zi_M → Prop} {Q : Int → zi_M → Prop} (hK27 : ∀ (g : zi_M), K27 g → zi_W E d 272 27 [some (.ref 214), none] [] g (zi_Qv Q)) : ∀ (f : Nat) {l1 : Int} {g : zi_M}, w_M_thinks_l2 K27 Q f l1 g → zi_W E d 272 2 [some (.ref 214), some (zi_i l1)] [] g (zi_Qv Q)
  | 0, _, _, h => False.elim h
  | f + 1, l1, g, h => by
    refine zi_iload_n (pc' := 3) rfl rfl rfl ?_
    refine zi_sipush (pc' := 6) rfl rfl (by decide) ?_
    obtain ⟨o1, h⟩ := h
    refine zi_icmp_ge (x := 27) (pc' := 9) rfl rfl o1 (by decide) (fun c4 => ?_) (fun c4 => ?_)
    · replace h := h.1 c4
      exact zi_wk (hK27 _ h) (And.intro rfl trivial)
    · replace h := h.2 c4
      refine zi_aload_n (pc' := 10) rfl rfl rfl ?_
      refine zi_getr (pc' := 13) rfl rfl rfl rfl rfl ?_
      refine zi_iload_n (pc' := 14) rfl rfl rfl ?_
      refine zi_aload_n (pc' := 15) rfl rfl rfl ?_
      refine zi_getr (pc' := 18) rfl rfl rfl rfl rfl ?_
      refine zi_iload_n (pc' := 19) rfl rfl rfl ?_
      obtain ⟨o2, h⟩ := h
      refine zi_iald (pc' := 20) rfl rfl rfl o2 ?_
      refine zi_iast (pc' := 21) rfl rfl rfl o2 ?_
      replace h := h _ rfl
      refine zi_iinc (pc' := 24) [some _, some _] rfl rfl rfl rfl ?_
      refine zi_goto (x := 2) rfl ?_
      exact zi_wk (s_M_thinks_l2_r hd hK27 f h) (And.intro rfl (And.intro rfl trivial))
set_option maxRecDepth 100000 in
theorem s_M_thinks_l2 {E : sx_E} {d : Nat} (hd : 1 ≤ d) {K27 : zi_M → Prop} {Q : Int → zi_M → Prop} {l1 : Int} {g : zi_M} (h : ∃ f, w_M_thinks_l2 K27 Q f l1 g) (hK27 : ∀ (g : zi_M), K27 g → zi_W E d 272 27 [some (.ref 214), none] [] g (zi_Qv Q)) : zi_W E d 272 2 [some (.ref 214), some (zi_i l1)] [] g (zi_Qv Q) := by
  obtain ⟨f, h⟩ := h
  exact s_M_thinks_l2_r hd hK27 f h
set_option maxRecDepth 100000 in
theorem s_M_thinks {E : sx_E} {d : Nat} (hd : 1 ≤ d) {g : zi_M} {Q : Int → zi_M → Prop} (h : w_M_thinks g Q) : zi_S E d 272 [.ref 214] g (zi_Qv Q) := by
  refine zi_Sof jf_272 [some (.ref 214), none] rfl (And.intro rfl trivial) ?_
  unfold w_M_thinks at h
  refine zi_iconst (pc' := 1) rfl rfl ?_
  refine zi_istore_n (pc' := 2) [some _, some _] rfl rfl rfl ?_
  refine zi_wk (s_M_thinks_l2 hd h (fun g5 h => ?_)) (And.intro rfl (And.intro rfl trivial))
  refine zi_aload_n (pc' := 28) rfl rfl rfl ?_
  refine zi_iconst (pc' := 29) rfl rfl ?_
  refine zi_putz (pc' := 32) 5 rfl rfl rfl rfl rfl (Or.inr rfl) ?_
  replace h := h _ rfl
  exact zi_vret rfl rfl h
-- SpoutNewsModel.endsThought()V
noncomputable def w_M_endsThought_l2 (K27 : zi_M → Prop) (Q : Int → zi_M → Prop) : Nat → Int → zi_M → Prop
  | 0, _, _ => False
  | f + 1, l1, g => (zi_r l1 ∧ ((264 ≤ l1 → K27 g) ∧ (l1 < 264 → ((0 ≤ l1 ∧ l1 < 264) ∧ (∀ g3, g3 = zi_u g 215 l1 (g 217 l1) → w_M_endsThought_l2 K27 Q f (l1 + 1) g3)))))
noncomputable def w_M_endsThought (g : zi_M) (Q : Int → zi_M → Prop) : Prop := (∃ f7, w_M_endsThought_l2 (fun g5 => (∀ g6, g6 = zi_u g5 214 5 0 → Q 0 g6)) Q f7 0 g)
set_option maxRecDepth 100000 in
theorem s_M_endsThought_l2_r {E : sx_E} {d : Nat} (hd : 1 ≤ d) {K27 : zi_M → Prop} {Q : Int → zi_M → Prop} (hK27 : ∀ (g : zi_M), K27 g → zi_W E d 273 27 [some (.ref 214), none] [] g (zi_Qv Q)) : ∀ (f : Nat) {l1 : Int} {g : zi_M}, w_M_endsThought_l2 K27 Q f l1 g → zi_W E d 273 2 [some (.ref 214), some (zi_i l1)] [] g (zi_Qv Q)
  | 0, _, _, h => False.elim h
  | f + 1, l1, g, h => by
    refine zi_iload_n (pc' := 3) rfl rfl rfl ?_
    refine zi_sipush (pc' := 6) rfl rfl (by decide) ?_
    obtain ⟨o1, h⟩ := h
    refine zi_icmp_ge (x := 27) (pc' := 9) rfl rfl o1 (by decide) (fun c4 => ?_) (fun c4 => ?_)
    · replace h := h.1 c4
      exact zi_wk (hK27 _ h) (And.intro rfl trivial)
    · replace h := h.2 c4
      refine zi_aload_n (pc' := 10) rfl rfl rfl ?_
      refine zi_getr (pc' := 13) rfl rfl rfl rfl rfl ?_
      refine zi_iload_n (pc' := 14) rfl rfl rfl ?_
      refine zi_aload_n (pc' := 15) rfl rfl rfl ?_
      refine zi_getr (pc' := 18) rfl rfl rfl rfl rfl ?_
      refine zi_iload_n (pc' := 19) rfl rfl rfl ?_
      obtain ⟨o2, h⟩ := h
      refine zi_iald (pc' := 20) rfl rfl rfl o2 ?_
      refine zi_iast (pc' := 21) rfl rfl rfl o2 ?_
      replace h := h _ rfl
      refine zi_iinc (pc' := 24) [some _, some _] rfl rfl rfl rfl ?_
      refine zi_goto (x := 2) rfl ?_
      exact zi_wk (s_M_endsThought_l2_r hd hK27 f h) (And.intro rfl (And.intro rfl trivial))
set_option maxRecDepth 100000 in
theorem s_M_endsThought_l2 {E : sx_E} {d : Nat} (hd : 1 ≤ d) {K27 : zi_M → Prop} {Q : Int → zi_M → Prop} {l1 : Int} {g : zi_M} (h : ∃ f, w_M_endsThought_l2 K27 Q f l1 g) (hK27 : ∀ (g : zi_M), K27 g → zi_W E d 273 27 [some (.ref 214), none] [] g (zi_Qv Q)) : zi_W E d 273 2 [some (.ref 214), some (zi_i l1)] [] g (zi_Qv Q) := by
  obtain ⟨f, h⟩ := h
  exact s_M_endsThought_l2_r hd hK27 f h
set_option maxRecDepth 100000 in
theorem s_M_endsThought {E : sx_E} {d : Nat} (hd : 1 ≤ d) {g : zi_M} {Q : Int → zi_M → Prop} (h : w_M_endsThought g Q) : zi_S E d 273 [.ref 214] g (zi_Qv Q) := by
  refine zi_Sof jf_273 [some (.ref 214), none] rfl (And.intro rfl trivial) ?_
  unfold w_M_endsThought at h
  refine zi_iconst (pc' := 1) rfl rfl ?_
  refine zi_istore_n (pc' := 2) [some _, some _] rfl rfl rfl ?_
  refine zi_wk (s_M_endsThought_l2 hd h (fun g5 h => ?_)) (And.intro rfl (And.intro rfl trivial))
  refine zi_aload_n (pc' := 28) rfl rfl rfl ?_
  refine zi_iconst (pc' := 29) rfl rfl ?_
  refine zi_putz (pc' := 32) 5 rfl rfl rfl rfl rfl (Or.inl rfl) ?_
  replace h := h _ rfl
  exact zi_vret rfl rfl h
-- SpoutNewsModel.goes(II)I
noncomputable def w_M_goes_l46 (l1 : Int) (K62 : zi_M → Prop) (Q : Int → zi_M → Prop) : Nat → Int → zi_M → Prop
  | 0, _, _ => False
  | f + 1, l3, g => (zi_r l3 ∧ zi_r l1 ∧ ((l1 ≤ l3 → K62 g) ∧ (l3 < l1 → w_M_goesBy g (fun v13 g14 => w_M_goes_l46 l1 K62 Q f (l3 + 1) g14))))
noncomputable def w_M_goes_l67 (K95 : Int → zi_M → Prop) (Q : Int → zi_M → Prop) : Nat → Int → Int → zi_M → Prop
  | 0, _, _, _ => False
  | f + 1, l3, l4, g => (zi_r l4 ∧ zi_r (g 214 6) ∧ (((g 214 6) ≤ l4 → K95 l3 g) ∧ (l4 < (g 214 6) → ((0 ≤ (26 + l4) ∧ (26 + l4) < 264) ∧ w_M_goes_l67 K95 Q f (zi_w (l3 + (g 215 (26 + l4)))) (l4 + 1) g))))
noncomputable def w_M_goes (l1 : Int) (l2 : Int) (g : zi_M) (Q : Int → zi_M → Prop) : Prop := (∀ g1, g1 = zi_u g 214 0 0 → w_M_isIn l1 1 60 g1 (fun v2 g3 => ((v2 = 0 → Q (-1) g3) ∧ (¬ v2 = 0 → w_M_isIn l2 0 2 g3 (fun v5 g6 => ((¬ v5 = 0 → w_M_thinks g6 (fun _ g9 => (∃ f42, w_M_goes_l46 l1 (fun g17 => (∃ f41, w_M_goes_l67 (fun k22 g23 => (zi_r l2 ∧ ((¬ l2 = 0 → ((¬ l2 = 1 → ((¬ l2 = 2 → ((0 ≤ ((258 + l2) - 10) ∧ ((258 + l2) - 10) < 264) ∧ w_M_endsThought g23 (fun _ g27 => Q (g23 215 ((258 + l2) - 10)) g27))) ∧ (l2 = 2 → w_M_endsThought g23 (fun _ g30 => Q k22 g30)))) ∧ (l2 = 1 → w_M_endsThought g23 (fun _ g34 => Q (g23 215 5) g34)))) ∧ (l2 = 0 → w_M_endsThought g23 (fun _ g38 => Q (g23 215 4) g38))))) Q f41 0 0 g17)) Q f42 0 g9))) ∧ (v5 = 0 → w_M_isIn l2 10 15 g6 (fun v43 g44 => ((¬ v43 = 0 → w_M_thinks g44 (fun _ g47 => (∃ f70, w_M_goes_l46 l1 (fun g49 => (∃ f69, w_M_goes_l67 (fun k50 g51 => (zi_r l2 ∧ ((¬ l2 = 0 → ((¬ l2 = 1 → ((¬ l2 = 2 → ((0 ≤ ((258 + l2) - 10) ∧ ((258 + l2) - 10) < 264) ∧ w_M_endsThought g51 (fun _ g55 => Q (g51 215 ((258 + l2) - 10)) g55))) ∧ (l2 = 2 → w_M_endsThought g51 (fun _ g58 => Q k50 g58)))) ∧ (l2 = 1 → w_M_endsThought g51 (fun _ g62 => Q (g51 215 5) g62)))) ∧ (l2 = 0 → w_M_endsThought g51 (fun _ g66 => Q (g51 215 4) g66))))) Q f69 0 0 g49)) Q f70 0 g47))) ∧ (v43 = 0 → Q (-1) g44))))))))))
set_option maxRecDepth 100000 in
theorem s_M_goes_l46_r {E : sx_E} {d : Nat} (hd : 10 ≤ d) {l1 : Int} {x2 : Int} {K62 : zi_M → Prop} {Q : Int → zi_M → Prop} (hK62 : ∀ (g : zi_M), K62 g → zi_W E d 271 62 [some (.ref 214), some (zi_i l1), some (zi_i x2), none, none] [] g (zi_Q Q)) : ∀ (f : Nat) {l3 : Int} {g : zi_M}, w_M_goes_l46 l1 K62 Q f l3 g → zi_W E d 271 46 [some (.ref 214), some (zi_i l1), some (zi_i x2), some (zi_i l3), none] [] g (zi_Q Q)
  | 0, _, _, h => False.elim h
  | f + 1, l3, g, h => by
    refine zi_iload_n (pc' := 47) rfl rfl rfl ?_
    refine zi_iload_n (pc' := 48) rfl rfl rfl ?_
    obtain ⟨o11, o12, h⟩ := h
    refine zi_icmp_ge (x := 62) (pc' := 51) rfl rfl o11 o12 (fun c16 => ?_) (fun c16 => ?_)
    · replace h := h.1 c16
      exact zi_wk (hK62 _ h) (And.intro rfl (And.intro rfl (And.intro rfl trivial)))
    · replace h := h.2 c16
      refine zi_aload_n (pc' := 52) rfl rfl rfl ?_
      refine zi_callV (d' := 9) (as := []) (pc' := 55) rfl rfl rfl rfl (Nat.lt_of_lt_of_le (by decide) hd) (s_M_goesBy (Nat.le_refl _) h) (zi_ki (fun v13 g14 h => ?_))
      refine zi_pop (pc' := 56) rfl rfl rfl ?_
      refine zi_iinc (pc' := 59) [some _, some _, some _, some _, none] rfl rfl rfl rfl ?_
      refine zi_goto (x := 46) rfl ?_
      exact zi_wk (s_M_goes_l46_r hd hK62 f h) (And.intro rfl (And.intro rfl (And.intro rfl (And.intro rfl trivial))))
set_option maxRecDepth 100000 in
theorem s_M_goes_l46 {E : sx_E} {d : Nat} (hd : 10 ≤ d) {l1 : Int} {x2 : Int} {K62 : zi_M → Prop} {Q : Int → zi_M → Prop} {l3 : Int} {g : zi_M} (h : ∃ f, w_M_goes_l46 l1 K62 Q f l3 g) (hK62 : ∀ (g : zi_M), K62 g → zi_W E d 271 62 [some (.ref 214), some (zi_i l1), some (zi_i x2), none, none] [] g (zi_Q Q)) : zi_W E d 271 46 [some (.ref 214), some (zi_i l1), some (zi_i x2), some (zi_i l3), none] [] g (zi_Q Q) := by
  obtain ⟨f, h⟩ := h
  exact s_M_goes_l46_r hd hK62 f h
set_option maxRecDepth 100000 in
theorem s_M_goes_l67_r {E : sx_E} {d : Nat} (hd : 10 ≤ d) {x2 : Int} {K95 : Int → zi_M → Prop} {Q : Int → zi_M → Prop} (hK95 : ∀ (k3 : Int) (g : zi_M), K95 k3 g → zi_W E d 271 95 [some (.ref 214), none, some (zi_i x2), some (zi_i k3), none] [] g (zi_Q Q)) : ∀ (f : Nat) {l3 : Int} {l4 : Int} {g : zi_M}, w_M_goes_l67 K95 Q f l3 l4 g → zi_W E d 271 67 [some (.ref 214), none, some (zi_i x2), some (zi_i l3), some (zi_i l4)] [] g (zi_Q Q)
  | 0, _, _, _, h => False.elim h
  | f + 1, l3, l4, g, h => by
    refine zi_iload (pc' := 69) rfl rfl rfl ?_
    refine zi_aload_n (pc' := 70) rfl rfl rfl ?_
    refine zi_geti (pc' := 73) 6 rfl rfl rfl rfl rfl rfl ?_
    obtain ⟨o18, o19, h⟩ := h
    refine zi_icmp_ge (x := 95) (pc' := 76) rfl rfl o18 o19 (fun c21 => ?_) (fun c21 => ?_)
    · replace h := h.1 c21
      exact zi_wk (hK95 _ _ h) (And.intro rfl (And.intro rfl (And.intro rfl trivial)))
    · replace h := h.2 c21
      refine zi_iload_n (pc' := 77) rfl rfl rfl ?_
      refine zi_aload_n (pc' := 78) rfl rfl rfl ?_
      refine zi_getr (pc' := 81) rfl rfl rfl rfl rfl ?_
      refine zi_bipush (pc' := 83) rfl rfl (by decide) ?_
      refine zi_iload (pc' := 85) rfl rfl rfl ?_
      refine zi_iadd (pc' := 86) rfl rfl ?_
      obtain ⟨o20, h⟩ := h
      refine zi_iald (pc' := 87) rfl rfl rfl o20 ?_
      refine zi_iadd (pc' := 88) rfl rfl ?_
      refine zi_wrap ?_
      refine zi_istore_n (pc' := 89) [some _, none, some _, some _, some _] rfl rfl rfl ?_
      refine zi_iinc (pc' := 92) [some _, none, some _, some _, some _] rfl rfl rfl rfl ?_
      refine zi_goto (x := 67) rfl ?_
      exact zi_wk (s_M_goes_l67_r hd hK95 f h) (And.intro rfl (And.intro rfl (And.intro rfl (And.intro rfl trivial))))
set_option maxRecDepth 100000 in
theorem s_M_goes_l67 {E : sx_E} {d : Nat} (hd : 10 ≤ d) {x2 : Int} {K95 : Int → zi_M → Prop} {Q : Int → zi_M → Prop} {l3 : Int} {l4 : Int} {g : zi_M} (h : ∃ f, w_M_goes_l67 K95 Q f l3 l4 g) (hK95 : ∀ (k3 : Int) (g : zi_M), K95 k3 g → zi_W E d 271 95 [some (.ref 214), none, some (zi_i x2), some (zi_i k3), none] [] g (zi_Q Q)) : zi_W E d 271 67 [some (.ref 214), none, some (zi_i x2), some (zi_i l3), some (zi_i l4)] [] g (zi_Q Q) := by
  obtain ⟨f, h⟩ := h
  exact s_M_goes_l67_r hd hK95 f h
set_option maxRecDepth 100000 in
theorem s_M_goes {E : sx_E} {d : Nat} (hd : 10 ≤ d) {l1 : Int} {l2 : Int} {g : zi_M} {Q : Int → zi_M → Prop} (h : w_M_goes l1 l2 g Q) : zi_S E d 271 [.ref 214, zi_i l1, zi_i l2] g (zi_Q Q) := by
  refine zi_Sof jf_271 [some (.ref 214), some (zi_i l1), some (zi_i l2), none, none] rfl (And.intro rfl (And.intro rfl (And.intro rfl trivial))) ?_
  unfold w_M_goes at h
  refine zi_aload_n (pc' := 1) rfl rfl rfl ?_
  refine zi_iconst (pc' := 2) rfl rfl ?_
  refine zi_puti (pc' := 5) 0 rfl rfl rfl rfl rfl  ?_
  replace h := h _ rfl
  refine zi_aload_n (pc' := 6) rfl rfl rfl ?_
  refine zi_iload_n (pc' := 7) rfl rfl rfl ?_
  refine zi_iconst (pc' := 8) rfl rfl ?_
  refine zi_bipush (pc' := 10) rfl rfl (by decide) ?_
  refine zi_callV (d' := 1) (as := [_, _, _]) (pc' := 13) rfl rfl rfl rfl (Nat.lt_of_lt_of_le (by decide) hd) (s_M_isIn (Nat.le_refl _) h) (zi_kb (fun v2 g3 b4 h => ?_))
  refine zi_if_eq (x := 38) (pc' := 16) rfl rfl (zi_r_bit b4)  (fun c73 => ?_) (fun c73 => ?_)
  · replace h := h.1 c73
    refine zi_iconst (pc' := 39) rfl rfl ?_
    exact zi_iret rfl rfl h
  · replace h := h.2 c73
    refine zi_aload_n (pc' := 17) rfl rfl rfl ?_
    refine zi_iload_n (pc' := 18) rfl rfl rfl ?_
    refine zi_iconst (pc' := 19) rfl rfl ?_
    refine zi_iconst (pc' := 20) rfl rfl ?_
    refine zi_callV (d' := 1) (as := [_, _, _]) (pc' := 23) rfl rfl rfl rfl (Nat.lt_of_lt_of_le (by decide) hd) (s_M_isIn (Nat.le_refl _) h) (zi_kb (fun v5 g6 b7 h => ?_))
    refine zi_if_ne (x := 40) (pc' := 26) rfl rfl (zi_r_bit b7)  (fun c72 => ?_) (fun c72 => ?_)
    · replace h := h.1 c72
      refine zi_aload_n (pc' := 41) rfl rfl rfl ?_
      refine zi_callV (d' := 1) (as := []) (pc' := 44) rfl rfl rfl rfl (Nat.lt_of_lt_of_le (by decide) hd) (s_M_thinks (Nat.le_refl _) h) (zi_kv (fun g9 h => ?_))
      refine zi_iconst (pc' := 45) rfl rfl ?_
      refine zi_istore_n (pc' := 46) [some _, some _, some _, some _, none] rfl rfl rfl ?_
      refine zi_wk (s_M_goes_l46 hd h (fun g17 h => ?_)) (And.intro rfl (And.intro rfl (And.intro rfl (And.intro rfl trivial))))
      refine zi_iconst (pc' := 63) rfl rfl ?_
      refine zi_istore_n (pc' := 64) [some _, some _, some _, some _, none] rfl rfl rfl ?_
      refine zi_iconst (pc' := 65) rfl rfl ?_
      refine zi_istore (pc' := 67) [some _, some _, some _, some _, some _] rfl rfl rfl ?_
      refine zi_wk (s_M_goes_l67 hd h (fun k22 g23 h => ?_)) (And.intro rfl (And.intro rfl (And.intro rfl (And.intro rfl trivial))))
      refine zi_iload_n (pc' := 96) rfl rfl rfl ?_
      obtain ⟨o24, h⟩ := h
      refine zi_if_ne (x := 108) (pc' := 99) rfl rfl o24  (fun c40 => ?_) (fun c40 => ?_)
      · replace h := h.1 c40
        refine zi_iload_n (pc' := 109) rfl rfl rfl ?_
        refine zi_iconst (pc' := 110) rfl rfl ?_
        refine zi_icmp_ne (x := 122) (pc' := 113) rfl rfl o24 (by decide) (fun c36 => ?_) (fun c36 => ?_)
        · replace h := h.1 c36
          refine zi_iload_n (pc' := 123) rfl rfl rfl ?_
          refine zi_iconst (pc' := 124) rfl rfl ?_
          refine zi_icmp_ne (x := 131) (pc' := 127) rfl rfl o24 (by decide) (fun c32 => ?_) (fun c32 => ?_)
          · replace h := h.1 c32
            refine zi_aload_n (pc' := 132) rfl rfl rfl ?_
            refine zi_getr (pc' := 135) rfl rfl rfl rfl rfl ?_
            refine zi_sipush (pc' := 138) rfl rfl (by decide) ?_
            refine zi_iload_n (pc' := 139) rfl rfl rfl ?_
            refine zi_iadd (pc' := 140) rfl rfl ?_
            refine zi_bipush (pc' := 142) rfl rfl (by decide) ?_
            refine zi_isub (pc' := 143) rfl rfl ?_
            obtain ⟨o25, h⟩ := h
            refine zi_iald (pc' := 144) rfl rfl rfl o25 ?_
            refine zi_istore (pc' := 146) [some _, none, some _, some _, some _] rfl rfl rfl ?_
            refine zi_aload_n (pc' := 147) rfl rfl rfl ?_
            refine zi_callV (d' := 1) (as := []) (pc' := 150) rfl rfl rfl rfl (Nat.lt_of_lt_of_le (by decide) hd) (s_M_endsThought (Nat.le_refl _) h) (zi_kv (fun g27 h => ?_))
            refine zi_iload (pc' := 152) rfl rfl rfl ?_
            exact zi_iret rfl rfl h
          · replace h := h.2 c32
            refine zi_iload_n (pc' := 128) rfl rfl rfl ?_
            refine zi_goto (x := 144) rfl ?_
            refine zi_istore (pc' := 146) [some _, none, some _, some _, some _] rfl rfl rfl ?_
            refine zi_aload_n (pc' := 147) rfl rfl rfl ?_
            refine zi_callV (d' := 1) (as := []) (pc' := 150) rfl rfl rfl rfl (Nat.lt_of_lt_of_le (by decide) hd) (s_M_endsThought (Nat.le_refl _) h) (zi_kv (fun g30 h => ?_))
            refine zi_iload (pc' := 152) rfl rfl rfl ?_
            exact zi_iret rfl rfl h
        · replace h := h.2 c36
          refine zi_aload_n (pc' := 114) rfl rfl rfl ?_
          refine zi_getr (pc' := 117) rfl rfl rfl rfl rfl ?_
          refine zi_iconst (pc' := 118) rfl rfl ?_
          refine zi_iald (pc' := 119) rfl rfl rfl (by decide) ?_
          refine zi_goto (x := 144) rfl ?_
          refine zi_istore (pc' := 146) [some _, none, some _, some _, some _] rfl rfl rfl ?_
          refine zi_aload_n (pc' := 147) rfl rfl rfl ?_
          refine zi_callV (d' := 1) (as := []) (pc' := 150) rfl rfl rfl rfl (Nat.lt_of_lt_of_le (by decide) hd) (s_M_endsThought (Nat.le_refl _) h) (zi_kv (fun g34 h => ?_))
          refine zi_iload (pc' := 152) rfl rfl rfl ?_
          exact zi_iret rfl rfl h
      · replace h := h.2 c40
        refine zi_aload_n (pc' := 100) rfl rfl rfl ?_
        refine zi_getr (pc' := 103) rfl rfl rfl rfl rfl ?_
        refine zi_iconst (pc' := 104) rfl rfl ?_
        refine zi_iald (pc' := 105) rfl rfl rfl (by decide) ?_
        refine zi_goto (x := 144) rfl ?_
        refine zi_istore (pc' := 146) [some _, none, some _, some _, some _] rfl rfl rfl ?_
        refine zi_aload_n (pc' := 147) rfl rfl rfl ?_
        refine zi_callV (d' := 1) (as := []) (pc' := 150) rfl rfl rfl rfl (Nat.lt_of_lt_of_le (by decide) hd) (s_M_endsThought (Nat.le_refl _) h) (zi_kv (fun g38 h => ?_))
        refine zi_iload (pc' := 152) rfl rfl rfl ?_
        exact zi_iret rfl rfl h
    · replace h := h.2 c72
      refine zi_aload_n (pc' := 27) rfl rfl rfl ?_
      refine zi_iload_n (pc' := 28) rfl rfl rfl ?_
      refine zi_bipush (pc' := 30) rfl rfl (by decide) ?_
      refine zi_bipush (pc' := 32) rfl rfl (by decide) ?_
      refine zi_callV (d' := 1) (as := [_, _, _]) (pc' := 35) rfl rfl rfl rfl (Nat.lt_of_lt_of_le (by decide) hd) (s_M_isIn (Nat.le_refl _) h) (zi_kb (fun v43 g44 b45 h => ?_))
      refine zi_if_ne (x := 40) (pc' := 38) rfl rfl (zi_r_bit b45)  (fun c71 => ?_) (fun c71 => ?_)
      · replace h := h.1 c71
        refine zi_aload_n (pc' := 41) rfl rfl rfl ?_
        refine zi_callV (d' := 1) (as := []) (pc' := 44) rfl rfl rfl rfl (Nat.lt_of_lt_of_le (by decide) hd) (s_M_thinks (Nat.le_refl _) h) (zi_kv (fun g47 h => ?_))
        refine zi_iconst (pc' := 45) rfl rfl ?_
        refine zi_istore_n (pc' := 46) [some _, some _, some _, some _, none] rfl rfl rfl ?_
        refine zi_wk (s_M_goes_l46 hd h (fun g49 h => ?_)) (And.intro rfl (And.intro rfl (And.intro rfl (And.intro rfl trivial))))
        refine zi_iconst (pc' := 63) rfl rfl ?_
        refine zi_istore_n (pc' := 64) [some _, some _, some _, some _, none] rfl rfl rfl ?_
        refine zi_iconst (pc' := 65) rfl rfl ?_
        refine zi_istore (pc' := 67) [some _, some _, some _, some _, some _] rfl rfl rfl ?_
        refine zi_wk (s_M_goes_l67 hd h (fun k50 g51 h => ?_)) (And.intro rfl (And.intro rfl (And.intro rfl (And.intro rfl trivial))))
        refine zi_iload_n (pc' := 96) rfl rfl rfl ?_
        obtain ⟨o52, h⟩ := h
        refine zi_if_ne (x := 108) (pc' := 99) rfl rfl o52  (fun c68 => ?_) (fun c68 => ?_)
        · replace h := h.1 c68
          refine zi_iload_n (pc' := 109) rfl rfl rfl ?_
          refine zi_iconst (pc' := 110) rfl rfl ?_
          refine zi_icmp_ne (x := 122) (pc' := 113) rfl rfl o52 (by decide) (fun c64 => ?_) (fun c64 => ?_)
          · replace h := h.1 c64
            refine zi_iload_n (pc' := 123) rfl rfl rfl ?_
            refine zi_iconst (pc' := 124) rfl rfl ?_
            refine zi_icmp_ne (x := 131) (pc' := 127) rfl rfl o52 (by decide) (fun c60 => ?_) (fun c60 => ?_)
            · replace h := h.1 c60
              refine zi_aload_n (pc' := 132) rfl rfl rfl ?_
              refine zi_getr (pc' := 135) rfl rfl rfl rfl rfl ?_
              refine zi_sipush (pc' := 138) rfl rfl (by decide) ?_
              refine zi_iload_n (pc' := 139) rfl rfl rfl ?_
              refine zi_iadd (pc' := 140) rfl rfl ?_
              refine zi_bipush (pc' := 142) rfl rfl (by decide) ?_
              refine zi_isub (pc' := 143) rfl rfl ?_
              obtain ⟨o53, h⟩ := h
              refine zi_iald (pc' := 144) rfl rfl rfl o53 ?_
              refine zi_istore (pc' := 146) [some _, none, some _, some _, some _] rfl rfl rfl ?_
              refine zi_aload_n (pc' := 147) rfl rfl rfl ?_
              refine zi_callV (d' := 1) (as := []) (pc' := 150) rfl rfl rfl rfl (Nat.lt_of_lt_of_le (by decide) hd) (s_M_endsThought (Nat.le_refl _) h) (zi_kv (fun g55 h => ?_))
              refine zi_iload (pc' := 152) rfl rfl rfl ?_
              exact zi_iret rfl rfl h
            · replace h := h.2 c60
              refine zi_iload_n (pc' := 128) rfl rfl rfl ?_
              refine zi_goto (x := 144) rfl ?_
              refine zi_istore (pc' := 146) [some _, none, some _, some _, some _] rfl rfl rfl ?_
              refine zi_aload_n (pc' := 147) rfl rfl rfl ?_
              refine zi_callV (d' := 1) (as := []) (pc' := 150) rfl rfl rfl rfl (Nat.lt_of_lt_of_le (by decide) hd) (s_M_endsThought (Nat.le_refl _) h) (zi_kv (fun g58 h => ?_))
              refine zi_iload (pc' := 152) rfl rfl rfl ?_
              exact zi_iret rfl rfl h
          · replace h := h.2 c64
            refine zi_aload_n (pc' := 114) rfl rfl rfl ?_
            refine zi_getr (pc' := 117) rfl rfl rfl rfl rfl ?_
            refine zi_iconst (pc' := 118) rfl rfl ?_
            refine zi_iald (pc' := 119) rfl rfl rfl (by decide) ?_
            refine zi_goto (x := 144) rfl ?_
            refine zi_istore (pc' := 146) [some _, none, some _, some _, some _] rfl rfl rfl ?_
            refine zi_aload_n (pc' := 147) rfl rfl rfl ?_
            refine zi_callV (d' := 1) (as := []) (pc' := 150) rfl rfl rfl rfl (Nat.lt_of_lt_of_le (by decide) hd) (s_M_endsThought (Nat.le_refl _) h) (zi_kv (fun g62 h => ?_))
            refine zi_iload (pc' := 152) rfl rfl rfl ?_
            exact zi_iret rfl rfl h
        · replace h := h.2 c68
          refine zi_aload_n (pc' := 100) rfl rfl rfl ?_
          refine zi_getr (pc' := 103) rfl rfl rfl rfl rfl ?_
          refine zi_iconst (pc' := 104) rfl rfl ?_
          refine zi_iald (pc' := 105) rfl rfl rfl (by decide) ?_
          refine zi_goto (x := 144) rfl ?_
          refine zi_istore (pc' := 146) [some _, none, some _, some _, some _] rfl rfl rfl ?_
          refine zi_aload_n (pc' := 147) rfl rfl rfl ?_
          refine zi_callV (d' := 1) (as := []) (pc' := 150) rfl rfl rfl rfl (Nat.lt_of_lt_of_le (by decide) hd) (s_M_endsThought (Nat.le_refl _) h) (zi_kv (fun g66 h => ?_))
          refine zi_iload (pc' := 152) rfl rfl rfl ?_
          exact zi_iret rfl rfl h
      · replace h := h.2 c71
        refine zi_iconst (pc' := 39) rfl rfl ?_
        exact zi_iret rfl rfl h
-- SpoutNews.isWord(I)Z
noncomputable def w_S_isWord (l0 : Int) (g : zi_M) (Q : Int → zi_M → Prop) : Prop := (zi_r l0 ∧ ((l0 < 0 → Q 0 g) ∧ (0 ≤ l0 → ((16 ≤ l0 → Q 0 g) ∧ (l0 < 16 → Q 1 g)))))
set_option maxRecDepth 100000 in
theorem s_S_isWord {E : sx_E} {d : Nat} (hd : 1 ≤ d) {l0 : Int} {g : zi_M} {Q : Int → zi_M → Prop} (h : w_S_isWord l0 g Q) : zi_S E d 123 [zi_i l0] g (zi_Qb Q) := by
  refine zi_Sof jf_123 [some (zi_i l0)] rfl (And.intro rfl trivial) ?_
  unfold w_S_isWord at h
  refine zi_iload_n (pc' := 1) rfl rfl rfl ?_
  obtain ⟨o1, h⟩ := h
  refine zi_if_lt (x := 14) (pc' := 4) rfl rfl o1  (fun c3 => ?_) (fun c3 => ?_)
  · replace h := h.1 c3
    refine zi_iconst (pc' := 15) rfl rfl ?_
    exact zi_zret rfl rfl (Or.inl rfl) h
  · replace h := h.2 c3
    refine zi_iload_n (pc' := 5) rfl rfl rfl ?_
    refine zi_bipush (pc' := 7) rfl rfl (by decide) ?_
    refine zi_icmp_ge (x := 14) (pc' := 10) rfl rfl o1 (by decide) (fun c2 => ?_) (fun c2 => ?_)
    · replace h := h.1 c2
      refine zi_iconst (pc' := 15) rfl rfl ?_
      exact zi_zret rfl rfl (Or.inl rfl) h
    · replace h := h.2 c2
      refine zi_iconst (pc' := 11) rfl rfl ?_
      refine zi_goto (x := 15) rfl ?_
      exact zi_zret rfl rfl (Or.inr rfl) h
-- SpoutNews$Thought.reach(LSpoutNews$Texts;I)I
noncomputable def w_Thought_reach_l8 (K42 : Int → zi_M → Prop) (Q : Int → zi_M → Prop) : Nat → Int → Int → Int → zi_M → Prop
  | 0, _, _, _, _ => False
  | f + 1, l3, l4, l5, g => (zi_r l5 ∧ ((10 ≤ l5 → K42 l3 g) ∧ (l5 < 10 → (zi_r l4 ∧ ((l4 = (-1) → K42 l3 g) ∧ (¬ l4 = (-1) → w_Texts_gutterOf l4 g (fun v3 g4 => w_Thought_reach_l8 K42 Q f (zi_or l3 (zi_shl 1 l4)) v3 (l5 + 1) g4)))))))
noncomputable def w_Thought_reach (l2 : Int) (g : zi_M) (Q : Int → zi_M → Prop) : Prop := (∃ f10, w_Thought_reach_l8 (fun k8 g9 => Q k8 g9) Q f10 0 l2 0 g)
set_option maxRecDepth 100000 in
theorem s_Thought_reach_l8_r {E : sx_E} {d : Nat} (hd : 2 ≤ d) {K42 : Int → zi_M → Prop} {Q : Int → zi_M → Prop} (hK42 : ∀ (k3 : Int) (g : zi_M), K42 k3 g → zi_W E d 125 42 [none, some (.ref 19), none, some (zi_i k3), none, none] [] g (zi_Q Q)) : ∀ (f : Nat) {l3 : Int} {l4 : Int} {l5 : Int} {g : zi_M}, w_Thought_reach_l8 K42 Q f l3 l4 l5 g → zi_W E d 125 8 [none, some (.ref 19), none, some (zi_i l3), some (zi_i l4), some (zi_i l5)] [] g (zi_Q Q)
  | 0, _, _, _, _, h => False.elim h
  | f + 1, l3, l4, l5, g, h => by
    refine zi_iload (pc' := 10) rfl rfl rfl ?_
    refine zi_bipush (pc' := 12) rfl rfl (by decide) ?_
    obtain ⟨o1, h⟩ := h
    refine zi_icmp_ge (x := 42) (pc' := 15) rfl rfl o1 (by decide) (fun c7 => ?_) (fun c7 => ?_)
    · replace h := h.1 c7
      exact zi_wk (hK42 _ _ h) (And.intro rfl (And.intro rfl trivial))
    · replace h := h.2 c7
      refine zi_iload (pc' := 17) rfl rfl rfl ?_
      refine zi_iconst (pc' := 18) rfl rfl ?_
      obtain ⟨o2, h⟩ := h
      refine zi_icmp_eq (x := 42) (pc' := 21) rfl rfl o2 (by decide) (fun c6 => ?_) (fun c6 => ?_)
      · replace h := h.1 c6
        exact zi_wk (hK42 _ _ h) (And.intro rfl (And.intro rfl trivial))
      · replace h := h.2 c6
        refine zi_iload_n (pc' := 22) rfl rfl rfl ?_
        refine zi_iconst (pc' := 23) rfl rfl ?_
        refine zi_iload (pc' := 25) rfl rfl rfl ?_
        refine zi_ishl (pc' := 26) rfl rfl ?_
        refine zi_ior (pc' := 27) rfl rfl ?_
        refine zi_istore_n (pc' := 28) [none, some _, none, some _, some _, some _] rfl rfl rfl ?_
        refine zi_aload_n (pc' := 29) rfl rfl rfl ?_
        refine zi_iload (pc' := 31) rfl rfl rfl ?_
        refine zi_callV (d' := 1) (as := [_]) (pc' := 34) rfl rfl rfl rfl (Nat.lt_of_lt_of_le (by decide) hd) (s_Texts_gutterOf (Nat.le_refl _) h) (zi_ki (fun v3 g4 h => ?_))
        refine zi_istore (pc' := 36) [none, some _, none, some _, some _, some _] rfl rfl rfl ?_
        refine zi_iinc (pc' := 39) [none, some _, none, some _, some _, some _] rfl rfl rfl rfl ?_
        refine zi_goto (x := 8) rfl ?_
        exact zi_wk (s_Thought_reach_l8_r hd hK42 f h) (And.intro rfl (And.intro rfl (And.intro rfl (And.intro rfl trivial))))
set_option maxRecDepth 100000 in
theorem s_Thought_reach_l8 {E : sx_E} {d : Nat} (hd : 2 ≤ d) {K42 : Int → zi_M → Prop} {Q : Int → zi_M → Prop} {l3 : Int} {l4 : Int} {l5 : Int} {g : zi_M} (h : ∃ f, w_Thought_reach_l8 K42 Q f l3 l4 l5 g) (hK42 : ∀ (k3 : Int) (g : zi_M), K42 k3 g → zi_W E d 125 42 [none, some (.ref 19), none, some (zi_i k3), none, none] [] g (zi_Q Q)) : zi_W E d 125 8 [none, some (.ref 19), none, some (zi_i l3), some (zi_i l4), some (zi_i l5)] [] g (zi_Q Q) := by
  obtain ⟨f, h⟩ := h
  exact s_Thought_reach_l8_r hd hK42 f h
set_option maxRecDepth 100000 in
theorem s_Thought_reach {E : sx_E} {d : Nat} (hd : 2 ≤ d) {l2 : Int} {g : zi_M} {Q : Int → zi_M → Prop} (h : w_Thought_reach l2 g Q) : zi_S E d 125 [.ref 180, .ref 19, zi_i l2] g (zi_Q Q) := by
  refine zi_Sof jf_125 [some (.ref 180), some (.ref 19), some (zi_i l2), none, none, none] rfl (And.intro rfl (And.intro rfl (And.intro rfl trivial))) ?_
  unfold w_Thought_reach at h
  refine zi_iconst (pc' := 1) rfl rfl ?_
  refine zi_istore_n (pc' := 2) [some _, some _, some _, some _, none, none] rfl rfl rfl ?_
  refine zi_iload_n (pc' := 3) rfl rfl rfl ?_
  refine zi_istore (pc' := 5) [some _, some _, some _, some _, some _, none] rfl rfl rfl ?_
  refine zi_iconst (pc' := 6) rfl rfl ?_
  refine zi_istore (pc' := 8) [some _, some _, some _, some _, some _, some _] rfl rfl rfl ?_
  refine zi_wk (s_Thought_reach_l8 hd h (fun k8 g9 h => ?_)) (And.intro rfl (And.intro rfl (And.intro rfl (And.intro rfl trivial))))
  refine zi_iload_n (pc' := 43) rfl rfl rfl ?_
  exact zi_iret rfl rfl h
-- SpoutNews$Thought.tellers(LSpoutNews$World;LSpoutNews$Texts;II)I
noncomputable def w_Thought_tellers_l6 (l3 : Int) (l4 : Int) (K66 : Int → zi_M → Prop) (Q : Int → zi_M → Prop) : Nat → Int → Int → zi_M → Prop
  | 0, _, _, _ => False
  | f + 1, l5, l6, g => (zi_r l6 ∧ zi_r (g 2 11) ∧ (((g 2 11) ≤ l6 → K66 l5 g) ∧ (l6 < (g 2 11) → ((0 ≤ l6 ∧ l6 < 8) ∧ ((¬ (zi_and (zi_shr (g 10 l6) l3) 1) = 1 → w_Thought_tellers_l6 l3 l4 K66 Q f l5 (l6 + 1) g) ∧ ((zi_and (zi_shr (g 10 l6) l3) 1) = 1 → w_Thought_reach (g 11 l6) g (fun v4 g5 => ((¬ (zi_and (zi_shr v4 l4) 1) = 1 → w_Thought_tellers_l6 l3 l4 K66 Q f l5 (l6 + 1) g5) ∧ ((zi_and (zi_shr v4 l4) 1) = 1 → w_Thought_tellers_l6 l3 l4 K66 Q f (zi_or l5 (zi_shl 1 l6)) (l6 + 1) g5)))))))))
noncomputable def w_Thought_tellers (l3 : Int) (l4 : Int) (g : zi_M) (Q : Int → zi_M → Prop) : Prop := (∃ f12, w_Thought_tellers_l6 l3 l4 (fun k10 g11 => Q k10 g11) Q f12 0 0 g)
set_option maxRecDepth 100000 in
theorem s_Thought_tellers_l6_r {E : sx_E} {d : Nat} (hd : 3 ≤ d) {l3 : Int} {l4 : Int} {K66 : Int → zi_M → Prop} {Q : Int → zi_M → Prop} (hK66 : ∀ (k5 : Int) (g : zi_M), K66 k5 g → zi_W E d 124 66 [some (.ref 180), some (.ref 2), some (.ref 19), some (zi_i l3), some (zi_i l4), some (zi_i k5), none] [] g (zi_Q Q)) : ∀ (f : Nat) {l5 : Int} {l6 : Int} {g : zi_M}, w_Thought_tellers_l6 l3 l4 K66 Q f l5 l6 g → zi_W E d 124 6 [some (.ref 180), some (.ref 2), some (.ref 19), some (zi_i l3), some (zi_i l4), some (zi_i l5), some (zi_i l6)] [] g (zi_Q Q)
  | 0, _, _, _, h => False.elim h
  | f + 1, l5, l6, g, h => by
    refine zi_iload (pc' := 8) rfl rfl rfl ?_
    refine zi_aload_n (pc' := 9) rfl rfl rfl ?_
    refine zi_geti (pc' := 12) 11 rfl rfl rfl rfl rfl rfl ?_
    obtain ⟨o1, o2, h⟩ := h
    refine zi_icmp_ge (x := 66) (pc' := 15) rfl rfl o1 o2 (fun c9 => ?_) (fun c9 => ?_)
    · replace h := h.1 c9
      exact zi_wk (hK66 _ _ h) (And.intro rfl (And.intro rfl (And.intro rfl (And.intro rfl (And.intro rfl (And.intro rfl trivial))))))
    · replace h := h.2 c9
      refine zi_aload_n (pc' := 16) rfl rfl rfl ?_
      refine zi_getr (pc' := 19) rfl rfl rfl rfl rfl ?_
      refine zi_iload (pc' := 21) rfl rfl rfl ?_
      obtain ⟨o3, h⟩ := h
      refine zi_iald (pc' := 22) rfl rfl rfl o3 ?_
      refine zi_iload_n (pc' := 23) rfl rfl rfl ?_
      refine zi_ishr (pc' := 24) rfl rfl ?_
      refine zi_iconst (pc' := 25) rfl rfl ?_
      refine zi_iand (pc' := 26) rfl rfl ?_
      refine zi_iconst (pc' := 27) rfl rfl ?_
      refine zi_icmp_ne (x := 60) (pc' := 30) rfl rfl (zi_r_and _ _) (by decide) (fun c8 => ?_) (fun c8 => ?_)
      · replace h := h.1 c8
        refine zi_iinc (pc' := 63) [some _, some _, some _, some _, some _, some _, some _] rfl rfl rfl rfl ?_
        refine zi_goto (x := 6) rfl ?_
        exact zi_wk (s_Thought_tellers_l6_r hd hK66 f h) (And.intro rfl (And.intro rfl (And.intro rfl (And.intro rfl (And.intro rfl (And.intro rfl (And.intro rfl trivial)))))))
      · replace h := h.2 c8
        refine zi_aload_n (pc' := 31) rfl rfl rfl ?_
        refine zi_aload_n (pc' := 32) rfl rfl rfl ?_
        refine zi_aload_n (pc' := 33) rfl rfl rfl ?_
        refine zi_getr (pc' := 36) rfl rfl rfl rfl rfl ?_
        refine zi_iload (pc' := 38) rfl rfl rfl ?_
        refine zi_iald (pc' := 39) rfl rfl rfl o3 ?_
        refine zi_callV (d' := 2) (as := [_, _]) (pc' := 42) rfl rfl rfl rfl (Nat.lt_of_lt_of_le (by decide) hd) (s_Thought_reach (Nat.le_refl _) h) (zi_ki (fun v4 g5 h => ?_))
        refine zi_iload (pc' := 44) rfl rfl rfl ?_
        refine zi_ishr (pc' := 45) rfl rfl ?_
        refine zi_iconst (pc' := 46) rfl rfl ?_
        refine zi_iand (pc' := 47) rfl rfl ?_
        refine zi_iconst (pc' := 48) rfl rfl ?_
        refine zi_icmp_ne (x := 60) (pc' := 51) rfl rfl (zi_r_and _ _) (by decide) (fun c7 => ?_) (fun c7 => ?_)
        · replace h := h.1 c7
          refine zi_iinc (pc' := 63) [some _, some _, some _, some _, some _, some _, some _] rfl rfl rfl rfl ?_
          refine zi_goto (x := 6) rfl ?_
          exact zi_wk (s_Thought_tellers_l6_r hd hK66 f h) (And.intro rfl (And.intro rfl (And.intro rfl (And.intro rfl (And.intro rfl (And.intro rfl (And.intro rfl trivial)))))))
        · replace h := h.2 c7
          refine zi_iload (pc' := 53) rfl rfl rfl ?_
          refine zi_iconst (pc' := 54) rfl rfl ?_
          refine zi_iload (pc' := 56) rfl rfl rfl ?_
          refine zi_ishl (pc' := 57) rfl rfl ?_
          refine zi_ior (pc' := 58) rfl rfl ?_
          refine zi_istore (pc' := 60) [some _, some _, some _, some _, some _, some _, some _] rfl rfl rfl ?_
          refine zi_iinc (pc' := 63) [some _, some _, some _, some _, some _, some _, some _] rfl rfl rfl rfl ?_
          refine zi_goto (x := 6) rfl ?_
          exact zi_wk (s_Thought_tellers_l6_r hd hK66 f h) (And.intro rfl (And.intro rfl (And.intro rfl (And.intro rfl (And.intro rfl (And.intro rfl (And.intro rfl trivial)))))))
set_option maxRecDepth 100000 in
theorem s_Thought_tellers_l6 {E : sx_E} {d : Nat} (hd : 3 ≤ d) {l3 : Int} {l4 : Int} {K66 : Int → zi_M → Prop} {Q : Int → zi_M → Prop} {l5 : Int} {l6 : Int} {g : zi_M} (h : ∃ f, w_Thought_tellers_l6 l3 l4 K66 Q f l5 l6 g) (hK66 : ∀ (k5 : Int) (g : zi_M), K66 k5 g → zi_W E d 124 66 [some (.ref 180), some (.ref 2), some (.ref 19), some (zi_i l3), some (zi_i l4), some (zi_i k5), none] [] g (zi_Q Q)) : zi_W E d 124 6 [some (.ref 180), some (.ref 2), some (.ref 19), some (zi_i l3), some (zi_i l4), some (zi_i l5), some (zi_i l6)] [] g (zi_Q Q) := by
  obtain ⟨f, h⟩ := h
  exact s_Thought_tellers_l6_r hd hK66 f h
set_option maxRecDepth 100000 in
theorem s_Thought_tellers {E : sx_E} {d : Nat} (hd : 3 ≤ d) {l3 : Int} {l4 : Int} {g : zi_M} {Q : Int → zi_M → Prop} (h : w_Thought_tellers l3 l4 g Q) : zi_S E d 124 [.ref 180, .ref 2, .ref 19, zi_i l3, zi_i l4] g (zi_Q Q) := by
  refine zi_Sof jf_124 [some (.ref 180), some (.ref 2), some (.ref 19), some (zi_i l3), some (zi_i l4), none, none] rfl (And.intro rfl (And.intro rfl (And.intro rfl (And.intro rfl (And.intro rfl trivial))))) ?_
  unfold w_Thought_tellers at h
  refine zi_iconst (pc' := 1) rfl rfl ?_
  refine zi_istore (pc' := 3) [some _, some _, some _, some _, some _, some _, none] rfl rfl rfl ?_
  refine zi_iconst (pc' := 4) rfl rfl ?_
  refine zi_istore (pc' := 6) [some _, some _, some _, some _, some _, some _, some _] rfl rfl rfl ?_
  refine zi_wk (s_Thought_tellers_l6 hd h (fun k10 g11 h => ?_)) (And.intro rfl (And.intro rfl (And.intro rfl (And.intro rfl (And.intro rfl (And.intro rfl (And.intro rfl trivial)))))))
  refine zi_iload (pc' := 68) rfl rfl rfl ?_
  exact zi_iret rfl rfl h
-- SpoutNews.told(II)I
noncomputable def w_S_told (l1 : Int) (l2 : Int) (g : zi_M) (Q : Int → zi_M → Prop) : Prop := w_S_isWord l1 g (fun v1 g2 => ((v1 = 0 → Q (-1) g2) ∧ (¬ v1 = 0 → w_World_isSpout 2 l2 g2 (fun v4 g5 => ((¬ v4 = 0 → w_Thought_tellers l1 l2 g5 (fun v7 g8 => Q v7 g8)) ∧ (v4 = 0 → Q (-1) g5))))))
set_option maxRecDepth 100000 in
theorem s_S_told {E : sx_E} {d : Nat} (hd : 4 ≤ d) {l1 : Int} {l2 : Int} {g : zi_M} {Q : Int → zi_M → Prop} (h : w_S_told l1 l2 g Q) : zi_S E d 122 [.ref 0, zi_i l1, zi_i l2] g (zi_Q Q) := by
  refine zi_Sof jf_122 [some (.ref 0), some (zi_i l1), some (zi_i l2)] rfl (And.intro rfl (And.intro rfl (And.intro rfl trivial))) ?_
  unfold w_S_told at h
  refine zi_iload_n (pc' := 1) rfl rfl rfl ?_
  refine zi_callS (d' := 1) (as := [_]) (pc' := 4) rfl rfl rfl (Nat.lt_of_lt_of_le (by decide) hd) (s_S_isWord (Nat.le_refl _) h) (zi_kb (fun v1 g2 b3 h => ?_))
  refine zi_if_eq (x := 21) (pc' := 7) rfl rfl (zi_r_bit b3)  (fun c11 => ?_) (fun c11 => ?_)
  · replace h := h.1 c11
    refine zi_iconst (pc' := 22) rfl rfl ?_
    exact zi_iret rfl rfl h
  · replace h := h.2 c11
    refine zi_aload_n (pc' := 8) rfl rfl rfl ?_
    refine zi_getr (pc' := 11) rfl rfl rfl rfl rfl ?_
    refine zi_getr (pc' := 14) rfl rfl rfl rfl rfl ?_
    refine zi_iload_n (pc' := 15) rfl rfl rfl ?_
    refine zi_callV (d' := 1) (as := [_]) (pc' := 18) rfl rfl rfl rfl (Nat.lt_of_lt_of_le (by decide) hd) (s_World_isSpout (Nat.le_refl _) rfl h) (zi_kb (fun v4 g5 b6 h => ?_))
    refine zi_if_ne (x := 23) (pc' := 21) rfl rfl (zi_r_bit b6)  (fun c10 => ?_) (fun c10 => ?_)
    · replace h := h.1 c10
      refine zi_aload_n (pc' := 24) rfl rfl rfl ?_
      refine zi_getr (pc' := 27) rfl rfl rfl rfl rfl ?_
      refine zi_aload_n (pc' := 28) rfl rfl rfl ?_
      refine zi_getr (pc' := 31) rfl rfl rfl rfl rfl ?_
      refine zi_getr (pc' := 34) rfl rfl rfl rfl rfl ?_
      refine zi_aload_n (pc' := 35) rfl rfl rfl ?_
      refine zi_getr (pc' := 38) rfl rfl rfl rfl rfl ?_
      refine zi_getr (pc' := 41) rfl rfl rfl rfl rfl ?_
      refine zi_iload_n (pc' := 42) rfl rfl rfl ?_
      refine zi_iload_n (pc' := 43) rfl rfl rfl ?_
      refine zi_callV (d' := 3) (as := [_, _, _, _]) (pc' := 46) rfl rfl rfl rfl (Nat.lt_of_lt_of_le (by decide) hd) (s_Thought_tellers (Nat.le_refl _) h) (zi_ki (fun v7 g8 h => ?_))
      exact zi_iret rfl rfl h
    · replace h := h.2 c10
      refine zi_iconst (pc' := 22) rfl rfl ?_
      exact zi_iret rfl rfl h
-- SpoutNewsModel.passedFrom(I)I
noncomputable def w_M_passedFrom_l4 (K33 : Int → zi_M → Prop) (Q : Int → zi_M → Prop) : Nat → Int → Int → zi_M → Prop
  | 0, _, _, _ => False
  | f + 1, l2, l3, g => (zi_r l3 ∧ ((l3 = (-1) → K33 l2 g) ∧ (¬ l3 = (-1) → w_M_has l2 l3 g (fun v2 g3 => ((¬ v2 = 0 → K33 l2 g3) ∧ (v2 = 0 → w_M_into l3 g3 (fun v5 g6 => w_M_passedFrom_l4 K33 Q f (zi_or l2 (zi_shl 1 l3)) v5 g6)))))))
noncomputable def w_M_passedFrom (l1 : Int) (g : zi_M) (Q : Int → zi_M → Prop) : Prop := (∃ f12, w_M_passedFrom_l4 (fun k10 g11 => Q k10 g11) Q f12 0 l1 g)
set_option maxRecDepth 100000 in
theorem s_M_passedFrom_l4_r {E : sx_E} {d : Nat} (hd : 2 ≤ d) {K33 : Int → zi_M → Prop} {Q : Int → zi_M → Prop} (hK33 : ∀ (k2 : Int) (g : zi_M), K33 k2 g → zi_W E d 275 33 [some (.ref 214), none, some (zi_i k2), none] [] g (zi_Q Q)) : ∀ (f : Nat) {l2 : Int} {l3 : Int} {g : zi_M}, w_M_passedFrom_l4 K33 Q f l2 l3 g → zi_W E d 275 4 [some (.ref 214), none, some (zi_i l2), some (zi_i l3)] [] g (zi_Q Q)
  | 0, _, _, _, h => False.elim h
  | f + 1, l2, l3, g, h => by
    refine zi_iload_n (pc' := 5) rfl rfl rfl ?_
    refine zi_iconst (pc' := 6) rfl rfl ?_
    obtain ⟨o1, h⟩ := h
    refine zi_icmp_eq (x := 33) (pc' := 9) rfl rfl o1 (by decide) (fun c9 => ?_) (fun c9 => ?_)
    · replace h := h.1 c9
      exact zi_wk (hK33 _ _ h) (And.intro rfl (And.intro rfl trivial))
    · replace h := h.2 c9
      refine zi_aload_n (pc' := 10) rfl rfl rfl ?_
      refine zi_iload_n (pc' := 11) rfl rfl rfl ?_
      refine zi_iload_n (pc' := 12) rfl rfl rfl ?_
      refine zi_callV (d' := 1) (as := [_, _]) (pc' := 15) rfl rfl rfl rfl (Nat.lt_of_lt_of_le (by decide) hd) (s_M_has (Nat.le_refl _) h) (zi_kb (fun v2 g3 b4 h => ?_))
      refine zi_if_ne (x := 33) (pc' := 18) rfl rfl (zi_r_bit b4)  (fun c8 => ?_) (fun c8 => ?_)
      · replace h := h.1 c8
        exact zi_wk (hK33 _ _ h) (And.intro rfl (And.intro rfl trivial))
      · replace h := h.2 c8
        refine zi_iload_n (pc' := 19) rfl rfl rfl ?_
        refine zi_iconst (pc' := 20) rfl rfl ?_
        refine zi_iload_n (pc' := 21) rfl rfl rfl ?_
        refine zi_ishl (pc' := 22) rfl rfl ?_
        refine zi_ior (pc' := 23) rfl rfl ?_
        refine zi_istore_n (pc' := 24) [some _, none, some _, some _] rfl rfl rfl ?_
        refine zi_aload_n (pc' := 25) rfl rfl rfl ?_
        refine zi_iload_n (pc' := 26) rfl rfl rfl ?_
        refine zi_callV (d' := 1) (as := [_]) (pc' := 29) rfl rfl rfl rfl (Nat.lt_of_lt_of_le (by decide) hd) (s_M_into (Nat.le_refl _) h) (zi_ki (fun v5 g6 h => ?_))
        refine zi_istore_n (pc' := 30) [some _, none, some _, some _] rfl rfl rfl ?_
        refine zi_goto (x := 4) rfl ?_
        exact zi_wk (s_M_passedFrom_l4_r hd hK33 f h) (And.intro rfl (And.intro rfl (And.intro rfl trivial)))
set_option maxRecDepth 100000 in
theorem s_M_passedFrom_l4 {E : sx_E} {d : Nat} (hd : 2 ≤ d) {K33 : Int → zi_M → Prop} {Q : Int → zi_M → Prop} {l2 : Int} {l3 : Int} {g : zi_M} (h : ∃ f, w_M_passedFrom_l4 K33 Q f l2 l3 g) (hK33 : ∀ (k2 : Int) (g : zi_M), K33 k2 g → zi_W E d 275 33 [some (.ref 214), none, some (zi_i k2), none] [] g (zi_Q Q)) : zi_W E d 275 4 [some (.ref 214), none, some (zi_i l2), some (zi_i l3)] [] g (zi_Q Q) := by
  obtain ⟨f, h⟩ := h
  exact s_M_passedFrom_l4_r hd hK33 f h
set_option maxRecDepth 100000 in
theorem s_M_passedFrom {E : sx_E} {d : Nat} (hd : 2 ≤ d) {l1 : Int} {g : zi_M} {Q : Int → zi_M → Prop} (h : w_M_passedFrom l1 g Q) : zi_S E d 275 [.ref 214, zi_i l1] g (zi_Q Q) := by
  refine zi_Sof jf_275 [some (.ref 214), some (zi_i l1), none, none] rfl (And.intro rfl (And.intro rfl trivial)) ?_
  unfold w_M_passedFrom at h
  refine zi_iconst (pc' := 1) rfl rfl ?_
  refine zi_istore_n (pc' := 2) [some _, some _, some _, none] rfl rfl rfl ?_
  refine zi_iload_n (pc' := 3) rfl rfl rfl ?_
  refine zi_istore_n (pc' := 4) [some _, some _, some _, some _] rfl rfl rfl ?_
  refine zi_wk (s_M_passedFrom_l4 hd h (fun k10 g11 h => ?_)) (And.intro rfl (And.intro rfl (And.intro rfl trivial)))
  refine zi_iload_n (pc' := 34) rfl rfl rfl ?_
  exact zi_iret rfl rfl h
-- SpoutNewsModel.told(II)I
noncomputable def w_M_told_l31 (l1 : Int) (l2 : Int) (K111 : Int → zi_M → Prop) (Q : Int → zi_M → Prop) : Nat → Int → Int → zi_M → Prop
  | 0, _, _, _ => False
  | f + 1, l3, l4, g => (zi_r l4 ∧ zi_r (g 214 7) ∧ (((g 214 7) ≤ l4 → K111 l3 g) ∧ (l4 < (g 214 7) → ((0 ≤ (236 + l4) ∧ (236 + l4) < 264) ∧ w_M_has (g 215 (236 + l4)) l1 g (fun v11 g12 => ((v11 = 0 → w_M_told_l31 l1 l2 K111 Q f l3 (l4 + 1) g12) ∧ (¬ v11 = 0 → ((0 ≤ (244 + l4) ∧ (244 + l4) < 264) ∧ (zi_r (g12 215 (244 + l4)) ∧ (((g12 215 (244 + l4)) ≤ 0 → w_M_told_l31 l1 l2 K111 Q f l3 (l4 + 1) g12) ∧ (0 < (g12 215 (244 + l4)) → w_M_passedFrom ((g12 215 (244 + l4)) - 1) g12 (fun v16 g17 => w_M_has v16 l2 g17 (fun v19 g20 => ((v19 = 0 → w_M_told_l31 l1 l2 K111 Q f l3 (l4 + 1) g20) ∧ (¬ v19 = 0 → w_M_told_l31 l1 l2 K111 Q f (zi_or l3 (zi_shl 1 l4)) (l4 + 1) g20)))))))))))))))
noncomputable def w_M_told (l1 : Int) (l2 : Int) (g : zi_M) (Q : Int → zi_M → Prop) : Prop := (∀ g1, g1 = zi_u g 214 0 0 → w_M_isIn l1 0 15 g1 (fun v2 g3 => ((v2 = 0 → Q (-1) g3) ∧ (¬ v2 = 0 → w_M_isSpout l2 g3 (fun v5 g6 => ((¬ v5 = 0 → (∃ f28, w_M_told_l31 l1 l2 (fun k26 g27 => Q k26 g27) Q f28 0 0 g6)) ∧ (v5 = 0 → Q (-1) g6)))))))
set_option maxRecDepth 100000 in
theorem s_M_told_l31_r {E : sx_E} {d : Nat} (hd : 3 ≤ d) {l1 : Int} {l2 : Int} {K111 : Int → zi_M → Prop} {Q : Int → zi_M → Prop} (hK111 : ∀ (k3 : Int) (g : zi_M), K111 k3 g → zi_W E d 274 111 [some (.ref 214), some (zi_i l1), some (zi_i l2), some (zi_i k3), none] [] g (zi_Q Q)) : ∀ (f : Nat) {l3 : Int} {l4 : Int} {g : zi_M}, w_M_told_l31 l1 l2 K111 Q f l3 l4 g → zi_W E d 274 31 [some (.ref 214), some (zi_i l1), some (zi_i l2), some (zi_i l3), some (zi_i l4)] [] g (zi_Q Q)
  | 0, _, _, _, h => False.elim h
  | f + 1, l3, l4, g, h => by
    refine zi_iload (pc' := 33) rfl rfl rfl ?_
    refine zi_aload_n (pc' := 34) rfl rfl rfl ?_
    refine zi_geti (pc' := 37) 7 rfl rfl rfl rfl rfl rfl ?_
    obtain ⟨o8, o9, h⟩ := h
    refine zi_icmp_ge (x := 111) (pc' := 40) rfl rfl o8 o9 (fun c25 => ?_) (fun c25 => ?_)
    · replace h := h.1 c25
      exact zi_wk (hK111 _ _ h) (And.intro rfl (And.intro rfl (And.intro rfl (And.intro rfl trivial))))
    · replace h := h.2 c25
      refine zi_aload_n (pc' := 41) rfl rfl rfl ?_
      refine zi_aload_n (pc' := 42) rfl rfl rfl ?_
      refine zi_getr (pc' := 45) rfl rfl rfl rfl rfl ?_
      refine zi_sipush (pc' := 48) rfl rfl (by decide) ?_
      refine zi_iload (pc' := 50) rfl rfl rfl ?_
      refine zi_iadd (pc' := 51) rfl rfl ?_
      obtain ⟨o10, h⟩ := h
      refine zi_iald (pc' := 52) rfl rfl rfl o10 ?_
      refine zi_iload_n (pc' := 53) rfl rfl rfl ?_
      refine zi_callV (d' := 1) (as := [_, _]) (pc' := 56) rfl rfl rfl rfl (Nat.lt_of_lt_of_le (by decide) hd) (s_M_has (Nat.le_refl _) h) (zi_kb (fun v11 g12 b13 h => ?_))
      refine zi_if_eq (x := 105) (pc' := 59) rfl rfl (zi_r_bit b13)  (fun c24 => ?_) (fun c24 => ?_)
      · replace h := h.1 c24
        refine zi_iinc (pc' := 108) [some _, some _, some _, some _, some _] rfl rfl rfl rfl ?_
        refine zi_goto (x := 31) rfl ?_
        exact zi_wk (s_M_told_l31_r hd hK111 f h) (And.intro rfl (And.intro rfl (And.intro rfl (And.intro rfl (And.intro rfl trivial)))))
      · replace h := h.2 c24
        refine zi_aload_n (pc' := 60) rfl rfl rfl ?_
        refine zi_getr (pc' := 63) rfl rfl rfl rfl rfl ?_
        refine zi_sipush (pc' := 66) rfl rfl (by decide) ?_
        refine zi_iload (pc' := 68) rfl rfl rfl ?_
        refine zi_iadd (pc' := 69) rfl rfl ?_
        obtain ⟨o14, h⟩ := h
        refine zi_iald (pc' := 70) rfl rfl rfl o14 ?_
        obtain ⟨o15, h⟩ := h
        refine zi_if_le (x := 105) (pc' := 73) rfl rfl o15  (fun c23 => ?_) (fun c23 => ?_)
        · replace h := h.1 c23
          refine zi_iinc (pc' := 108) [some _, some _, some _, some _, some _] rfl rfl rfl rfl ?_
          refine zi_goto (x := 31) rfl ?_
          exact zi_wk (s_M_told_l31_r hd hK111 f h) (And.intro rfl (And.intro rfl (And.intro rfl (And.intro rfl (And.intro rfl trivial)))))
        · replace h := h.2 c23
          refine zi_aload_n (pc' := 74) rfl rfl rfl ?_
          refine zi_aload_n (pc' := 75) rfl rfl rfl ?_
          refine zi_aload_n (pc' := 76) rfl rfl rfl ?_
          refine zi_getr (pc' := 79) rfl rfl rfl rfl rfl ?_
          refine zi_sipush (pc' := 82) rfl rfl (by decide) ?_
          refine zi_iload (pc' := 84) rfl rfl rfl ?_
          refine zi_iadd (pc' := 85) rfl rfl ?_
          refine zi_iald (pc' := 86) rfl rfl rfl o14 ?_
          refine zi_iconst (pc' := 87) rfl rfl ?_
          refine zi_isub (pc' := 88) rfl rfl ?_
          refine zi_callV (d' := 2) (as := [_]) (pc' := 91) rfl rfl rfl rfl (Nat.lt_of_lt_of_le (by decide) hd) (s_M_passedFrom (Nat.le_refl _) h) (zi_ki (fun v16 g17 h => ?_))
          refine zi_iload_n (pc' := 92) rfl rfl rfl ?_
          refine zi_callV (d' := 1) (as := [_, _]) (pc' := 95) rfl rfl rfl rfl (Nat.lt_of_lt_of_le (by decide) hd) (s_M_has (Nat.le_refl _) h) (zi_kb (fun v19 g20 b21 h => ?_))
          refine zi_if_eq (x := 105) (pc' := 98) rfl rfl (zi_r_bit b21)  (fun c22 => ?_) (fun c22 => ?_)
          · replace h := h.1 c22
            refine zi_iinc (pc' := 108) [some _, some _, some _, some _, some _] rfl rfl rfl rfl ?_
            refine zi_goto (x := 31) rfl ?_
            exact zi_wk (s_M_told_l31_r hd hK111 f h) (And.intro rfl (And.intro rfl (And.intro rfl (And.intro rfl (And.intro rfl trivial)))))
          · replace h := h.2 c22
            refine zi_iload_n (pc' := 99) rfl rfl rfl ?_
            refine zi_iconst (pc' := 100) rfl rfl ?_
            refine zi_iload (pc' := 102) rfl rfl rfl ?_
            refine zi_ishl (pc' := 103) rfl rfl ?_
            refine zi_ior (pc' := 104) rfl rfl ?_
            refine zi_istore_n (pc' := 105) [some _, some _, some _, some _, some _] rfl rfl rfl ?_
            refine zi_iinc (pc' := 108) [some _, some _, some _, some _, some _] rfl rfl rfl rfl ?_
            refine zi_goto (x := 31) rfl ?_
            exact zi_wk (s_M_told_l31_r hd hK111 f h) (And.intro rfl (And.intro rfl (And.intro rfl (And.intro rfl (And.intro rfl trivial)))))
set_option maxRecDepth 100000 in
theorem s_M_told_l31 {E : sx_E} {d : Nat} (hd : 3 ≤ d) {l1 : Int} {l2 : Int} {K111 : Int → zi_M → Prop} {Q : Int → zi_M → Prop} {l3 : Int} {l4 : Int} {g : zi_M} (h : ∃ f, w_M_told_l31 l1 l2 K111 Q f l3 l4 g) (hK111 : ∀ (k3 : Int) (g : zi_M), K111 k3 g → zi_W E d 274 111 [some (.ref 214), some (zi_i l1), some (zi_i l2), some (zi_i k3), none] [] g (zi_Q Q)) : zi_W E d 274 31 [some (.ref 214), some (zi_i l1), some (zi_i l2), some (zi_i l3), some (zi_i l4)] [] g (zi_Q Q) := by
  obtain ⟨f, h⟩ := h
  exact s_M_told_l31_r hd hK111 f h
set_option maxRecDepth 100000 in
theorem s_M_told {E : sx_E} {d : Nat} (hd : 3 ≤ d) {l1 : Int} {l2 : Int} {g : zi_M} {Q : Int → zi_M → Prop} (h : w_M_told l1 l2 g Q) : zi_S E d 274 [.ref 214, zi_i l1, zi_i l2] g (zi_Q Q) := by
  refine zi_Sof jf_274 [some (.ref 214), some (zi_i l1), some (zi_i l2), none, none] rfl (And.intro rfl (And.intro rfl (And.intro rfl trivial))) ?_
  unfold w_M_told at h
  refine zi_aload_n (pc' := 1) rfl rfl rfl ?_
  refine zi_iconst (pc' := 2) rfl rfl ?_
  refine zi_puti (pc' := 5) 0 rfl rfl rfl rfl rfl  ?_
  replace h := h _ rfl
  refine zi_aload_n (pc' := 6) rfl rfl rfl ?_
  refine zi_iload_n (pc' := 7) rfl rfl rfl ?_
  refine zi_iconst (pc' := 8) rfl rfl ?_
  refine zi_bipush (pc' := 10) rfl rfl (by decide) ?_
  refine zi_callV (d' := 1) (as := [_, _, _]) (pc' := 13) rfl rfl rfl rfl (Nat.lt_of_lt_of_le (by decide) hd) (s_M_isIn (Nat.le_refl _) h) (zi_kb (fun v2 g3 b4 h => ?_))
  refine zi_if_eq (x := 24) (pc' := 16) rfl rfl (zi_r_bit b4)  (fun c30 => ?_) (fun c30 => ?_)
  · replace h := h.1 c30
    refine zi_iconst (pc' := 25) rfl rfl ?_
    exact zi_iret rfl rfl h
  · replace h := h.2 c30
    refine zi_aload_n (pc' := 17) rfl rfl rfl ?_
    refine zi_iload_n (pc' := 18) rfl rfl rfl ?_
    refine zi_callV (d' := 1) (as := [_]) (pc' := 21) rfl rfl rfl rfl (Nat.lt_of_lt_of_le (by decide) hd) (s_M_isSpout (Nat.le_refl _) h) (zi_kb (fun v5 g6 b7 h => ?_))
    refine zi_if_ne (x := 26) (pc' := 24) rfl rfl (zi_r_bit b7)  (fun c29 => ?_) (fun c29 => ?_)
    · replace h := h.1 c29
      refine zi_iconst (pc' := 27) rfl rfl ?_
      refine zi_istore_n (pc' := 28) [some _, some _, some _, some _, none] rfl rfl rfl ?_
      refine zi_iconst (pc' := 29) rfl rfl ?_
      refine zi_istore (pc' := 31) [some _, some _, some _, some _, some _] rfl rfl rfl ?_
      refine zi_wk (s_M_told_l31 hd h (fun k26 g27 h => ?_)) (And.intro rfl (And.intro rfl (And.intro rfl (And.intro rfl (And.intro rfl trivial)))))
      refine zi_iload_n (pc' := 112) rfl rfl rfl ?_
      exact zi_iret rfl rfl h
    · replace h := h.2 c29
      refine zi_iconst (pc' := 25) rfl rfl ?_
      exact zi_iret rfl rfl h
-- SpoutNews$Thought.lastOnes(LSpoutNews$Texts;I)I
noncomputable def w_Thought_lastOnes_l5 (K33 : Int → zi_M → Prop) (Q : Int → zi_M → Prop) : Nat → Int → Int → zi_M → Prop
  | 0, _, _, _ => False
  | f + 1, l3, l4, g => (zi_r l4 ∧ ((10 ≤ l4 → K33 l3 g) ∧ (l4 < 10 → w_Texts_gutterOf l3 g (fun v2 g3 => (zi_r v2 ∧ ((v2 = (-1) → K33 l3 g3) ∧ (¬ v2 = (-1) → w_Texts_gutterOf l3 g3 (fun v6 g7 => w_Thought_lastOnes_l5 K33 Q f v6 (l4 + 1) g7))))))))
noncomputable def w_Thought_lastOnes (l2 : Int) (g : zi_M) (Q : Int → zi_M → Prop) : Prop := (∃ f16, w_Thought_lastOnes_l5 (fun k11 g12 => w_Thought_reach k11 g12 (fun v13 g14 => Q v13 g14)) Q f16 l2 0 g)
set_option maxRecDepth 100000 in
theorem s_Thought_lastOnes_l5_r {E : sx_E} {d : Nat} (hd : 3 ≤ d) {K33 : Int → zi_M → Prop} {Q : Int → zi_M → Prop} (hK33 : ∀ (k3 : Int) (g : zi_M), K33 k3 g → zi_W E d 128 33 [some (.ref 180), some (.ref 19), none, some (zi_i k3), none] [] g (zi_Q Q)) : ∀ (f : Nat) {l3 : Int} {l4 : Int} {g : zi_M}, w_Thought_lastOnes_l5 K33 Q f l3 l4 g → zi_W E d 128 5 [some (.ref 180), some (.ref 19), none, some (zi_i l3), some (zi_i l4)] [] g (zi_Q Q)
  | 0, _, _, _, h => False.elim h
  | f + 1, l3, l4, g, h => by
    refine zi_iload (pc' := 7) rfl rfl rfl ?_
    refine zi_bipush (pc' := 9) rfl rfl (by decide) ?_
    obtain ⟨o1, h⟩ := h
    refine zi_icmp_ge (x := 33) (pc' := 12) rfl rfl o1 (by decide) (fun c10 => ?_) (fun c10 => ?_)
    · replace h := h.1 c10
      exact zi_wk (hK33 _ _ h) (And.intro rfl (And.intro rfl (And.intro rfl trivial)))
    · replace h := h.2 c10
      refine zi_aload_n (pc' := 13) rfl rfl rfl ?_
      refine zi_iload_n (pc' := 14) rfl rfl rfl ?_
      refine zi_callV (d' := 1) (as := [_]) (pc' := 17) rfl rfl rfl rfl (Nat.lt_of_lt_of_le (by decide) hd) (s_Texts_gutterOf (Nat.le_refl _) h) (zi_ki (fun v2 g3 h => ?_))
      refine zi_iconst (pc' := 18) rfl rfl ?_
      obtain ⟨o5, h⟩ := h
      refine zi_icmp_eq (x := 33) (pc' := 21) rfl rfl o5 (by decide) (fun c9 => ?_) (fun c9 => ?_)
      · replace h := h.1 c9
        exact zi_wk (hK33 _ _ h) (And.intro rfl (And.intro rfl (And.intro rfl trivial)))
      · replace h := h.2 c9
        refine zi_aload_n (pc' := 22) rfl rfl rfl ?_
        refine zi_iload_n (pc' := 23) rfl rfl rfl ?_
        refine zi_callV (d' := 1) (as := [_]) (pc' := 26) rfl rfl rfl rfl (Nat.lt_of_lt_of_le (by decide) hd) (s_Texts_gutterOf (Nat.le_refl _) h) (zi_ki (fun v6 g7 h => ?_))
        refine zi_istore_n (pc' := 27) [some _, some _, none, some _, some _] rfl rfl rfl ?_
        refine zi_iinc (pc' := 30) [some _, some _, none, some _, some _] rfl rfl rfl rfl ?_
        refine zi_goto (x := 5) rfl ?_
        exact zi_wk (s_Thought_lastOnes_l5_r hd hK33 f h) (And.intro rfl (And.intro rfl (And.intro rfl (And.intro rfl trivial))))
set_option maxRecDepth 100000 in
theorem s_Thought_lastOnes_l5 {E : sx_E} {d : Nat} (hd : 3 ≤ d) {K33 : Int → zi_M → Prop} {Q : Int → zi_M → Prop} {l3 : Int} {l4 : Int} {g : zi_M} (h : ∃ f, w_Thought_lastOnes_l5 K33 Q f l3 l4 g) (hK33 : ∀ (k3 : Int) (g : zi_M), K33 k3 g → zi_W E d 128 33 [some (.ref 180), some (.ref 19), none, some (zi_i k3), none] [] g (zi_Q Q)) : zi_W E d 128 5 [some (.ref 180), some (.ref 19), none, some (zi_i l3), some (zi_i l4)] [] g (zi_Q Q) := by
  obtain ⟨f, h⟩ := h
  exact s_Thought_lastOnes_l5_r hd hK33 f h
set_option maxRecDepth 100000 in
theorem s_Thought_lastOnes {E : sx_E} {d : Nat} (hd : 3 ≤ d) {l2 : Int} {g : zi_M} {Q : Int → zi_M → Prop} (h : w_Thought_lastOnes l2 g Q) : zi_S E d 128 [.ref 180, .ref 19, zi_i l2] g (zi_Q Q) := by
  refine zi_Sof jf_128 [some (.ref 180), some (.ref 19), some (zi_i l2), none, none] rfl (And.intro rfl (And.intro rfl (And.intro rfl trivial))) ?_
  unfold w_Thought_lastOnes at h
  refine zi_iload_n (pc' := 1) rfl rfl rfl ?_
  refine zi_istore_n (pc' := 2) [some _, some _, some _, some _, none] rfl rfl rfl ?_
  refine zi_iconst (pc' := 3) rfl rfl ?_
  refine zi_istore (pc' := 5) [some _, some _, some _, some _, some _] rfl rfl rfl ?_
  refine zi_wk (s_Thought_lastOnes_l5 hd h (fun k11 g12 h => ?_)) (And.intro rfl (And.intro rfl (And.intro rfl (And.intro rfl trivial))))
  refine zi_aload_n (pc' := 34) rfl rfl rfl ?_
  refine zi_aload_n (pc' := 35) rfl rfl rfl ?_
  refine zi_iload_n (pc' := 36) rfl rfl rfl ?_
  refine zi_callV (d' := 2) (as := [_, _]) (pc' := 39) rfl rfl rfl rfl (Nat.lt_of_lt_of_le (by decide) hd) (s_Thought_reach (Nat.le_refl _) h) (zi_ki (fun v13 g14 h => ?_))
  exact zi_iret rfl rfl h
-- SpoutNews$Thought.endOf(LSpoutNews$Texts;I)I
noncomputable def w_Thought_endOf_l13 (l3 : Int) (K38 : Int → zi_M → Prop) (Q : Int → zi_M → Prop) : Nat → Int → Int → zi_M → Prop
  | 0, _, _, _ => False
  | f + 1, l4, l5, g => (zi_r l5 ∧ ((10 ≤ l5 → K38 l4 g) ∧ (l5 < 10 → ((¬ (zi_and (zi_shr l3 l4) 1) = 0 → K38 l4 g) ∧ ((zi_and (zi_shr l3 l4) 1) = 0 → w_Thought_endOf_l13 l3 K38 Q f (l4 + 1) (l5 + 1) g)))))
noncomputable def w_Thought_endOf (l2 : Int) (g : zi_M) (Q : Int → zi_M → Prop) : Prop := w_Thought_lastOnes l2 g (fun v1 g2 => (∃ f9, w_Thought_endOf_l13 v1 (fun k7 g8 => Q k7 g8) Q f9 0 0 g2))
set_option maxRecDepth 100000 in
theorem s_Thought_endOf_l13_r {E : sx_E} {d : Nat} (hd : 4 ≤ d) {l3 : Int} {K38 : Int → zi_M → Prop} {Q : Int → zi_M → Prop} (hK38 : ∀ (k4 : Int) (g : zi_M), K38 k4 g → zi_W E d 127 38 [none, none, none, some (zi_i l3), some (zi_i k4), none] [] g (zi_Q Q)) : ∀ (f : Nat) {l4 : Int} {l5 : Int} {g : zi_M}, w_Thought_endOf_l13 l3 K38 Q f l4 l5 g → zi_W E d 127 13 [none, none, none, some (zi_i l3), some (zi_i l4), some (zi_i l5)] [] g (zi_Q Q)
  | 0, _, _, _, h => False.elim h
  | f + 1, l4, l5, g, h => by
    refine zi_iload (pc' := 15) rfl rfl rfl ?_
    refine zi_bipush (pc' := 17) rfl rfl (by decide) ?_
    obtain ⟨o4, h⟩ := h
    refine zi_icmp_ge (x := 38) (pc' := 20) rfl rfl o4 (by decide) (fun c6 => ?_) (fun c6 => ?_)
    · replace h := h.1 c6
      exact zi_wk (hK38 _ _ h) (And.intro rfl (And.intro rfl trivial))
    · replace h := h.2 c6
      refine zi_iload_n (pc' := 21) rfl rfl rfl ?_
      refine zi_iload (pc' := 23) rfl rfl rfl ?_
      refine zi_ishr (pc' := 24) rfl rfl ?_
      refine zi_iconst (pc' := 25) rfl rfl ?_
      refine zi_iand (pc' := 26) rfl rfl ?_
      refine zi_if_ne (x := 38) (pc' := 29) rfl rfl (zi_r_and _ _)  (fun c5 => ?_) (fun c5 => ?_)
      · replace h := h.1 c5
        exact zi_wk (hK38 _ _ h) (And.intro rfl (And.intro rfl trivial))
      · replace h := h.2 c5
        refine zi_iinc (pc' := 32) [none, none, none, some _, some _, some _] rfl rfl rfl rfl ?_
        refine zi_iinc (pc' := 35) [none, none, none, some _, some _, some _] rfl rfl rfl rfl ?_
        refine zi_goto (x := 13) rfl ?_
        exact zi_wk (s_Thought_endOf_l13_r hd hK38 f h) (And.intro rfl (And.intro rfl (And.intro rfl trivial)))
set_option maxRecDepth 100000 in
theorem s_Thought_endOf_l13 {E : sx_E} {d : Nat} (hd : 4 ≤ d) {l3 : Int} {K38 : Int → zi_M → Prop} {Q : Int → zi_M → Prop} {l4 : Int} {l5 : Int} {g : zi_M} (h : ∃ f, w_Thought_endOf_l13 l3 K38 Q f l4 l5 g) (hK38 : ∀ (k4 : Int) (g : zi_M), K38 k4 g → zi_W E d 127 38 [none, none, none, some (zi_i l3), some (zi_i k4), none] [] g (zi_Q Q)) : zi_W E d 127 13 [none, none, none, some (zi_i l3), some (zi_i l4), some (zi_i l5)] [] g (zi_Q Q) := by
  obtain ⟨f, h⟩ := h
  exact s_Thought_endOf_l13_r hd hK38 f h
set_option maxRecDepth 100000 in
theorem s_Thought_endOf {E : sx_E} {d : Nat} (hd : 4 ≤ d) {l2 : Int} {g : zi_M} {Q : Int → zi_M → Prop} (h : w_Thought_endOf l2 g Q) : zi_S E d 127 [.ref 180, .ref 19, zi_i l2] g (zi_Q Q) := by
  refine zi_Sof jf_127 [some (.ref 180), some (.ref 19), some (zi_i l2), none, none, none] rfl (And.intro rfl (And.intro rfl (And.intro rfl trivial))) ?_
  unfold w_Thought_endOf at h
  refine zi_aload_n (pc' := 1) rfl rfl rfl ?_
  refine zi_aload_n (pc' := 2) rfl rfl rfl ?_
  refine zi_iload_n (pc' := 3) rfl rfl rfl ?_
  refine zi_callV (d' := 3) (as := [_, _]) (pc' := 6) rfl rfl rfl rfl (Nat.lt_of_lt_of_le (by decide) hd) (s_Thought_lastOnes (Nat.le_refl _) h) (zi_ki (fun v1 g2 h => ?_))
  refine zi_istore_n (pc' := 7) [some _, some _, some _, some _, none, none] rfl rfl rfl ?_
  refine zi_iconst (pc' := 8) rfl rfl ?_
  refine zi_istore (pc' := 10) [some _, some _, some _, some _, some _, none] rfl rfl rfl ?_
  refine zi_iconst (pc' := 11) rfl rfl ?_
  refine zi_istore (pc' := 13) [some _, some _, some _, some _, some _, some _] rfl rfl rfl ?_
  refine zi_wk (s_Thought_endOf_l13 hd h (fun k7 g8 h => ?_)) (And.intro rfl (And.intro rfl (And.intro rfl trivial)))
  refine zi_iload (pc' := 40) rfl rfl rfl ?_
  exact zi_iret rfl rfl h
-- SpoutNews$Thought.guttersToEnd(LSpoutNews$Texts;I)I
noncomputable def w_Thought_guttersToEnd_l16 (l3 : Int) (K55 : Int → zi_M → Prop) (Q : Int → zi_M → Prop) : Nat → Int → Int → Int → zi_M → Prop
  | 0, _, _, _, _ => False
  | f + 1, l4, l5, l6, g => (zi_r l6 ∧ ((10 ≤ l6 → K55 l5 g) ∧ (l6 < 10 → (zi_r l4 ∧ ((l4 = (-1) → K55 l5 g) ∧ (¬ l4 = (-1) → ((¬ (zi_and (zi_shr l3 l4) 1) = 0 → K55 l5 g) ∧ ((zi_and (zi_shr l3 l4) 1) = 0 → w_Texts_gutterOf l4 g (fun v6 g7 => w_Thought_guttersToEnd_l16 l3 K55 Q f v6 (l5 + 1) (l6 + 1) g7)))))))))
noncomputable def w_Thought_guttersToEnd (l2 : Int) (g : zi_M) (Q : Int → zi_M → Prop) : Prop := w_Thought_lastOnes l2 g (fun v1 g2 => (∃ f14, w_Thought_guttersToEnd_l16 v1 (fun k12 g13 => Q k12 g13) Q f14 l2 0 0 g2))
set_option maxRecDepth 100000 in
theorem s_Thought_guttersToEnd_l16_r {E : sx_E} {d : Nat} (hd : 4 ≤ d) {l3 : Int} {K55 : Int → zi_M → Prop} {Q : Int → zi_M → Prop} (hK55 : ∀ (k5 : Int) (g : zi_M), K55 k5 g → zi_W E d 129 55 [none, some (.ref 19), none, some (zi_i l3), none, some (zi_i k5), none] [] g (zi_Q Q)) : ∀ (f : Nat) {l4 : Int} {l5 : Int} {l6 : Int} {g : zi_M}, w_Thought_guttersToEnd_l16 l3 K55 Q f l4 l5 l6 g → zi_W E d 129 16 [none, some (.ref 19), none, some (zi_i l3), some (zi_i l4), some (zi_i l5), some (zi_i l6)] [] g (zi_Q Q)
  | 0, _, _, _, _, h => False.elim h
  | f + 1, l4, l5, l6, g, h => by
    refine zi_iload (pc' := 18) rfl rfl rfl ?_
    refine zi_bipush (pc' := 20) rfl rfl (by decide) ?_
    obtain ⟨o4, h⟩ := h
    refine zi_icmp_ge (x := 55) (pc' := 23) rfl rfl o4 (by decide) (fun c11 => ?_) (fun c11 => ?_)
    · replace h := h.1 c11
      exact zi_wk (hK55 _ _ h) (And.intro rfl (And.intro rfl (And.intro rfl trivial)))
    · replace h := h.2 c11
      refine zi_iload (pc' := 25) rfl rfl rfl ?_
      refine zi_iconst (pc' := 26) rfl rfl ?_
      obtain ⟨o5, h⟩ := h
      refine zi_icmp_eq (x := 55) (pc' := 29) rfl rfl o5 (by decide) (fun c10 => ?_) (fun c10 => ?_)
      · replace h := h.1 c10
        exact zi_wk (hK55 _ _ h) (And.intro rfl (And.intro rfl (And.intro rfl trivial)))
      · replace h := h.2 c10
        refine zi_iload_n (pc' := 30) rfl rfl rfl ?_
        refine zi_iload (pc' := 32) rfl rfl rfl ?_
        refine zi_ishr (pc' := 33) rfl rfl ?_
        refine zi_iconst (pc' := 34) rfl rfl ?_
        refine zi_iand (pc' := 35) rfl rfl ?_
        refine zi_if_ne (x := 55) (pc' := 38) rfl rfl (zi_r_and _ _)  (fun c9 => ?_) (fun c9 => ?_)
        · replace h := h.1 c9
          exact zi_wk (hK55 _ _ h) (And.intro rfl (And.intro rfl (And.intro rfl trivial)))
        · replace h := h.2 c9
          refine zi_aload_n (pc' := 39) rfl rfl rfl ?_
          refine zi_iload (pc' := 41) rfl rfl rfl ?_
          refine zi_callV (d' := 1) (as := [_]) (pc' := 44) rfl rfl rfl rfl (Nat.lt_of_lt_of_le (by decide) hd) (s_Texts_gutterOf (Nat.le_refl _) h) (zi_ki (fun v6 g7 h => ?_))
          refine zi_istore (pc' := 46) [none, some _, none, some _, some _, some _, some _] rfl rfl rfl ?_
          refine zi_iinc (pc' := 49) [none, some _, none, some _, some _, some _, some _] rfl rfl rfl rfl ?_
          refine zi_iinc (pc' := 52) [none, some _, none, some _, some _, some _, some _] rfl rfl rfl rfl ?_
          refine zi_goto (x := 16) rfl ?_
          exact zi_wk (s_Thought_guttersToEnd_l16_r hd hK55 f h) (And.intro rfl (And.intro rfl (And.intro rfl (And.intro rfl (And.intro rfl trivial)))))
set_option maxRecDepth 100000 in
theorem s_Thought_guttersToEnd_l16 {E : sx_E} {d : Nat} (hd : 4 ≤ d) {l3 : Int} {K55 : Int → zi_M → Prop} {Q : Int → zi_M → Prop} {l4 : Int} {l5 : Int} {l6 : Int} {g : zi_M} (h : ∃ f, w_Thought_guttersToEnd_l16 l3 K55 Q f l4 l5 l6 g) (hK55 : ∀ (k5 : Int) (g : zi_M), K55 k5 g → zi_W E d 129 55 [none, some (.ref 19), none, some (zi_i l3), none, some (zi_i k5), none] [] g (zi_Q Q)) : zi_W E d 129 16 [none, some (.ref 19), none, some (zi_i l3), some (zi_i l4), some (zi_i l5), some (zi_i l6)] [] g (zi_Q Q) := by
  obtain ⟨f, h⟩ := h
  exact s_Thought_guttersToEnd_l16_r hd hK55 f h
set_option maxRecDepth 100000 in
theorem s_Thought_guttersToEnd {E : sx_E} {d : Nat} (hd : 4 ≤ d) {l2 : Int} {g : zi_M} {Q : Int → zi_M → Prop} (h : w_Thought_guttersToEnd l2 g Q) : zi_S E d 129 [.ref 180, .ref 19, zi_i l2] g (zi_Q Q) := by
  refine zi_Sof jf_129 [some (.ref 180), some (.ref 19), some (zi_i l2), none, none, none, none] rfl (And.intro rfl (And.intro rfl (And.intro rfl trivial))) ?_
  unfold w_Thought_guttersToEnd at h
  refine zi_aload_n (pc' := 1) rfl rfl rfl ?_
  refine zi_aload_n (pc' := 2) rfl rfl rfl ?_
  refine zi_iload_n (pc' := 3) rfl rfl rfl ?_
  refine zi_callV (d' := 3) (as := [_, _]) (pc' := 6) rfl rfl rfl rfl (Nat.lt_of_lt_of_le (by decide) hd) (s_Thought_lastOnes (Nat.le_refl _) h) (zi_ki (fun v1 g2 h => ?_))
  refine zi_istore_n (pc' := 7) [some _, some _, some _, some _, none, none, none] rfl rfl rfl ?_
  refine zi_iload_n (pc' := 8) rfl rfl rfl ?_
  refine zi_istore (pc' := 10) [some _, some _, some _, some _, some _, none, none] rfl rfl rfl ?_
  refine zi_iconst (pc' := 11) rfl rfl ?_
  refine zi_istore (pc' := 13) [some _, some _, some _, some _, some _, some _, none] rfl rfl rfl ?_
  refine zi_iconst (pc' := 14) rfl rfl ?_
  refine zi_istore (pc' := 16) [some _, some _, some _, some _, some _, some _, some _] rfl rfl rfl ?_
  refine zi_wk (s_Thought_guttersToEnd_l16 hd h (fun k12 g13 h => ?_)) (And.intro rfl (And.intro rfl (And.intro rfl (And.intro rfl (And.intro rfl trivial)))))
  refine zi_iload (pc' := 57) rfl rfl rfl ?_
  exact zi_iret rfl rfl h
-- SpoutNews.ends(II)I
noncomputable def w_S_ends (l1 : Int) (l2 : Int) (g : zi_M) (Q : Int → zi_M → Prop) : Prop := w_World_isSpout 2 l1 g (fun v1 g2 => ((¬ v1 = 0 → (zi_r l2 ∧ ((l2 ≠ 0 → l2 ≠ 1 → Q (-1) g2) ∧ (l2 = 0 → w_Thought_endOf l1 g2 (fun v6 g7 => Q v6 g7)) ∧ (l2 = 1 → w_Thought_guttersToEnd l1 g2 (fun v9 g10 => Q v9 g10))))) ∧ (v1 = 0 → Q (-1) g2)))
set_option maxRecDepth 100000 in
theorem s_S_ends {E : sx_E} {d : Nat} (hd : 5 ≤ d) {l1 : Int} {l2 : Int} {g : zi_M} {Q : Int → zi_M → Prop} (h : w_S_ends l1 l2 g Q) : zi_S E d 126 [.ref 0, zi_i l1, zi_i l2] g (zi_Q Q) := by
  refine zi_Sof jf_126 [some (.ref 0), some (zi_i l1), some (zi_i l2)] rfl (And.intro rfl (And.intro rfl (And.intro rfl trivial))) ?_
  unfold w_S_ends at h
  refine zi_aload_n (pc' := 1) rfl rfl rfl ?_
  refine zi_getr (pc' := 4) rfl rfl rfl rfl rfl ?_
  refine zi_getr (pc' := 7) rfl rfl rfl rfl rfl ?_
  refine zi_iload_n (pc' := 8) rfl rfl rfl ?_
  refine zi_callV (d' := 1) (as := [_]) (pc' := 11) rfl rfl rfl rfl (Nat.lt_of_lt_of_le (by decide) hd) (s_World_isSpout (Nat.le_refl _) rfl h) (zi_kb (fun v1 g2 b3 h => ?_))
  refine zi_if_ne (x := 16) (pc' := 14) rfl rfl (zi_r_bit b3)  (fun c12 => ?_) (fun c12 => ?_)
  · replace h := h.1 c12
    refine zi_iload_n (pc' := 17) rfl rfl rfl ?_
    obtain ⟨o4, h⟩ := h
    refine zi_lsw [(0, 44), (1, 60)] 76 rfl rfl o4 (fun c5 => ?_) (And.intro (fun c5 => ?_) (And.intro (fun c5 => ?_) trivial))
    · replace h := h.1 (c5 _ (List.mem_cons_self)) (c5 _ (List.mem_cons_of_mem _ (List.mem_cons_self)))
      refine zi_iconst (pc' := 77) rfl rfl ?_
      exact zi_iret rfl rfl h
    · replace h := h.2.1 c5
      refine zi_aload_n (pc' := 45) rfl rfl rfl ?_
      refine zi_getr (pc' := 48) rfl rfl rfl rfl rfl ?_
      refine zi_aload_n (pc' := 49) rfl rfl rfl ?_
      refine zi_getr (pc' := 52) rfl rfl rfl rfl rfl ?_
      refine zi_getr (pc' := 55) rfl rfl rfl rfl rfl ?_
      refine zi_iload_n (pc' := 56) rfl rfl rfl ?_
      refine zi_callV (d' := 4) (as := [_, _]) (pc' := 59) rfl rfl rfl rfl (Nat.lt_of_lt_of_le (by decide) hd) (s_Thought_endOf (Nat.le_refl _) h) (zi_ki (fun v6 g7 h => ?_))
      exact zi_iret rfl rfl h
    · replace h := h.2.2 c5
      refine zi_aload_n (pc' := 61) rfl rfl rfl ?_
      refine zi_getr (pc' := 64) rfl rfl rfl rfl rfl ?_
      refine zi_aload_n (pc' := 65) rfl rfl rfl ?_
      refine zi_getr (pc' := 68) rfl rfl rfl rfl rfl ?_
      refine zi_getr (pc' := 71) rfl rfl rfl rfl rfl ?_
      refine zi_iload_n (pc' := 72) rfl rfl rfl ?_
      refine zi_callV (d' := 4) (as := [_, _]) (pc' := 75) rfl rfl rfl rfl (Nat.lt_of_lt_of_le (by decide) hd) (s_Thought_guttersToEnd (Nat.le_refl _) h) (zi_ki (fun v9 g10 h => ?_))
      exact zi_iret rfl rfl h
  · replace h := h.2 c12
    refine zi_iconst (pc' := 15) rfl rfl ?_
    exact zi_iret rfl rfl h
