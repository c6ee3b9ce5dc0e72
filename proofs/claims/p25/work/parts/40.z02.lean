-- by program (wip/gen/mkz.py)
-- SpoutNewsModel.notes(III)V
noncomputable def w_M_notes (l1 : Int) (l2 : Int) (l3 : Int) (g : zi_M) (Q : Int → zi_M → Prop) : Prop := (zi_r (g 214 5) ∧ ((¬ (g 214 5) = 0 → Q 0 g) ∧ ((g 214 5) = 0 → (zi_r (g 215 2) ∧ ((¬ (g 215 2) = 150 → ((0 ≤ (4 * (g 215 2)) ∧ (4 * (g 215 2)) < 600) ∧ (∀ g4, g4 = zi_u g 221 (4 * (g 215 2)) (g 215 0) → ((0 ≤ ((4 * (g 215 2)) + 1) ∧ ((4 * (g 215 2)) + 1) < 600) ∧ (∀ g6, g6 = zi_u g4 221 ((4 * (g 215 2)) + 1) l1 → ((0 ≤ ((4 * (g 215 2)) + 2) ∧ ((4 * (g 215 2)) + 2) < 600) ∧ (∀ g8, g8 = zi_u g6 221 ((4 * (g 215 2)) + 2) l2 → ((0 ≤ ((4 * (g 215 2)) + 3) ∧ ((4 * (g 215 2)) + 3) < 600) ∧ (∀ g10, g10 = zi_u g8 221 ((4 * (g 215 2)) + 3) l3 → (∀ g11, g11 = zi_u g10 215 2 ((g10 215 2) + 1) → Q 0 g11)))))))))) ∧ ((g 215 2) = 150 → Q 0 g))))))
set_option maxRecDepth 100000 in
theorem s_M_notes {E : sx_E} {d : Nat} (hd : 1 ≤ d) {l1 : Int} {l2 : Int} {l3 : Int} {g : zi_M} {Q : Int → zi_M → Prop} (h : w_M_notes l1 l2 l3 g Q) : zi_S E d 258 [.ref 214, zi_i l1, zi_i l2, zi_i l3] g (zi_Qv Q) := by
  refine zi_Sof jf_258 [some (.ref 214), some (zi_i l1), some (zi_i l2), some (zi_i l3), none] rfl (And.intro rfl (And.intro rfl (And.intro rfl (And.intro rfl trivial)))) ?_
  unfold w_M_notes at h
  refine zi_aload_n (pc' := 1) rfl rfl rfl ?_
  refine zi_geti (pc' := 4) 5 rfl rfl rfl rfl rfl rfl ?_
  obtain ⟨o1, h⟩ := h
  refine zi_if_ne (x := 19) (pc' := 7) rfl rfl o1  (fun c13 => ?_) (fun c13 => ?_)
  · replace h := h.1 c13
    exact zi_vret rfl rfl h
  · replace h := h.2 c13
    refine zi_aload_n (pc' := 8) rfl rfl rfl ?_
    refine zi_getr (pc' := 11) rfl rfl rfl rfl rfl ?_
    refine zi_iconst (pc' := 12) rfl rfl ?_
    refine zi_iald (pc' := 13) rfl rfl rfl (by decide) ?_
    refine zi_sipush (pc' := 16) rfl rfl (by decide) ?_
    obtain ⟨o2, h⟩ := h
    refine zi_icmp_ne (x := 20) (pc' := 19) rfl rfl o2 (by decide) (fun c12 => ?_) (fun c12 => ?_)
    · replace h := h.1 c12
      refine zi_iconst (pc' := 21) rfl rfl ?_
      refine zi_aload_n (pc' := 22) rfl rfl rfl ?_
      refine zi_getr (pc' := 25) rfl rfl rfl rfl rfl ?_
      refine zi_iconst (pc' := 26) rfl rfl ?_
      refine zi_iald (pc' := 27) rfl rfl rfl (by decide) ?_
      refine zi_imul (pc' := 28) rfl rfl ?_
      refine zi_istore (pc' := 30) [some _, some _, some _, some _, some _] rfl rfl rfl ?_
      refine zi_aload_n (pc' := 31) rfl rfl rfl ?_
      refine zi_getr (pc' := 34) rfl rfl rfl rfl rfl ?_
      refine zi_iload (pc' := 36) rfl rfl rfl ?_
      refine zi_aload_n (pc' := 37) rfl rfl rfl ?_
      refine zi_getr (pc' := 40) rfl rfl rfl rfl rfl ?_
      refine zi_iconst (pc' := 41) rfl rfl ?_
      refine zi_iald (pc' := 42) rfl rfl rfl (by decide) ?_
      obtain ⟨o3, h⟩ := h
      refine zi_iast (pc' := 43) rfl rfl rfl o3 ?_
      replace h := h _ rfl
      refine zi_aload_n (pc' := 44) rfl rfl rfl ?_
      refine zi_getr (pc' := 47) rfl rfl rfl rfl rfl ?_
      refine zi_iload (pc' := 49) rfl rfl rfl ?_
      refine zi_iconst (pc' := 50) rfl rfl ?_
      refine zi_iadd (pc' := 51) rfl rfl ?_
      refine zi_iload_n (pc' := 52) rfl rfl rfl ?_
      obtain ⟨o5, h⟩ := h
      refine zi_iast (pc' := 53) rfl rfl rfl o5 ?_
      replace h := h _ rfl
      refine zi_aload_n (pc' := 54) rfl rfl rfl ?_
      refine zi_getr (pc' := 57) rfl rfl rfl rfl rfl ?_
      refine zi_iload (pc' := 59) rfl rfl rfl ?_
      refine zi_iconst (pc' := 60) rfl rfl ?_
      refine zi_iadd (pc' := 61) rfl rfl ?_
      refine zi_iload_n (pc' := 62) rfl rfl rfl ?_
      obtain ⟨o7, h⟩ := h
      refine zi_iast (pc' := 63) rfl rfl rfl o7 ?_
      replace h := h _ rfl
      refine zi_aload_n (pc' := 64) rfl rfl rfl ?_
      refine zi_getr (pc' := 67) rfl rfl rfl rfl rfl ?_
      refine zi_iload (pc' := 69) rfl rfl rfl ?_
      refine zi_iconst (pc' := 70) rfl rfl ?_
      refine zi_iadd (pc' := 71) rfl rfl ?_
      refine zi_iload_n (pc' := 72) rfl rfl rfl ?_
      obtain ⟨o9, h⟩ := h
      refine zi_iast (pc' := 73) rfl rfl rfl o9 ?_
      replace h := h _ rfl
      refine zi_aload_n (pc' := 74) rfl rfl rfl ?_
      refine zi_getr (pc' := 77) rfl rfl rfl rfl rfl ?_
      refine zi_iconst (pc' := 78) rfl rfl ?_
      refine zi_aload_n (pc' := 79) rfl rfl rfl ?_
      refine zi_getr (pc' := 82) rfl rfl rfl rfl rfl ?_
      refine zi_iconst (pc' := 83) rfl rfl ?_
      refine zi_iald (pc' := 84) rfl rfl rfl (by decide) ?_
      refine zi_iconst (pc' := 85) rfl rfl ?_
      refine zi_iadd (pc' := 86) rfl rfl ?_
      refine zi_iast (pc' := 87) rfl rfl rfl (by decide) ?_
      replace h := h _ rfl
      exact zi_vret rfl rfl h
    · replace h := h.2 c12
      exact zi_vret rfl rfl h
-- SpoutNewsModel.hears(II)V
noncomputable def w_M_hears_l12 (l1 : Int) (l2 : Int) (l3 : Int) (K77 : zi_M → Prop) (Q : Int → zi_M → Prop) : Nat → Int → Int → zi_M → Prop
  | 0, _, _, _ => False
  | f + 1, l4, l5, g => (zi_r l5 ∧ ((16 ≤ l5 → K77 g) ∧ (l5 < 16 → (zi_r l4 ∧ zi_r l3 ∧ ((l3 ≤ l4 → K77 g) ∧ (l4 < l3 → ((0 ≤ (236 + l2) ∧ (236 + l2) < 264) ∧ w_M_has (g 215 (236 + l2)) l5 g (fun v8 g9 => ((v8 = 0 → w_M_hears_l12 l1 l2 l3 K77 Q f l4 (l5 + 1) g9) ∧ (¬ v8 = 0 → w_M_comesTo l1 l5 g9 (fun v11 g12 => ((¬ v11 = 0 → w_M_notes 0 l1 l5 g12 (fun _ g15 => w_M_hears_l12 l1 l2 l3 K77 Q f (l4 + 1) (l5 + 1) g15)) ∧ (v11 = 0 → w_M_hears_l12 l1 l2 l3 K77 Q f l4 (l5 + 1) g12)))))))))))))
noncomputable def w_M_hears (l1 : Int) (l2 : Int) (g : zi_M) (Q : Int → zi_M → Prop) : Prop := w_M_hearsOf l1 g (fun v1 g2 => (∃ f22, w_M_hears_l12 l1 l2 v1 (fun g21 => Q 0 g21) Q f22 0 0 g2))
set_option maxRecDepth 100000 in
theorem s_M_hears_l12_r {E : sx_E} {d : Nat} (hd : 6 ≤ d) {l1 : Int} {l2 : Int} {l3 : Int} {K77 : zi_M → Prop} {Q : Int → zi_M → Prop} (hK77 : ∀ (g : zi_M), K77 g → zi_W E d 264 77 [some (.ref 214), some (zi_i l1), some (zi_i l2), some (zi_i l3), none, none] [] g (zi_Qv Q)) : ∀ (f : Nat) {l4 : Int} {l5 : Int} {g : zi_M}, w_M_hears_l12 l1 l2 l3 K77 Q f l4 l5 g → zi_W E d 264 12 [some (.ref 214), some (zi_i l1), some (zi_i l2), some (zi_i l3), some (zi_i l4), some (zi_i l5)] [] g (zi_Qv Q)
  | 0, _, _, _, h => False.elim h
  | f + 1, l4, l5, g, h => by
    refine zi_iload (pc' := 14) rfl rfl rfl ?_
    refine zi_bipush (pc' := 16) rfl rfl (by decide) ?_
    obtain ⟨o4, h⟩ := h
    refine zi_icmp_ge (x := 77) (pc' := 19) rfl rfl o4 (by decide) (fun c20 => ?_) (fun c20 => ?_)
    · replace h := h.1 c20
      exact zi_wk (hK77 _ h) (And.intro rfl (And.intro rfl (And.intro rfl (And.intro rfl trivial))))
    · replace h := h.2 c20
      refine zi_iload (pc' := 21) rfl rfl rfl ?_
      refine zi_iload_n (pc' := 22) rfl rfl rfl ?_
      obtain ⟨o5, o6, h⟩ := h
      refine zi_icmp_ge (x := 77) (pc' := 25) rfl rfl o5 o6 (fun c19 => ?_) (fun c19 => ?_)
      · replace h := h.1 c19
        exact zi_wk (hK77 _ h) (And.intro rfl (And.intro rfl (And.intro rfl (And.intro rfl trivial))))
      · replace h := h.2 c19
        refine zi_aload_n (pc' := 26) rfl rfl rfl ?_
        refine zi_aload_n (pc' := 27) rfl rfl rfl ?_
        refine zi_getr (pc' := 30) rfl rfl rfl rfl rfl ?_
        refine zi_sipush (pc' := 33) rfl rfl (by decide) ?_
        refine zi_iload_n (pc' := 34) rfl rfl rfl ?_
        refine zi_iadd (pc' := 35) rfl rfl ?_
        obtain ⟨o7, h⟩ := h
        refine zi_iald (pc' := 36) rfl rfl rfl o7 ?_
        refine zi_iload (pc' := 38) rfl rfl rfl ?_
        refine zi_callV (d' := 1) (as := [_, _]) (pc' := 41) rfl rfl rfl rfl (Nat.lt_of_lt_of_le (by decide) hd) (s_M_has (Nat.le_refl _) h) (zi_kb (fun v8 g9 b10 h => ?_))
        refine zi_if_eq (x := 71) (pc' := 44) rfl rfl (zi_r_bit b10)  (fun c18 => ?_) (fun c18 => ?_)
        · replace h := h.1 c18
          refine zi_iinc (pc' := 74) [some _, some _, some _, some _, some _, some _] rfl rfl rfl rfl ?_
          refine zi_goto (x := 12) rfl ?_
          exact zi_wk (s_M_hears_l12_r hd hK77 f h) (And.intro rfl (And.intro rfl (And.intro rfl (And.intro rfl (And.intro rfl (And.intro rfl trivial))))))
        · replace h := h.2 c18
          refine zi_aload_n (pc' := 45) rfl rfl rfl ?_
          refine zi_iload_n (pc' := 46) rfl rfl rfl ?_
          refine zi_iload (pc' := 48) rfl rfl rfl ?_
          refine zi_callV (d' := 3) (as := [_, _]) (pc' := 51) rfl rfl rfl rfl (Nat.lt_of_lt_of_le (by decide) hd) (s_M_comesTo (Nat.le_refl _) h) (zi_kb (fun v11 g12 b13 h => ?_))
          refine zi_if_ne (x := 57) (pc' := 54) rfl rfl (zi_r_bit b13)  (fun c17 => ?_) (fun c17 => ?_)
          · replace h := h.1 c17
            refine zi_iload (pc' := 59) rfl rfl rfl ?_
            refine zi_iconst (pc' := 60) rfl rfl ?_
            refine zi_iadd (pc' := 61) rfl rfl ?_
            refine zi_istore (pc' := 63) [some _, some _, some _, some _, some _, some _] rfl rfl rfl ?_
            refine zi_aload_n (pc' := 64) rfl rfl rfl ?_
            refine zi_iconst (pc' := 65) rfl rfl ?_
            refine zi_iload_n (pc' := 66) rfl rfl rfl ?_
            refine zi_iload (pc' := 68) rfl rfl rfl ?_
            refine zi_callV (d' := 1) (as := [_, _, _]) (pc' := 71) rfl rfl rfl rfl (Nat.lt_of_lt_of_le (by decide) hd) (s_M_notes (Nat.le_refl _) h) (zi_kv (fun g15 h => ?_))
            refine zi_iinc (pc' := 74) [some _, some _, some _, some _, some _, some _] rfl rfl rfl rfl ?_
            refine zi_goto (x := 12) rfl ?_
            exact zi_wk (s_M_hears_l12_r hd hK77 f h) (And.intro rfl (And.intro rfl (And.intro rfl (And.intro rfl (And.intro rfl (And.intro rfl trivial))))))
          · replace h := h.2 c17
            refine zi_goto (x := 71) rfl ?_
            refine zi_iinc (pc' := 74) [some _, some _, some _, some _, some _, some _] rfl rfl rfl rfl ?_
            refine zi_goto (x := 12) rfl ?_
            exact zi_wk (s_M_hears_l12_r hd hK77 f h) (And.intro rfl (And.intro rfl (And.intro rfl (And.intro rfl (And.intro rfl (And.intro rfl trivial))))))
set_option maxRecDepth 100000 in
theorem s_M_hears_l12 {E : sx_E} {d : Nat} (hd : 6 ≤ d) {l1 : Int} {l2 : Int} {l3 : Int} {K77 : zi_M → Prop} {Q : Int → zi_M → Prop} {l4 : Int} {l5 : Int} {g : zi_M} (h : ∃ f, w_M_hears_l12 l1 l2 l3 K77 Q f l4 l5 g) (hK77 : ∀ (g : zi_M), K77 g → zi_W E d 264 77 [some (.ref 214), some (zi_i l1), some (zi_i l2), some (zi_i l3), none, none] [] g (zi_Qv Q)) : zi_W E d 264 12 [some (.ref 214), some (zi_i l1), some (zi_i l2), some (zi_i l3), some (zi_i l4), some (zi_i l5)] [] g (zi_Qv Q) := by
  obtain ⟨f, h⟩ := h
  exact s_M_hears_l12_r hd hK77 f h
set_option maxRecDepth 100000 in
theorem s_M_hears {E : sx_E} {d : Nat} (hd : 6 ≤ d) {l1 : Int} {l2 : Int} {g : zi_M} {Q : Int → zi_M → Prop} (h : w_M_hears l1 l2 g Q) : zi_S E d 264 [.ref 214, zi_i l1, zi_i l2] g (zi_Qv Q) := by
  refine zi_Sof jf_264 [some (.ref 214), some (zi_i l1), some (zi_i l2), none, none, none] rfl (And.intro rfl (And.intro rfl (And.intro rfl trivial))) ?_
  unfold w_M_hears at h
  refine zi_aload_n (pc' := 1) rfl rfl rfl ?_
  refine zi_iload_n (pc' := 2) rfl rfl rfl ?_
  refine zi_callV (d' := 5) (as := [_]) (pc' := 5) rfl rfl rfl rfl (Nat.lt_of_lt_of_le (by decide) hd) (s_M_hearsOf (Nat.le_refl _) h) (zi_ki (fun v1 g2 h => ?_))
  refine zi_istore_n (pc' := 6) [some _, some _, some _, some _, none, none] rfl rfl rfl ?_
  refine zi_iconst (pc' := 7) rfl rfl ?_
  refine zi_istore (pc' := 9) [some _, some _, some _, some _, some _, none] rfl rfl rfl ?_
  refine zi_iconst (pc' := 10) rfl rfl ?_
  refine zi_istore (pc' := 12) [some _, some _, some _, some _, some _, some _] rfl rfl rfl ?_
  refine zi_wk (s_M_hears_l12 hd h (fun g21 h => ?_)) (And.intro rfl (And.intro rfl (And.intro rfl (And.intro rfl (And.intro rfl (And.intro rfl trivial))))))
  exact zi_vret rfl rfl h
-- SpoutNewsModel.lesser(II)I
noncomputable def w_M_lesser (l1 : Int) (l2 : Int) (g : zi_M) (Q : Int → zi_M → Prop) : Prop := (zi_r l1 ∧ zi_r l2 ∧ ((l2 ≤ l1 → Q l2 g) ∧ (l1 < l2 → Q l1 g)))
set_option maxRecDepth 100000 in
theorem s_M_lesser {E : sx_E} {d : Nat} (hd : 1 ≤ d) {l1 : Int} {l2 : Int} {g : zi_M} {Q : Int → zi_M → Prop} (h : w_M_lesser l1 l2 g Q) : zi_S E d 252 [.ref 214, zi_i l1, zi_i l2] g (zi_Q Q) := by
  refine zi_Sof jf_252 [some (.ref 214), some (zi_i l1), some (zi_i l2)] rfl (And.intro rfl (And.intro rfl (And.intro rfl trivial))) ?_
  unfold w_M_lesser at h
  refine zi_iload_n (pc' := 1) rfl rfl rfl ?_
  refine zi_iload_n (pc' := 2) rfl rfl rfl ?_
  obtain ⟨o1, o2, h⟩ := h
  refine zi_icmp_ge (x := 9) (pc' := 5) rfl rfl o1 o2 (fun c3 => ?_) (fun c3 => ?_)
  · replace h := h.1 c3
    refine zi_iload_n (pc' := 10) rfl rfl rfl ?_
    exact zi_iret rfl rfl h
  · replace h := h.2 c3
    refine zi_iload_n (pc' := 6) rfl rfl rfl ?_
    refine zi_goto (x := 10) rfl ?_
    exact zi_iret rfl rfl h
-- SpoutNewsModel.isDry(I)V
noncomputable def w_M_isDry_l2 (l1 : Int) (K51 : zi_M → Prop) (Q : Int → zi_M → Prop) : Nat → Int → zi_M → Prop
  | 0, _, _ => False
  | f + 1, l2, g => (zi_r l2 ∧ zi_r (g 214 7) ∧ (((g 214 7) ≤ l2 → K51 g) ∧ (l2 < (g 214 7) → ((0 ≤ (6 + l1) ∧ (6 + l1) < 264) ∧ (zi_r (g 215 (6 + l1)) ∧ (((g 215 (6 + l1)) = 2 → w_M_isDry_l2 l1 K51 Q f (l2 + 1) g) ∧ (¬ (g 215 (6 + l1)) = 2 → ((0 ≤ (244 + l2) ∧ (244 + l2) < 264) ∧ (zi_r (g 215 (244 + l2)) ∧ zi_r (l1 + 1) ∧ ((¬ (g 215 (244 + l2)) = (l1 + 1) → w_M_isDry_l2 l1 K51 Q f (l2 + 1) g) ∧ ((g 215 (244 + l2)) = (l1 + 1) → w_M_hears l1 l2 g (fun _ g9 => w_M_isDry_l2 l1 K51 Q f (l2 + 1) g9))))))))))))
noncomputable def w_M_isDry (l1 : Int) (g : zi_M) (Q : Int → zi_M → Prop) : Prop := (∃ f20, w_M_isDry_l2 l1 (fun g14 => ((0 ≤ (16 + l1) ∧ (16 + l1) < 264) ∧ w_M_lesser 999 ((g14 215 (16 + l1)) + 1) g14 (fun v16 g17 => (∀ g19, g19 = zi_u g17 215 (16 + l1) v16 → Q 0 g19)))) Q f20 0 g)
set_option maxRecDepth 100000 in
theorem s_M_isDry_l2_r {E : sx_E} {d : Nat} (hd : 7 ≤ d) {l1 : Int} {K51 : zi_M → Prop} {Q : Int → zi_M → Prop} (hK51 : ∀ (g : zi_M), K51 g → zi_W E d 263 51 [some (.ref 214), some (zi_i l1), none] [] g (zi_Qv Q)) : ∀ (f : Nat) {l2 : Int} {g : zi_M}, w_M_isDry_l2 l1 K51 Q f l2 g → zi_W E d 263 2 [some (.ref 214), some (zi_i l1), some (zi_i l2)] [] g (zi_Qv Q)
  | 0, _, _, h => False.elim h
  | f + 1, l2, g, h => by
    refine zi_iload_n (pc' := 3) rfl rfl rfl ?_
    refine zi_aload_n (pc' := 4) rfl rfl rfl ?_
    refine zi_geti (pc' := 7) 7 rfl rfl rfl rfl rfl rfl ?_
    obtain ⟨o1, o2, h⟩ := h
    refine zi_icmp_ge (x := 51) (pc' := 10) rfl rfl o1 o2 (fun c13 => ?_) (fun c13 => ?_)
    · replace h := h.1 c13
      exact zi_wk (hK51 _ h) (And.intro rfl (And.intro rfl trivial))
    · replace h := h.2 c13
      refine zi_aload_n (pc' := 11) rfl rfl rfl ?_
      refine zi_getr (pc' := 14) rfl rfl rfl rfl rfl ?_
      refine zi_bipush (pc' := 16) rfl rfl (by decide) ?_
      refine zi_iload_n (pc' := 17) rfl rfl rfl ?_
      refine zi_iadd (pc' := 18) rfl rfl ?_
      obtain ⟨o3, h⟩ := h
      refine zi_iald (pc' := 19) rfl rfl rfl o3 ?_
      refine zi_iconst (pc' := 20) rfl rfl ?_
      obtain ⟨o4, h⟩ := h
      refine zi_icmp_eq (x := 45) (pc' := 23) rfl rfl o4 (by decide) (fun c12 => ?_) (fun c12 => ?_)
      · replace h := h.1 c12
        refine zi_iinc (pc' := 48) [some _, some _, some _] rfl rfl rfl rfl ?_
        refine zi_goto (x := 2) rfl ?_
        exact zi_wk (s_M_isDry_l2_r hd hK51 f h) (And.intro rfl (And.intro rfl (And.intro rfl trivial)))
      · replace h := h.2 c12
        refine zi_aload_n (pc' := 24) rfl rfl rfl ?_
        refine zi_getr (pc' := 27) rfl rfl rfl rfl rfl ?_
        refine zi_sipush (pc' := 30) rfl rfl (by decide) ?_
        refine zi_iload_n (pc' := 31) rfl rfl rfl ?_
        refine zi_iadd (pc' := 32) rfl rfl ?_
        obtain ⟨o5, h⟩ := h
        refine zi_iald (pc' := 33) rfl rfl rfl o5 ?_
        refine zi_iload_n (pc' := 34) rfl rfl rfl ?_
        refine zi_iconst (pc' := 35) rfl rfl ?_
        refine zi_iadd (pc' := 36) rfl rfl ?_
        obtain ⟨o6, o7, h⟩ := h
        refine zi_icmp_ne (x := 45) (pc' := 39) rfl rfl o6 o7 (fun c11 => ?_) (fun c11 => ?_)
        · replace h := h.1 c11
          refine zi_iinc (pc' := 48) [some _, some _, some _] rfl rfl rfl rfl ?_
          refine zi_goto (x := 2) rfl ?_
          exact zi_wk (s_M_isDry_l2_r hd hK51 f h) (And.intro rfl (And.intro rfl (And.intro rfl trivial)))
        · replace h := h.2 c11
          refine zi_aload_n (pc' := 40) rfl rfl rfl ?_
          refine zi_iload_n (pc' := 41) rfl rfl rfl ?_
          refine zi_iload_n (pc' := 42) rfl rfl rfl ?_
          refine zi_callV (d' := 6) (as := [_, _]) (pc' := 45) rfl rfl rfl rfl (Nat.lt_of_lt_of_le (by decide) hd) (s_M_hears (Nat.le_refl _) h) (zi_kv (fun g9 h => ?_))
          refine zi_iinc (pc' := 48) [some _, some _, some _] rfl rfl rfl rfl ?_
          refine zi_goto (x := 2) rfl ?_
          exact zi_wk (s_M_isDry_l2_r hd hK51 f h) (And.intro rfl (And.intro rfl (And.intro rfl trivial)))
set_option maxRecDepth 100000 in
theorem s_M_isDry_l2 {E : sx_E} {d : Nat} (hd : 7 ≤ d) {l1 : Int} {K51 : zi_M → Prop} {Q : Int → zi_M → Prop} {l2 : Int} {g : zi_M} (h : ∃ f, w_M_isDry_l2 l1 K51 Q f l2 g) (hK51 : ∀ (g : zi_M), K51 g → zi_W E d 263 51 [some (.ref 214), some (zi_i l1), none] [] g (zi_Qv Q)) : zi_W E d 263 2 [some (.ref 214), some (zi_i l1), some (zi_i l2)] [] g (zi_Qv Q) := by
  obtain ⟨f, h⟩ := h
  exact s_M_isDry_l2_r hd hK51 f h
set_option maxRecDepth 100000 in
theorem s_M_isDry {E : sx_E} {d : Nat} (hd : 7 ≤ d) {l1 : Int} {g : zi_M} {Q : Int → zi_M → Prop} (h : w_M_isDry l1 g Q) : zi_S E d 263 [.ref 214, zi_i l1] g (zi_Qv Q) := by
  refine zi_Sof jf_263 [some (.ref 214), some (zi_i l1), none] rfl (And.intro rfl (And.intro rfl trivial)) ?_
  unfold w_M_isDry at h
  refine zi_iconst (pc' := 1) rfl rfl ?_
  refine zi_istore_n (pc' := 2) [some _, some _, some _] rfl rfl rfl ?_
  refine zi_wk (s_M_isDry_l2 hd h (fun g14 h => ?_)) (And.intro rfl (And.intro rfl (And.intro rfl trivial)))
  refine zi_aload_n (pc' := 52) rfl rfl rfl ?_
  refine zi_getr (pc' := 55) rfl rfl rfl rfl rfl ?_
  refine zi_bipush (pc' := 57) rfl rfl (by decide) ?_
  refine zi_iload_n (pc' := 58) rfl rfl rfl ?_
  refine zi_iadd (pc' := 59) rfl rfl ?_
  refine zi_aload_n (pc' := 60) rfl rfl rfl ?_
  refine zi_sipush (pc' := 63) rfl rfl (by decide) ?_
  refine zi_aload_n (pc' := 64) rfl rfl rfl ?_
  refine zi_getr (pc' := 67) rfl rfl rfl rfl rfl ?_
  refine zi_bipush (pc' := 69) rfl rfl (by decide) ?_
  refine zi_iload_n (pc' := 70) rfl rfl rfl ?_
  refine zi_iadd (pc' := 71) rfl rfl ?_
  obtain ⟨o15, h⟩ := h
  refine zi_iald (pc' := 72) rfl rfl rfl o15 ?_
  refine zi_iconst (pc' := 73) rfl rfl ?_
  refine zi_iadd (pc' := 74) rfl rfl ?_
  refine zi_callV (d' := 1) (as := [_, _]) (pc' := 77) rfl rfl rfl rfl (Nat.lt_of_lt_of_le (by decide) hd) (s_M_lesser (Nat.le_refl _) h) (zi_ki (fun v16 g17 h => ?_))
  refine zi_iast (pc' := 78) rfl rfl rfl o15 ?_
  replace h := h _ rfl
  exact zi_vret rfl rfl h
-- SpoutNewsModel.canSay(I)Z
noncomputable def w_M_canSay (l1 : Int) (g : zi_M) (Q : Int → zi_M → Prop) : Prop := ((0 ≤ (6 + l1) ∧ (6 + l1) < 264) ∧ (zi_r (g 215 (6 + l1)) ∧ (((g 215 (6 + l1)) = 0 → Q 1 g) ∧ (¬ (g 215 (6 + l1)) = 0 → ((¬ (g 215 (6 + l1)) = 1 → Q 0 g) ∧ ((g 215 (6 + l1)) = 1 → (zi_r (g 215 3) ∧ (((g 215 3) < 5 → Q 0 g) ∧ (5 ≤ (g 215 3) → Q 1 g)))))))))
set_option maxRecDepth 100000 in
theorem s_M_canSay {E : sx_E} {d : Nat} (hd : 1 ≤ d) {l1 : Int} {g : zi_M} {Q : Int → zi_M → Prop} (h : w_M_canSay l1 g Q) : zi_S E d 244 [.ref 214, zi_i l1] g (zi_Qb Q) := by
  refine zi_Sof jf_244 [some (.ref 214), some (zi_i l1)] rfl (And.intro rfl (And.intro rfl trivial)) ?_
  unfold w_M_canSay at h
  refine zi_aload_n (pc' := 1) rfl rfl rfl ?_
  refine zi_getr (pc' := 4) rfl rfl rfl rfl rfl ?_
  refine zi_bipush (pc' := 6) rfl rfl (by decide) ?_
  refine zi_iload_n (pc' := 7) rfl rfl rfl ?_
  refine zi_iadd (pc' := 8) rfl rfl ?_
  obtain ⟨o1, h⟩ := h
  refine zi_iald (pc' := 9) rfl rfl rfl o1 ?_
  obtain ⟨o2, h⟩ := h
  refine zi_if_eq (x := 35) (pc' := 12) rfl rfl o2  (fun c6 => ?_) (fun c6 => ?_)
  · replace h := h.1 c6
    refine zi_iconst (pc' := 36) rfl rfl ?_
    refine zi_goto (x := 40) rfl ?_
    exact zi_zret rfl rfl (Or.inr rfl) h
  · replace h := h.2 c6
    refine zi_aload_n (pc' := 13) rfl rfl rfl ?_
    refine zi_getr (pc' := 16) rfl rfl rfl rfl rfl ?_
    refine zi_bipush (pc' := 18) rfl rfl (by decide) ?_
    refine zi_iload_n (pc' := 19) rfl rfl rfl ?_
    refine zi_iadd (pc' := 20) rfl rfl ?_
    refine zi_iald (pc' := 21) rfl rfl rfl o1 ?_
    refine zi_iconst (pc' := 22) rfl rfl ?_
    refine zi_icmp_ne (x := 39) (pc' := 25) rfl rfl o2 (by decide) (fun c5 => ?_) (fun c5 => ?_)
    · replace h := h.1 c5
      refine zi_iconst (pc' := 40) rfl rfl ?_
      exact zi_zret rfl rfl (Or.inl rfl) h
    · replace h := h.2 c5
      refine zi_aload_n (pc' := 26) rfl rfl rfl ?_
      refine zi_getr (pc' := 29) rfl rfl rfl rfl rfl ?_
      refine zi_iconst (pc' := 30) rfl rfl ?_
      refine zi_iald (pc' := 31) rfl rfl rfl (by decide) ?_
      refine zi_iconst (pc' := 32) rfl rfl ?_
      obtain ⟨o3, h⟩ := h
      refine zi_icmp_lt (x := 39) (pc' := 35) rfl rfl o3 (by decide) (fun c4 => ?_) (fun c4 => ?_)
      · replace h := h.1 c4
        refine zi_iconst (pc' := 40) rfl rfl ?_
        exact zi_zret rfl rfl (Or.inl rfl) h
      · replace h := h.2 c4
        refine zi_iconst (pc' := 36) rfl rfl ?_
        refine zi_goto (x := 40) rfl ?_
        exact zi_zret rfl rfl (Or.inr rfl) h
-- SpoutNewsModel.slipOf(II)I
noncomputable def w_M_slipOf (l1 : Int) (l2 : Int) (g : zi_M) (Q : Int → zi_M → Prop) : Prop := w_M_asks l1 l2 g (fun _ g2 => w_M_lawTells 2 (zi_w (20 * (g2 215 3))) 1000 g2 (fun v4 g5 => Q v4 g5))
set_option maxRecDepth 100000 in
theorem s_M_slipOf {E : sx_E} {d : Nat} (hd : 5 ≤ d) {l1 : Int} {l2 : Int} {g : zi_M} {Q : Int → zi_M → Prop} (h : w_M_slipOf l1 l2 g Q) : zi_S E d 256 [.ref 214, zi_i l1, zi_i l2] g (zi_Q Q) := by
  refine zi_Sof jf_256 [some (.ref 214), some (zi_i l1), some (zi_i l2)] rfl (And.intro rfl (And.intro rfl (And.intro rfl trivial))) ?_
  unfold w_M_slipOf at h
  refine zi_aload_n (pc' := 1) rfl rfl rfl ?_
  refine zi_iload_n (pc' := 2) rfl rfl rfl ?_
  refine zi_iload_n (pc' := 3) rfl rfl rfl ?_
  refine zi_callV (d' := 1) (as := [_, _]) (pc' := 6) rfl rfl rfl rfl (Nat.lt_of_lt_of_le (by decide) hd) (s_M_asks (Nat.le_refl _) h) (zi_kv (fun g2 h => ?_))
  refine zi_aload_n (pc' := 7) rfl rfl rfl ?_
  refine zi_iconst (pc' := 8) rfl rfl ?_
  refine zi_bipush (pc' := 10) rfl rfl (by decide) ?_
  refine zi_aload_n (pc' := 11) rfl rfl rfl ?_
  refine zi_getr (pc' := 14) rfl rfl rfl rfl rfl ?_
  refine zi_iconst (pc' := 15) rfl rfl ?_
  refine zi_iald (pc' := 16) rfl rfl rfl (by decide) ?_
  refine zi_imul (pc' := 17) rfl rfl ?_
  refine zi_wrap ?_
  refine zi_sipush (pc' := 20) rfl rfl (by decide) ?_
  refine zi_callV (d' := 4) (as := [_, _, _]) (pc' := 23) rfl rfl rfl rfl (Nat.lt_of_lt_of_le (by decide) hd) (s_M_lawTells (Nat.le_refl _) h) (zi_ki (fun v4 g5 h => ?_))
  exact zi_iret rfl rfl h
-- SpoutNewsModel.draw(I)I
noncomputable def w_M_draw (l1 : Int) (g : zi_M) (Q : Int → zi_M → Prop) : Prop := (∀ g1, g1 = zi_u g 215 1 (zi_w ((1664525 * (g 215 1)) + 1013904223)) → (zi_r l1 ∧ l1 ≠ 0 ∧ Q (Int.tmod (zi_ush (g1 215 1) 8) l1) g1))
set_option maxRecDepth 100000 in
theorem s_M_draw {E : sx_E} {d : Nat} (hd : 1 ≤ d) {l1 : Int} {g : zi_M} {Q : Int → zi_M → Prop} (h : w_M_draw l1 g Q) : zi_S E d 257 [.ref 214, zi_i l1] g (zi_Q Q) := by
  refine zi_Sof jf_257 [some (.ref 214), some (zi_i l1)] rfl (And.intro rfl (And.intro rfl trivial)) ?_
  unfold w_M_draw at h
  refine zi_aload_n (pc' := 1) rfl rfl rfl ?_
  refine zi_getr (pc' := 4) rfl rfl rfl rfl rfl ?_
  refine zi_iconst (pc' := 5) rfl rfl ?_
  refine zi_ldc (v := 1664525) (pc' := 7) rfl rfl (by decide +kernel) ?_
  refine zi_aload_n (pc' := 8) rfl rfl rfl ?_
  refine zi_getr (pc' := 11) rfl rfl rfl rfl rfl ?_
  refine zi_iconst (pc' := 12) rfl rfl ?_
  refine zi_iald (pc' := 13) rfl rfl rfl (by decide) ?_
  refine zi_imul (pc' := 14) rfl rfl ?_
  refine zi_ldc (v := 1013904223) (pc' := 16) rfl rfl (by decide +kernel) ?_
  refine zi_iadd (pc' := 17) rfl rfl ?_
  refine zi_wrap ?_
  refine zi_iast (pc' := 18) rfl rfl rfl (by decide) ?_
  replace h := h _ rfl
  refine zi_aload_n (pc' := 19) rfl rfl rfl ?_
  refine zi_getr (pc' := 22) rfl rfl rfl rfl rfl ?_
  refine zi_iconst (pc' := 23) rfl rfl ?_
  refine zi_iald (pc' := 24) rfl rfl rfl (by decide) ?_
  refine zi_bipush (pc' := 26) rfl rfl (by decide) ?_
  refine zi_iushr (pc' := 27) rfl rfl ?_
  refine zi_iload_n (pc' := 28) rfl rfl rfl ?_
  obtain ⟨o2, o3, h⟩ := h
  refine zi_irem (pc' := 29) rfl rfl (zi_r_ush _ _) o2 o3 ?_
  exact zi_iret rfl rfl h
-- SpoutNewsModel.saysAs(II)I
noncomputable def w_M_saysAs_b47 (l2 : Int) (s0 : Int) (g : zi_M) (Q : Int → zi_M → Prop) : Prop := (zi_r s0 ∧ ((¬ s0 = 0 → (∀ g11, g11 = zi_u g 215 5 (zi_w ((g 215 5) + 1)) → (zi_r (l2 + 1) ∧ Q (Int.tmod (l2 + 1) 16) g11))) ∧ (s0 = 0 → Q l2 g)))
noncomputable def w_M_saysAs (l1 : Int) (l2 : Int) (g : zi_M) (Q : Int → zi_M → Prop) : Prop := w_M_slipOf l1 l2 g (fun v1 g2 => (zi_r (g2 214 5) ∧ (((g2 214 5) = 0 → w_M_draw 1000 g2 (fun v5 g6 => (zi_r v5 ∧ zi_r v1 ∧ ((v1 ≤ v5 → w_M_saysAs_b47 l2 0 g6 Q) ∧ (v5 < v1 → w_M_saysAs_b47 l2 1 g6 Q))))) ∧ (¬ (g2 214 5) = 0 → (zi_r (2 * v1) ∧ (((2 * v1) < 1000 → w_M_saysAs_b47 l2 0 g2 Q) ∧ (1000 ≤ (2 * v1) → w_M_saysAs_b47 l2 1 g2 Q)))))))
set_option maxRecDepth 100000 in
theorem s_M_saysAs_b47 {E : sx_E} {d : Nat} (hd : 6 ≤ d) {l2 : Int} {s0 : Int} {Q : Int → zi_M → Prop} {g : zi_M} (h : w_M_saysAs_b47 l2 s0 g Q) : zi_W E d 255 47 [some (.ref 214), none, some (zi_i l2), none, none] [zi_i s0] g (zi_Q Q) := by
  unfold w_M_saysAs_b47 at h
  refine zi_istore (pc' := 49) [some _, none, some _, none, some _] rfl rfl rfl ?_
  refine zi_iload (pc' := 51) rfl rfl rfl ?_
  obtain ⟨o10, h⟩ := h
  refine zi_if_ne (x := 56) (pc' := 54) rfl rfl o10  (fun c13 => ?_) (fun c13 => ?_)
  · replace h := h.1 c13
    refine zi_aload_n (pc' := 57) rfl rfl rfl ?_
    refine zi_getr (pc' := 60) rfl rfl rfl rfl rfl ?_
    refine zi_iconst (pc' := 61) rfl rfl ?_
    refine zi_aload_n (pc' := 62) rfl rfl rfl ?_
    refine zi_getr (pc' := 65) rfl rfl rfl rfl rfl ?_
    refine zi_iconst (pc' := 66) rfl rfl ?_
    refine zi_iald (pc' := 67) rfl rfl rfl (by decide) ?_
    refine zi_iconst (pc' := 68) rfl rfl ?_
    refine zi_iadd (pc' := 69) rfl rfl ?_
    refine zi_wrap ?_
    refine zi_iast (pc' := 70) rfl rfl rfl (by decide) ?_
    replace h := h _ rfl
    refine zi_iload_n (pc' := 71) rfl rfl rfl ?_
    refine zi_iconst (pc' := 72) rfl rfl ?_
    refine zi_iadd (pc' := 73) rfl rfl ?_
    refine zi_bipush (pc' := 75) rfl rfl (by decide) ?_
    obtain ⟨o12, h⟩ := h
    refine zi_irem (pc' := 76) rfl rfl o12 (by decide) (by decide) ?_
    exact zi_iret rfl rfl h
  · replace h := h.2 c13
    refine zi_iload_n (pc' := 55) rfl rfl rfl ?_
    exact zi_iret rfl rfl h
set_option maxRecDepth 100000 in
theorem s_M_saysAs {E : sx_E} {d : Nat} (hd : 6 ≤ d) {l1 : Int} {l2 : Int} {g : zi_M} {Q : Int → zi_M → Prop} (h : w_M_saysAs l1 l2 g Q) : zi_S E d 255 [.ref 214, zi_i l1, zi_i l2] g (zi_Q Q) := by
  refine zi_Sof jf_255 [some (.ref 214), some (zi_i l1), some (zi_i l2), none, none] rfl (And.intro rfl (And.intro rfl (And.intro rfl trivial))) ?_
  unfold w_M_saysAs at h
  refine zi_aload_n (pc' := 1) rfl rfl rfl ?_
  refine zi_iload_n (pc' := 2) rfl rfl rfl ?_
  refine zi_iload_n (pc' := 3) rfl rfl rfl ?_
  refine zi_callV (d' := 5) (as := [_, _]) (pc' := 6) rfl rfl rfl rfl (Nat.lt_of_lt_of_le (by decide) hd) (s_M_slipOf (Nat.le_refl _) h) (zi_ki (fun v1 g2 h => ?_))
  refine zi_istore_n (pc' := 7) [some _, some _, some _, some _, none] rfl rfl rfl ?_
  refine zi_aload_n (pc' := 8) rfl rfl rfl ?_
  refine zi_geti (pc' := 11) 5 rfl rfl rfl rfl rfl rfl ?_
  obtain ⟨o4, h⟩ := h
  refine zi_if_eq (x := 31) (pc' := 14) rfl rfl o4  (fun c17 => ?_) (fun c17 => ?_)
  · replace h := h.1 c17
    refine zi_aload_n (pc' := 32) rfl rfl rfl ?_
    refine zi_sipush (pc' := 35) rfl rfl (by decide) ?_
    refine zi_callV (d' := 1) (as := [_]) (pc' := 38) rfl rfl rfl rfl (Nat.lt_of_lt_of_le (by decide) hd) (s_M_draw (Nat.le_refl _) h) (zi_ki (fun v5 g6 h => ?_))
    refine zi_iload_n (pc' := 39) rfl rfl rfl ?_
    obtain ⟨o8, o9, h⟩ := h
    refine zi_icmp_ge (x := 46) (pc' := 42) rfl rfl o8 o9 (fun c14 => ?_) (fun c14 => ?_)
    · replace h := h.1 c14
      refine zi_iconst (pc' := 47) rfl rfl ?_
      exact zi_wk (s_M_saysAs_b47 hd h) (And.intro rfl (And.intro rfl trivial))
    · replace h := h.2 c14
      refine zi_iconst (pc' := 43) rfl rfl ?_
      refine zi_goto (x := 47) rfl ?_
      exact zi_wk (s_M_saysAs_b47 hd h) (And.intro rfl (And.intro rfl trivial))
  · replace h := h.2 c17
    refine zi_iconst (pc' := 15) rfl rfl ?_
    refine zi_iload_n (pc' := 16) rfl rfl rfl ?_
    refine zi_imul (pc' := 17) rfl rfl ?_
    refine zi_sipush (pc' := 20) rfl rfl (by decide) ?_
    obtain ⟨o15, h⟩ := h
    refine zi_icmp_lt (x := 27) (pc' := 23) rfl rfl o15 (by decide) (fun c16 => ?_) (fun c16 => ?_)
    · replace h := h.1 c16
      refine zi_iconst (pc' := 28) rfl rfl ?_
      refine zi_goto (x := 47) rfl ?_
      exact zi_wk (s_M_saysAs_b47 hd h) (And.intro rfl (And.intro rfl trivial))
    · replace h := h.2 c16
      refine zi_iconst (pc' := 24) rfl rfl ?_
      refine zi_goto (x := 47) rfl ?_
      exact zi_wk (s_M_saysAs_b47 hd h) (And.intro rfl (And.intro rfl trivial))
-- SpoutNewsModel.into(I)I
noncomputable def w_M_into (l1 : Int) (g : zi_M) (Q : Int → zi_M → Prop) : Prop := ((0 ≤ l1 ∧ l1 < 20) ∧ Q ((g 232 l1) - 1) g)
set_option maxRecDepth 100000 in
theorem s_M_into {E : sx_E} {d : Nat} (hd : 1 ≤ d) {l1 : Int} {g : zi_M} {Q : Int → zi_M → Prop} (h : w_M_into l1 g Q) : zi_S E d 259 [.ref 214, zi_i l1] g (zi_Q Q) := by
  refine zi_Sof jf_259 [some (.ref 214), some (zi_i l1)] rfl (And.intro rfl (And.intro rfl trivial)) ?_
  unfold w_M_into at h
  refine zi_aload_n (pc' := 1) rfl rfl rfl ?_
  refine zi_getr (pc' := 4) rfl rfl rfl rfl rfl ?_
  refine zi_iload_n (pc' := 5) rfl rfl rfl ?_
  obtain ⟨o1, h⟩ := h
  refine zi_iald (pc' := 6) rfl rfl rfl o1 ?_
  refine zi_iconst (pc' := 7) rfl rfl ?_
  refine zi_isub (pc' := 8) rfl rfl ?_
  exact zi_iret rfl rfl h
-- SpoutNewsModel.saysFirst(I)V
noncomputable def w_M_saysFirst_l14 (l1 : Int) (K65 : zi_M → Prop) (Q : Int → zi_M → Prop) : Nat → Int → zi_M → Prop
  | 0, _, _ => False
  | f + 1, l3, g => ((0 ≤ (26 + l1) ∧ (26 + l1) < 264) ∧ (zi_r (l3 + 1) ∧ zi_r (g 215 (26 + l1)) ∧ (((g 215 (26 + l1)) ≤ (l3 + 1) → K65 g) ∧ ((l3 + 1) < (g 215 (26 + l1)) → ((0 ≤ (((36 + (20 * l1)) + l3) + 1) ∧ (((36 + (20 * l1)) + l3) + 1) < 264) ∧ ((0 ≤ ((36 + (20 * l1)) + l3) ∧ ((36 + (20 * l1)) + l3) < 264) ∧ (∀ g12, g12 = zi_u g 215 ((36 + (20 * l1)) + l3) (g 215 (((36 + (20 * l1)) + l3) + 1)) → w_M_saysFirst_l14 l1 K65 Q f (l3 + 1) g12)))))))
noncomputable def w_M_saysFirst_l108 (l1 : Int) (l2 : Int) (K160 : zi_M → Prop) (Q : Int → zi_M → Prop) : Nat → Int → zi_M → Prop
  | 0, _, _ => False
  | f + 1, l3, g => (zi_r l3 ∧ ((6 ≤ l3 → K160 g) ∧ (l3 < 6 → ((0 ≤ (252 + l3) ∧ (252 + l3) < 264) ∧ (zi_r (g 215 (252 + l3)) ∧ zi_r (l1 + 1) ∧ ((¬ (g 215 (252 + l3)) = (l1 + 1) → w_M_saysFirst_l108 l1 l2 K160 Q f (l3 + 1) g) ∧ ((g 215 (252 + l3)) = (l1 + 1) → ((0 ≤ (258 + l3) ∧ (258 + l3) < 264) ∧ (∀ g26, g26 = zi_u g 215 (258 + l3) (zi_or (g 215 (258 + l3)) (zi_shl 1 l2)) → w_M_saysFirst_l108 l1 l2 K160 Q f (l3 + 1) g26)))))))))
noncomputable def w_M_saysFirst (l1 : Int) (g : zi_M) (Q : Int → zi_M → Prop) : Prop := w_M_heardAt l1 0 g (fun v1 g2 => w_M_saysAs l1 v1 g2 (fun v4 g5 => (∃ f44, w_M_saysFirst_l14 l1 (fun g14 => ((0 ≤ (26 + l1) ∧ (26 + l1) < 264) ∧ (∀ g16, g16 = zi_u g14 215 (26 + l1) ((g14 215 (26 + l1)) - 1) → (∀ g17, g17 = zi_u g16 215 4 (zi_w ((g16 215 4) + 1)) → w_M_notes 1 l1 v4 g17 (fun _ g19 => (∃ f43, w_M_saysFirst_l108 l1 v4 (fun g29 => w_M_into l1 g29 (fun v30 g31 => (zi_r v30 ∧ ((¬ v30 = (-1) → w_M_into l1 g31 (fun v34 g35 => ((0 ≤ (g31 214 43) ∧ (g31 214 43) < 90) ∧ (∀ g38, g38 = zi_u g35 237 (g31 214 43) v34 → ((0 ≤ (g38 214 43) ∧ (g38 214 43) < 90) ∧ (∀ g40, g40 = zi_u g38 238 (g38 214 43) v4 → (∀ g41, g41 = zi_u g40 214 43 ((g40 214 43) + 1) → Q 0 g41))))))) ∧ (v30 = (-1) → Q 0 g31))))) Q f43 0 g19)))))) Q f44 0 g5)))
set_option maxRecDepth 100000 in
theorem s_M_saysFirst_l14_r {E : sx_E} {d : Nat} (hd : 7 ≤ d) {l1 : Int} {x2 : Int} {K65 : zi_M → Prop} {Q : Int → zi_M → Prop} (hK65 : ∀ (g : zi_M), K65 g → zi_W E d 253 65 [some (.ref 214), some (zi_i l1), some (zi_i x2), none] [] g (zi_Qv Q)) : ∀ (f : Nat) {l3 : Int} {g : zi_M}, w_M_saysFirst_l14 l1 K65 Q f l3 g → zi_W E d 253 14 [some (.ref 214), some (zi_i l1), some (zi_i x2), some (zi_i l3)] [] g (zi_Qv Q)
  | 0, _, _, h => False.elim h
  | f + 1, l3, g, h => by
    refine zi_iload_n (pc' := 15) rfl rfl rfl ?_
    refine zi_iconst (pc' := 16) rfl rfl ?_
    refine zi_iadd (pc' := 17) rfl rfl ?_
    refine zi_aload_n (pc' := 18) rfl rfl rfl ?_
    refine zi_getr (pc' := 21) rfl rfl rfl rfl rfl ?_
    refine zi_bipush (pc' := 23) rfl rfl (by decide) ?_
    refine zi_iload_n (pc' := 24) rfl rfl rfl ?_
    refine zi_iadd (pc' := 25) rfl rfl ?_
    obtain ⟨o7, h⟩ := h
    refine zi_iald (pc' := 26) rfl rfl rfl o7 ?_
    obtain ⟨o8, o9, h⟩ := h
    refine zi_icmp_ge (x := 65) (pc' := 29) rfl rfl o8 o9 (fun c13 => ?_) (fun c13 => ?_)
    · replace h := h.1 c13
      exact zi_wk (hK65 _ h) (And.intro rfl (And.intro rfl (And.intro rfl trivial)))
    · replace h := h.2 c13
      refine zi_aload_n (pc' := 30) rfl rfl rfl ?_
      refine zi_getr (pc' := 33) rfl rfl rfl rfl rfl ?_
      refine zi_bipush (pc' := 35) rfl rfl (by decide) ?_
      refine zi_bipush (pc' := 37) rfl rfl (by decide) ?_
      refine zi_iload_n (pc' := 38) rfl rfl rfl ?_
      refine zi_imul (pc' := 39) rfl rfl ?_
      refine zi_iadd (pc' := 40) rfl rfl ?_
      refine zi_iload_n (pc' := 41) rfl rfl rfl ?_
      refine zi_iadd (pc' := 42) rfl rfl ?_
      refine zi_aload_n (pc' := 43) rfl rfl rfl ?_
      refine zi_getr (pc' := 46) rfl rfl rfl rfl rfl ?_
      refine zi_bipush (pc' := 48) rfl rfl (by decide) ?_
      refine zi_bipush (pc' := 50) rfl rfl (by decide) ?_
      refine zi_iload_n (pc' := 51) rfl rfl rfl ?_
      refine zi_imul (pc' := 52) rfl rfl ?_
      refine zi_iadd (pc' := 53) rfl rfl ?_
      refine zi_iload_n (pc' := 54) rfl rfl rfl ?_
      refine zi_iadd (pc' := 55) rfl rfl ?_
      refine zi_iconst (pc' := 56) rfl rfl ?_
      refine zi_iadd (pc' := 57) rfl rfl ?_
      obtain ⟨o10, h⟩ := h
      refine zi_iald (pc' := 58) rfl rfl rfl o10 ?_
      obtain ⟨o11, h⟩ := h
      refine zi_iast (pc' := 59) rfl rfl rfl o11 ?_
      replace h := h _ rfl
      refine zi_iinc (pc' := 62) [some _, some _, some _, some _] rfl rfl rfl rfl ?_
      refine zi_goto (x := 14) rfl ?_
      exact zi_wk (s_M_saysFirst_l14_r hd hK65 f h) (And.intro rfl (And.intro rfl (And.intro rfl (And.intro rfl trivial))))
set_option maxRecDepth 100000 in
theorem s_M_saysFirst_l14 {E : sx_E} {d : Nat} (hd : 7 ≤ d) {l1 : Int} {x2 : Int} {K65 : zi_M → Prop} {Q : Int → zi_M → Prop} {l3 : Int} {g : zi_M} (h : ∃ f, w_M_saysFirst_l14 l1 K65 Q f l3 g) (hK65 : ∀ (g : zi_M), K65 g → zi_W E d 253 65 [some (.ref 214), some (zi_i l1), some (zi_i x2), none] [] g (zi_Qv Q)) : zi_W E d 253 14 [some (.ref 214), some (zi_i l1), some (zi_i x2), some (zi_i l3)] [] g (zi_Qv Q) := by
  obtain ⟨f, h⟩ := h
  exact s_M_saysFirst_l14_r hd hK65 f h
set_option maxRecDepth 100000 in
theorem s_M_saysFirst_l108_r {E : sx_E} {d : Nat} (hd : 7 ≤ d) {l1 : Int} {l2 : Int} {K160 : zi_M → Prop} {Q : Int → zi_M → Prop} (hK160 : ∀ (g : zi_M), K160 g → zi_W E d 253 160 [some (.ref 214), some (zi_i l1), some (zi_i l2), none] [] g (zi_Qv Q)) : ∀ (f : Nat) {l3 : Int} {g : zi_M}, w_M_saysFirst_l108 l1 l2 K160 Q f l3 g → zi_W E d 253 108 [some (.ref 214), some (zi_i l1), some (zi_i l2), some (zi_i l3)] [] g (zi_Qv Q)
  | 0, _, _, h => False.elim h
  | f + 1, l3, g, h => by
    refine zi_iload_n (pc' := 109) rfl rfl rfl ?_
    refine zi_bipush (pc' := 111) rfl rfl (by decide) ?_
    obtain ⟨o21, h⟩ := h
    refine zi_icmp_ge (x := 160) (pc' := 114) rfl rfl o21 (by decide) (fun c28 => ?_) (fun c28 => ?_)
    · replace h := h.1 c28
      exact zi_wk (hK160 _ h) (And.intro rfl (And.intro rfl (And.intro rfl trivial)))
    · replace h := h.2 c28
      refine zi_aload_n (pc' := 115) rfl rfl rfl ?_
      refine zi_getr (pc' := 118) rfl rfl rfl rfl rfl ?_
      refine zi_sipush (pc' := 121) rfl rfl (by decide) ?_
      refine zi_iload_n (pc' := 122) rfl rfl rfl ?_
      refine zi_iadd (pc' := 123) rfl rfl ?_
      obtain ⟨o22, h⟩ := h
      refine zi_iald (pc' := 124) rfl rfl rfl o22 ?_
      refine zi_iload_n (pc' := 125) rfl rfl rfl ?_
      refine zi_iconst (pc' := 126) rfl rfl ?_
      refine zi_iadd (pc' := 127) rfl rfl ?_
      obtain ⟨o23, o24, h⟩ := h
      refine zi_icmp_ne (x := 154) (pc' := 130) rfl rfl o23 o24 (fun c27 => ?_) (fun c27 => ?_)
      · replace h := h.1 c27
        refine zi_iinc (pc' := 157) [some _, some _, some _, some _] rfl rfl rfl rfl ?_
        refine zi_goto (x := 108) rfl ?_
        exact zi_wk (s_M_saysFirst_l108_r hd hK160 f h) (And.intro rfl (And.intro rfl (And.intro rfl (And.intro rfl trivial))))
      · replace h := h.2 c27
        refine zi_aload_n (pc' := 131) rfl rfl rfl ?_
        refine zi_getr (pc' := 134) rfl rfl rfl rfl rfl ?_
        refine zi_sipush (pc' := 137) rfl rfl (by decide) ?_
        refine zi_iload_n (pc' := 138) rfl rfl rfl ?_
        refine zi_iadd (pc' := 139) rfl rfl ?_
        refine zi_aload_n (pc' := 140) rfl rfl rfl ?_
        refine zi_getr (pc' := 143) rfl rfl rfl rfl rfl ?_
        refine zi_sipush (pc' := 146) rfl rfl (by decide) ?_
        refine zi_iload_n (pc' := 147) rfl rfl rfl ?_
        refine zi_iadd (pc' := 148) rfl rfl ?_
        obtain ⟨o25, h⟩ := h
        refine zi_iald (pc' := 149) rfl rfl rfl o25 ?_
        refine zi_iconst (pc' := 150) rfl rfl ?_
        refine zi_iload_n (pc' := 151) rfl rfl rfl ?_
        refine zi_ishl (pc' := 152) rfl rfl ?_
        refine zi_ior (pc' := 153) rfl rfl ?_
        refine zi_iast (pc' := 154) rfl rfl rfl o25 ?_
        replace h := h _ rfl
        refine zi_iinc (pc' := 157) [some _, some _, some _, some _] rfl rfl rfl rfl ?_
        refine zi_goto (x := 108) rfl ?_
        exact zi_wk (s_M_saysFirst_l108_r hd hK160 f h) (And.intro rfl (And.intro rfl (And.intro rfl (And.intro rfl trivial))))
set_option maxRecDepth 100000 in
theorem s_M_saysFirst_l108 {E : sx_E} {d : Nat} (hd : 7 ≤ d) {l1 : Int} {l2 : Int} {K160 : zi_M → Prop} {Q : Int → zi_M → Prop} {l3 : Int} {g : zi_M} (h : ∃ f, w_M_saysFirst_l108 l1 l2 K160 Q f l3 g) (hK160 : ∀ (g : zi_M), K160 g → zi_W E d 253 160 [some (.ref 214), some (zi_i l1), some (zi_i l2), none] [] g (zi_Qv Q)) : zi_W E d 253 108 [some (.ref 214), some (zi_i l1), some (zi_i l2), some (zi_i l3)] [] g (zi_Qv Q) := by
  obtain ⟨f, h⟩ := h
  exact s_M_saysFirst_l108_r hd hK160 f h
set_option maxRecDepth 100000 in
theorem s_M_saysFirst {E : sx_E} {d : Nat} (hd : 7 ≤ d) {l1 : Int} {g : zi_M} {Q : Int → zi_M → Prop} (h : w_M_saysFirst l1 g Q) : zi_S E d 253 [.ref 214, zi_i l1] g (zi_Qv Q) := by
  refine zi_Sof jf_253 [some (.ref 214), some (zi_i l1), none, none] rfl (And.intro rfl (And.intro rfl trivial)) ?_
  unfold w_M_saysFirst at h
  refine zi_aload_n (pc' := 1) rfl rfl rfl ?_
  refine zi_iload_n (pc' := 2) rfl rfl rfl ?_
  refine zi_aload_n (pc' := 3) rfl rfl rfl ?_
  refine zi_iload_n (pc' := 4) rfl rfl rfl ?_
  refine zi_iconst (pc' := 5) rfl rfl ?_
  refine zi_callV (d' := 1) (as := [_, _]) (pc' := 8) rfl rfl rfl rfl (Nat.lt_of_lt_of_le (by decide) hd) (s_M_heardAt (Nat.le_refl _) h) (zi_ki (fun v1 g2 h => ?_))
  refine zi_callV (d' := 6) (as := [_, _]) (pc' := 11) rfl rfl rfl rfl (Nat.lt_of_lt_of_le (by decide) hd) (s_M_saysAs (Nat.le_refl _) h) (zi_ki (fun v4 g5 h => ?_))
  refine zi_istore_n (pc' := 12) [some _, some _, some _, none] rfl rfl rfl ?_
  refine zi_iconst (pc' := 13) rfl rfl ?_
  refine zi_istore_n (pc' := 14) [some _, some _, some _, some _] rfl rfl rfl ?_
  refine zi_wk (s_M_saysFirst_l14 hd h (fun g14 h => ?_)) (And.intro rfl (And.intro rfl (And.intro rfl (And.intro rfl trivial))))
  refine zi_aload_n (pc' := 66) rfl rfl rfl ?_
  refine zi_getr (pc' := 69) rfl rfl rfl rfl rfl ?_
  refine zi_bipush (pc' := 71) rfl rfl (by decide) ?_
  refine zi_iload_n (pc' := 72) rfl rfl rfl ?_
  refine zi_iadd (pc' := 73) rfl rfl ?_
  refine zi_aload_n (pc' := 74) rfl rfl rfl ?_
  refine zi_getr (pc' := 77) rfl rfl rfl rfl rfl ?_
  refine zi_bipush (pc' := 79) rfl rfl (by decide) ?_
  refine zi_iload_n (pc' := 80) rfl rfl rfl ?_
  refine zi_iadd (pc' := 81) rfl rfl ?_
  obtain ⟨o15, h⟩ := h
  refine zi_iald (pc' := 82) rfl rfl rfl o15 ?_
  refine zi_iconst (pc' := 83) rfl rfl ?_
  refine zi_isub (pc' := 84) rfl rfl ?_
  refine zi_iast (pc' := 85) rfl rfl rfl o15 ?_
  replace h := h _ rfl
  refine zi_aload_n (pc' := 86) rfl rfl rfl ?_
  refine zi_getr (pc' := 89) rfl rfl rfl rfl rfl ?_
  refine zi_iconst (pc' := 90) rfl rfl ?_
  refine zi_aload_n (pc' := 91) rfl rfl rfl ?_
  refine zi_getr (pc' := 94) rfl rfl rfl rfl rfl ?_
  refine zi_iconst (pc' := 95) rfl rfl ?_
  refine zi_iald (pc' := 96) rfl rfl rfl (by decide) ?_
  refine zi_iconst (pc' := 97) rfl rfl ?_
  refine zi_iadd (pc' := 98) rfl rfl ?_
  refine zi_wrap ?_
  refine zi_iast (pc' := 99) rfl rfl rfl (by decide) ?_
  replace h := h _ rfl
  refine zi_aload_n (pc' := 100) rfl rfl rfl ?_
  refine zi_iconst (pc' := 101) rfl rfl ?_
  refine zi_iload_n (pc' := 102) rfl rfl rfl ?_
  refine zi_iload_n (pc' := 103) rfl rfl rfl ?_
  refine zi_callV (d' := 1) (as := [_, _, _]) (pc' := 106) rfl rfl rfl rfl (Nat.lt_of_lt_of_le (by decide) hd) (s_M_notes (Nat.le_refl _) h) (zi_kv (fun g19 h => ?_))
  refine zi_iconst (pc' := 107) rfl rfl ?_
  refine zi_istore_n (pc' := 108) [some _, some _, some _, some _] rfl rfl rfl ?_
  refine zi_wk (s_M_saysFirst_l108 hd h (fun g29 h => ?_)) (And.intro rfl (And.intro rfl (And.intro rfl (And.intro rfl trivial))))
  refine zi_aload_n (pc' := 161) rfl rfl rfl ?_
  refine zi_iload_n (pc' := 162) rfl rfl rfl ?_
  refine zi_callV (d' := 1) (as := [_]) (pc' := 165) rfl rfl rfl rfl (Nat.lt_of_lt_of_le (by decide) hd) (s_M_into (Nat.le_refl _) h) (zi_ki (fun v30 g31 h => ?_))
  refine zi_iconst (pc' := 166) rfl rfl ?_
  obtain ⟨o33, h⟩ := h
  refine zi_icmp_ne (x := 170) (pc' := 169) rfl rfl o33 (by decide) (fun c42 => ?_) (fun c42 => ?_)
  · replace h := h.1 c42
    refine zi_aload_n (pc' := 171) rfl rfl rfl ?_
    refine zi_getr (pc' := 174) rfl rfl rfl rfl rfl ?_
    refine zi_aload_n (pc' := 175) rfl rfl rfl ?_
    refine zi_geti (pc' := 178) 43 rfl rfl rfl rfl rfl rfl ?_
    refine zi_aload_n (pc' := 179) rfl rfl rfl ?_
    refine zi_iload_n (pc' := 180) rfl rfl rfl ?_
    refine zi_callV (d' := 1) (as := [_]) (pc' := 183) rfl rfl rfl rfl (Nat.lt_of_lt_of_le (by decide) hd) (s_M_into (Nat.le_refl _) h) (zi_ki (fun v34 g35 h => ?_))
    obtain ⟨o37, h⟩ := h
    refine zi_iast (pc' := 184) rfl rfl rfl o37 ?_
    replace h := h _ rfl
    refine zi_aload_n (pc' := 185) rfl rfl rfl ?_
    refine zi_getr (pc' := 188) rfl rfl rfl rfl rfl ?_
    refine zi_aload_n (pc' := 189) rfl rfl rfl ?_
    refine zi_geti (pc' := 192) 43 rfl rfl rfl rfl rfl rfl ?_
    refine zi_iload_n (pc' := 193) rfl rfl rfl ?_
    obtain ⟨o39, h⟩ := h
    refine zi_iast (pc' := 194) rfl rfl rfl o39 ?_
    replace h := h _ rfl
    refine zi_aload_n (pc' := 195) rfl rfl rfl ?_
    refine zi_aload_n (pc' := 196) rfl rfl rfl ?_
    refine zi_geti (pc' := 199) 43 rfl rfl rfl rfl rfl rfl ?_
    refine zi_iconst (pc' := 200) rfl rfl ?_
    refine zi_iadd (pc' := 201) rfl rfl ?_
    refine zi_puti (pc' := 204) 43 rfl rfl rfl rfl rfl  ?_
    replace h := h _ rfl
    exact zi_vret rfl rfl h
  · replace h := h.2 c42
    exact zi_vret rfl rfl h
-- SpoutNewsModel.jetOf(I)I
noncomputable def w_M_jetOf (l1 : Int) (g : zi_M) (Q : Int → zi_M → Prop) : Prop := w_M_asks l1 0 g (fun _ g2 => w_M_lawTells 1 (g2 215 3) 9 g2 (fun v4 g5 => Q v4 g5))
set_option maxRecDepth 100000 in
theorem s_M_jetOf {E : sx_E} {d : Nat} (hd : 5 ≤ d) {l1 : Int} {g : zi_M} {Q : Int → zi_M → Prop} (h : w_M_jetOf l1 g Q) : zi_S E d 245 [.ref 214, zi_i l1] g (zi_Q Q) := by
  refine zi_Sof jf_245 [some (.ref 214), some (zi_i l1)] rfl (And.intro rfl (And.intro rfl trivial)) ?_
  unfold w_M_jetOf at h
  refine zi_aload_n (pc' := 1) rfl rfl rfl ?_
  refine zi_iload_n (pc' := 2) rfl rfl rfl ?_
  refine zi_iconst (pc' := 3) rfl rfl ?_
  refine zi_callV (d' := 1) (as := [_, _]) (pc' := 6) rfl rfl rfl rfl (Nat.lt_of_lt_of_le (by decide) hd) (s_M_asks (Nat.le_refl _) h) (zi_kv (fun g2 h => ?_))
  refine zi_aload_n (pc' := 7) rfl rfl rfl ?_
  refine zi_iconst (pc' := 8) rfl rfl ?_
  refine zi_aload_n (pc' := 9) rfl rfl rfl ?_
  refine zi_getr (pc' := 12) rfl rfl rfl rfl rfl ?_
  refine zi_iconst (pc' := 13) rfl rfl ?_
  refine zi_iald (pc' := 14) rfl rfl rfl (by decide) ?_
  refine zi_bipush (pc' := 16) rfl rfl (by decide) ?_
  refine zi_callV (d' := 4) (as := [_, _, _]) (pc' := 19) rfl rfl rfl rfl (Nat.lt_of_lt_of_le (by decide) hd) (s_M_lawTells (Nat.le_refl _) h) (zi_ki (fun v4 g5 h => ?_))
  exact zi_iret rfl rfl h
-- SpoutNewsModel.rains()I
noncomputable def w_M_rains_l56 (l2 : Int) (l3 : Int) (K73 : zi_M → Prop) (Q : Int → zi_M → Prop) : Nat → Int → zi_M → Prop
  | 0, _, _ => False
  | f + 1, l4, g => (zi_r l4 ∧ zi_r l3 ∧ ((l3 ≤ l4 → K73 g) ∧ (l4 < l3 → w_M_saysFirst l2 g (fun _ g10 => w_M_rains_l56 l2 l3 K73 Q f (l4 + 1) g10))))
noncomputable def w_M_rains_l14 (K79 : zi_M → Prop) (Q : Int → zi_M → Prop) : Nat → Int → zi_M → Prop
  | 0, _, _ => False
  | f + 1, l2, g => (zi_r l2 ∧ zi_r (g 214 6) ∧ (((g 214 6) ≤ l2 → K79 g) ∧ (l2 < (g 214 6) → w_M_canSay l2 g (fun v4 g5 => ((v4 = 0 → (∃ f14, w_M_rains_l56 l2 0 (fun g13 => w_M_rains_l14 K79 Q f (l2 + 1) g13) Q f14 0 g5)) ∧ (¬ v4 = 0 → ((0 ≤ (26 + l2) ∧ (26 + l2) < 264) ∧ w_M_jetOf l2 g5 (fun v16 g17 => w_M_lesser (g5 215 (26 + l2)) v16 g17 (fun v19 g20 => (∃ f23, w_M_rains_l56 l2 v19 (fun g22 => w_M_rains_l14 K79 Q f (l2 + 1) g22) Q f23 0 g20))))))))))
noncomputable def w_M_rains_l81 (K149 : zi_M → Prop) (Q : Int → zi_M → Prop) : Nat → Int → zi_M → Prop
  | 0, _, _ => False
  | f + 1, l2, g => (zi_r l2 ∧ zi_r (g 214 43) ∧ (((g 214 43) ≤ l2 → K149 g) ∧ (l2 < (g 214 43) → ((0 ≤ l2 ∧ l2 < 90) ∧ ((0 ≤ (6 + (g 237 l2)) ∧ (6 + (g 237 l2)) < 264) ∧ (zi_r (g 215 (6 + (g 237 l2))) ∧ (((g 215 (6 + (g 237 l2))) = 2 → w_M_rains_l81 K149 Q f (l2 + 1) g) ∧ (¬ (g 215 (6 + (g 237 l2))) = 2 → w_M_comesTo (g 237 l2) (g 238 l2) g (fun v32 g33 => ((v32 = 0 → w_M_rains_l81 K149 Q f (l2 + 1) g33) ∧ (¬ v32 = 0 → w_M_notes 2 (g33 237 l2) (g33 238 l2) g33 (fun _ g36 => w_M_rains_l81 K149 Q f (l2 + 1) g36))))))))))))
noncomputable def w_M_rains_l151 (K175 : zi_M → Prop) (Q : Int → zi_M → Prop) : Nat → Int → zi_M → Prop
  | 0, _, _ => False
  | f + 1, l2, g => (zi_r l2 ∧ zi_r (g 214 6) ∧ (((g 214 6) ≤ l2 → K175 g) ∧ (l2 < (g 214 6) → ((0 ≤ (16 + l2) ∧ (16 + l2) < 264) ∧ (∀ g45, g45 = zi_u g 215 (16 + l2) 0 → w_M_rains_l151 K175 Q f (l2 + 1) g45)))))
noncomputable def w_M_rains (g : zi_M) (Q : Int → zi_M → Prop) : Prop := (∀ g1, g1 = zi_u g 214 43 0 → (∃ f50, w_M_rains_l14 (fun g26 => (∃ f49, w_M_rains_l81 (fun g41 => (∃ f48, w_M_rains_l151 (fun g47 => Q (zi_w ((g47 215 4) - (g 215 4))) g47) Q f48 0 g41)) Q f49 0 g26)) Q f50 0 g1))
set_option maxRecDepth 100000 in
theorem s_M_rains_l56_r {E : sx_E} {d : Nat} (hd : 8 ≤ d) {l2 : Int} {l3 : Int} {x1 : Int} {K73 : zi_M → Prop} {Q : Int → zi_M → Prop} (hK73 : ∀ (g : zi_M), K73 g → zi_W E d 243 73 [some (.ref 214), some (zi_i x1), some (zi_i l2), some (zi_i l3), none] [] g (zi_Q Q)) : ∀ (f : Nat) {l4 : Int} {g : zi_M}, w_M_rains_l56 l2 l3 K73 Q f l4 g → zi_W E d 243 56 [some (.ref 214), some (zi_i x1), some (zi_i l2), some (zi_i l3), some (zi_i l4)] [] g (zi_Q Q)
  | 0, _, _, h => False.elim h
  | f + 1, l4, g, h => by
    refine zi_iload (pc' := 58) rfl rfl rfl ?_
    refine zi_iload_n (pc' := 59) rfl rfl rfl ?_
    obtain ⟨o7, o8, h⟩ := h
    refine zi_icmp_ge (x := 73) (pc' := 62) rfl rfl o7 o8 (fun c12 => ?_) (fun c12 => ?_)
    · replace h := h.1 c12
      exact zi_wk (hK73 _ h) (And.intro rfl (And.intro rfl (And.intro rfl (And.intro rfl trivial))))
    · replace h := h.2 c12
      refine zi_aload_n (pc' := 63) rfl rfl rfl ?_
      refine zi_iload_n (pc' := 64) rfl rfl rfl ?_
      refine zi_callV (d' := 7) (as := [_]) (pc' := 67) rfl rfl rfl rfl (Nat.lt_of_lt_of_le (by decide) hd) (s_M_saysFirst (Nat.le_refl _) h) (zi_kv (fun g10 h => ?_))
      refine zi_iinc (pc' := 70) [some _, some _, some _, some _, some _] rfl rfl rfl rfl ?_
      refine zi_goto (x := 56) rfl ?_
      exact zi_wk (s_M_rains_l56_r hd hK73 f h) (And.intro rfl (And.intro rfl (And.intro rfl (And.intro rfl (And.intro rfl trivial)))))
set_option maxRecDepth 100000 in
theorem s_M_rains_l56 {E : sx_E} {d : Nat} (hd : 8 ≤ d) {l2 : Int} {l3 : Int} {x1 : Int} {K73 : zi_M → Prop} {Q : Int → zi_M → Prop} {l4 : Int} {g : zi_M} (h : ∃ f, w_M_rains_l56 l2 l3 K73 Q f l4 g) (hK73 : ∀ (g : zi_M), K73 g → zi_W E d 243 73 [some (.ref 214), some (zi_i x1), some (zi_i l2), some (zi_i l3), none] [] g (zi_Q Q)) : zi_W E d 243 56 [some (.ref 214), some (zi_i x1), some (zi_i l2), some (zi_i l3), some (zi_i l4)] [] g (zi_Q Q) := by
  obtain ⟨f, h⟩ := h
  exact s_M_rains_l56_r hd hK73 f h
set_option maxRecDepth 100000 in
theorem s_M_rains_l14_r {E : sx_E} {d : Nat} (hd : 8 ≤ d) {x1 : Int} {K79 : zi_M → Prop} {Q : Int → zi_M → Prop} (hK79 : ∀ (g : zi_M), K79 g → zi_W E d 243 79 [some (.ref 214), some (zi_i x1), none, none, none] [] g (zi_Q Q)) : ∀ (f : Nat) {l2 : Int} {g : zi_M}, w_M_rains_l14 K79 Q f l2 g → zi_W E d 243 14 [some (.ref 214), some (zi_i x1), some (zi_i l2), none, none] [] g (zi_Q Q)
  | 0, _, _, h => False.elim h
  | f + 1, l2, g, h => by
    refine zi_iload_n (pc' := 15) rfl rfl rfl ?_
    refine zi_aload_n (pc' := 16) rfl rfl rfl ?_
    refine zi_geti (pc' := 19) 6 rfl rfl rfl rfl rfl rfl ?_
    obtain ⟨o2, o3, h⟩ := h
    refine zi_icmp_ge (x := 79) (pc' := 22) rfl rfl o2 o3 (fun c25 => ?_) (fun c25 => ?_)
    · replace h := h.1 c25
      exact zi_wk (hK79 _ h) (And.intro rfl (And.intro rfl trivial))
    · replace h := h.2 c25
      refine zi_aload_n (pc' := 23) rfl rfl rfl ?_
      refine zi_iload_n (pc' := 24) rfl rfl rfl ?_
      refine zi_callV (d' := 1) (as := [_]) (pc' := 27) rfl rfl rfl rfl (Nat.lt_of_lt_of_le (by decide) hd) (s_M_canSay (Nat.le_refl _) h) (zi_kb (fun v4 g5 b6 h => ?_))
      refine zi_if_eq (x := 51) (pc' := 30) rfl rfl (zi_r_bit b6)  (fun c24 => ?_) (fun c24 => ?_)
      · replace h := h.1 c24
        refine zi_iconst (pc' := 52) rfl rfl ?_
        refine zi_istore_n (pc' := 53) [some _, some _, some _, some _, none] rfl rfl rfl ?_
        refine zi_iconst (pc' := 54) rfl rfl ?_
        refine zi_istore (pc' := 56) [some _, some _, some _, some _, some _] rfl rfl rfl ?_
        refine zi_wk (s_M_rains_l56 hd h (fun g13 h => ?_)) (And.intro rfl (And.intro rfl (And.intro rfl (And.intro rfl (And.intro rfl trivial)))))
        refine zi_iinc (pc' := 76) [some _, some _, some _, some _, none] rfl rfl rfl rfl ?_
        refine zi_goto (x := 14) rfl ?_
        exact zi_wk (s_M_rains_l14_r hd hK79 f h) (And.intro rfl (And.intro rfl (And.intro rfl trivial)))
      · replace h := h.2 c24
        refine zi_aload_n (pc' := 31) rfl rfl rfl ?_
        refine zi_aload_n (pc' := 32) rfl rfl rfl ?_
        refine zi_getr (pc' := 35) rfl rfl rfl rfl rfl ?_
        refine zi_bipush (pc' := 37) rfl rfl (by decide) ?_
        refine zi_iload_n (pc' := 38) rfl rfl rfl ?_
        refine zi_iadd (pc' := 39) rfl rfl ?_
        obtain ⟨o15, h⟩ := h
        refine zi_iald (pc' := 40) rfl rfl rfl o15 ?_
        refine zi_aload_n (pc' := 41) rfl rfl rfl ?_
        refine zi_iload_n (pc' := 42) rfl rfl rfl ?_
        refine zi_callV (d' := 5) (as := [_]) (pc' := 45) rfl rfl rfl rfl (Nat.lt_of_lt_of_le (by decide) hd) (s_M_jetOf (Nat.le_refl _) h) (zi_ki (fun v16 g17 h => ?_))
        refine zi_callV (d' := 1) (as := [_, _]) (pc' := 48) rfl rfl rfl rfl (Nat.lt_of_lt_of_le (by decide) hd) (s_M_lesser (Nat.le_refl _) h) (zi_ki (fun v19 g20 h => ?_))
        refine zi_goto (x := 52) rfl ?_
        refine zi_istore_n (pc' := 53) [some _, some _, some _, some _, none] rfl rfl rfl ?_
        refine zi_iconst (pc' := 54) rfl rfl ?_
        refine zi_istore (pc' := 56) [some _, some _, some _, some _, some _] rfl rfl rfl ?_
        refine zi_wk (s_M_rains_l56 hd h (fun g22 h => ?_)) (And.intro rfl (And.intro rfl (And.intro rfl (And.intro rfl (And.intro rfl trivial)))))
        refine zi_iinc (pc' := 76) [some _, some _, some _, some _, none] rfl rfl rfl rfl ?_
        refine zi_goto (x := 14) rfl ?_
        exact zi_wk (s_M_rains_l14_r hd hK79 f h) (And.intro rfl (And.intro rfl (And.intro rfl trivial)))
set_option maxRecDepth 100000 in
theorem s_M_rains_l14 {E : sx_E} {d : Nat} (hd : 8 ≤ d) {x1 : Int} {K79 : zi_M → Prop} {Q : Int → zi_M → Prop} {l2 : Int} {g : zi_M} (h : ∃ f, w_M_rains_l14 K79 Q f l2 g) (hK79 : ∀ (g : zi_M), K79 g → zi_W E d 243 79 [some (.ref 214), some (zi_i x1), none, none, none] [] g (zi_Q Q)) : zi_W E d 243 14 [some (.ref 214), some (zi_i x1), some (zi_i l2), none, none] [] g (zi_Q Q) := by
  obtain ⟨f, h⟩ := h
  exact s_M_rains_l14_r hd hK79 f h
set_option maxRecDepth 100000 in
theorem s_M_rains_l81_r {E : sx_E} {d : Nat} (hd : 8 ≤ d) {x1 : Int} {K149 : zi_M → Prop} {Q : Int → zi_M → Prop} (hK149 : ∀ (g : zi_M), K149 g → zi_W E d 243 149 [some (.ref 214), some (zi_i x1), none, none, none] [] g (zi_Q Q)) : ∀ (f : Nat) {l2 : Int} {g : zi_M}, w_M_rains_l81 K149 Q f l2 g → zi_W E d 243 81 [some (.ref 214), some (zi_i x1), some (zi_i l2), none, none] [] g (zi_Q Q)
  | 0, _, _, h => False.elim h
  | f + 1, l2, g, h => by
    refine zi_iload_n (pc' := 82) rfl rfl rfl ?_
    refine zi_aload_n (pc' := 83) rfl rfl rfl ?_
    refine zi_geti (pc' := 86) 43 rfl rfl rfl rfl rfl rfl ?_
    obtain ⟨o27, o28, h⟩ := h
    refine zi_icmp_ge (x := 149) (pc' := 89) rfl rfl o27 o28 (fun c40 => ?_) (fun c40 => ?_)
    · replace h := h.1 c40
      exact zi_wk (hK149 _ h) (And.intro rfl (And.intro rfl trivial))
    · replace h := h.2 c40
      refine zi_aload_n (pc' := 90) rfl rfl rfl ?_
      refine zi_getr (pc' := 93) rfl rfl rfl rfl rfl ?_
      refine zi_bipush (pc' := 95) rfl rfl (by decide) ?_
      refine zi_aload_n (pc' := 96) rfl rfl rfl ?_
      refine zi_getr (pc' := 99) rfl rfl rfl rfl rfl ?_
      refine zi_iload_n (pc' := 100) rfl rfl rfl ?_
      obtain ⟨o29, h⟩ := h
      refine zi_iald (pc' := 101) rfl rfl rfl o29 ?_
      refine zi_iadd (pc' := 102) rfl rfl ?_
      obtain ⟨o30, h⟩ := h
      refine zi_iald (pc' := 103) rfl rfl rfl o30 ?_
      refine zi_iconst (pc' := 104) rfl rfl ?_
      obtain ⟨o31, h⟩ := h
      refine zi_icmp_eq (x := 143) (pc' := 107) rfl rfl o31 (by decide) (fun c39 => ?_) (fun c39 => ?_)
      · replace h := h.1 c39
        refine zi_iinc (pc' := 146) [some _, some _, some _, none, none] rfl rfl rfl rfl ?_
        refine zi_goto (x := 81) rfl ?_
        exact zi_wk (s_M_rains_l81_r hd hK149 f h) (And.intro rfl (And.intro rfl (And.intro rfl trivial)))
      · replace h := h.2 c39
        refine zi_aload_n (pc' := 108) rfl rfl rfl ?_
        refine zi_aload_n (pc' := 109) rfl rfl rfl ?_
        refine zi_getr (pc' := 112) rfl rfl rfl rfl rfl ?_
        refine zi_iload_n (pc' := 113) rfl rfl rfl ?_
        refine zi_iald (pc' := 114) rfl rfl rfl o29 ?_
        refine zi_aload_n (pc' := 115) rfl rfl rfl ?_
        refine zi_getr (pc' := 118) rfl rfl rfl rfl rfl ?_
        refine zi_iload_n (pc' := 119) rfl rfl rfl ?_
        refine zi_iald (pc' := 120) rfl rfl rfl o29 ?_
        refine zi_callV (d' := 3) (as := [_, _]) (pc' := 123) rfl rfl rfl rfl (Nat.lt_of_lt_of_le (by decide) hd) (s_M_comesTo (Nat.le_refl _) h) (zi_kb (fun v32 g33 b34 h => ?_))
        refine zi_if_eq (x := 143) (pc' := 126) rfl rfl (zi_r_bit b34)  (fun c38 => ?_) (fun c38 => ?_)
        · replace h := h.1 c38
          refine zi_iinc (pc' := 146) [some _, some _, some _, none, none] rfl rfl rfl rfl ?_
          refine zi_goto (x := 81) rfl ?_
          exact zi_wk (s_M_rains_l81_r hd hK149 f h) (And.intro rfl (And.intro rfl (And.intro rfl trivial)))
        · replace h := h.2 c38
          refine zi_aload_n (pc' := 127) rfl rfl rfl ?_
          refine zi_iconst (pc' := 128) rfl rfl ?_
          refine zi_aload_n (pc' := 129) rfl rfl rfl ?_
          refine zi_getr (pc' := 132) rfl rfl rfl rfl rfl ?_
          refine zi_iload_n (pc' := 133) rfl rfl rfl ?_
          refine zi_iald (pc' := 134) rfl rfl rfl o29 ?_
          refine zi_aload_n (pc' := 135) rfl rfl rfl ?_
          refine zi_getr (pc' := 138) rfl rfl rfl rfl rfl ?_
          refine zi_iload_n (pc' := 139) rfl rfl rfl ?_
          refine zi_iald (pc' := 140) rfl rfl rfl o29 ?_
          refine zi_callV (d' := 1) (as := [_, _, _]) (pc' := 143) rfl rfl rfl rfl (Nat.lt_of_lt_of_le (by decide) hd) (s_M_notes (Nat.le_refl _) h) (zi_kv (fun g36 h => ?_))
          refine zi_iinc (pc' := 146) [some _, some _, some _, none, none] rfl rfl rfl rfl ?_
          refine zi_goto (x := 81) rfl ?_
          exact zi_wk (s_M_rains_l81_r hd hK149 f h) (And.intro rfl (And.intro rfl (And.intro rfl trivial)))
set_option maxRecDepth 100000 in
theorem s_M_rains_l81 {E : sx_E} {d : Nat} (hd : 8 ≤ d) {x1 : Int} {K149 : zi_M → Prop} {Q : Int → zi_M → Prop} {l2 : Int} {g : zi_M} (h : ∃ f, w_M_rains_l81 K149 Q f l2 g) (hK149 : ∀ (g : zi_M), K149 g → zi_W E d 243 149 [some (.ref 214), some (zi_i x1), none, none, none] [] g (zi_Q Q)) : zi_W E d 243 81 [some (.ref 214), some (zi_i x1), some (zi_i l2), none, none] [] g (zi_Q Q) := by
  obtain ⟨f, h⟩ := h
  exact s_M_rains_l81_r hd hK149 f h
set_option maxRecDepth 100000 in
theorem s_M_rains_l151_r {E : sx_E} {d : Nat} (hd : 8 ≤ d) {x1 : Int} {K175 : zi_M → Prop} {Q : Int → zi_M → Prop} (hK175 : ∀ (g : zi_M), K175 g → zi_W E d 243 175 [some (.ref 214), some (zi_i x1), none, none, none] [] g (zi_Q Q)) : ∀ (f : Nat) {l2 : Int} {g : zi_M}, w_M_rains_l151 K175 Q f l2 g → zi_W E d 243 151 [some (.ref 214), some (zi_i x1), some (zi_i l2), none, none] [] g (zi_Q Q)
  | 0, _, _, h => False.elim h
  | f + 1, l2, g, h => by
    refine zi_iload_n (pc' := 152) rfl rfl rfl ?_
    refine zi_aload_n (pc' := 153) rfl rfl rfl ?_
    refine zi_geti (pc' := 156) 6 rfl rfl rfl rfl rfl rfl ?_
    obtain ⟨o42, o43, h⟩ := h
    refine zi_icmp_ge (x := 175) (pc' := 159) rfl rfl o42 o43 (fun c46 => ?_) (fun c46 => ?_)
    · replace h := h.1 c46
      exact zi_wk (hK175 _ h) (And.intro rfl (And.intro rfl trivial))
    · replace h := h.2 c46
      refine zi_aload_n (pc' := 160) rfl rfl rfl ?_
      refine zi_getr (pc' := 163) rfl rfl rfl rfl rfl ?_
      refine zi_bipush (pc' := 165) rfl rfl (by decide) ?_
      refine zi_iload_n (pc' := 166) rfl rfl rfl ?_
      refine zi_iadd (pc' := 167) rfl rfl ?_
      refine zi_iconst (pc' := 168) rfl rfl ?_
      obtain ⟨o44, h⟩ := h
      refine zi_iast (pc' := 169) rfl rfl rfl o44 ?_
      replace h := h _ rfl
      refine zi_iinc (pc' := 172) [some _, some _, some _, none, none] rfl rfl rfl rfl ?_
      refine zi_goto (x := 151) rfl ?_
      exact zi_wk (s_M_rains_l151_r hd hK175 f h) (And.intro rfl (And.intro rfl (And.intro rfl trivial)))
set_option maxRecDepth 100000 in
theorem s_M_rains_l151 {E : sx_E} {d : Nat} (hd : 8 ≤ d) {x1 : Int} {K175 : zi_M → Prop} {Q : Int → zi_M → Prop} {l2 : Int} {g : zi_M} (h : ∃ f, w_M_rains_l151 K175 Q f l2 g) (hK175 : ∀ (g : zi_M), K175 g → zi_W E d 243 175 [some (.ref 214), some (zi_i x1), none, none, none] [] g (zi_Q Q)) : zi_W E d 243 151 [some (.ref 214), some (zi_i x1), some (zi_i l2), none, none] [] g (zi_Q Q) := by
  obtain ⟨f, h⟩ := h
  exact s_M_rains_l151_r hd hK175 f h
set_option maxRecDepth 100000 in
theorem s_M_rains {E : sx_E} {d : Nat} (hd : 8 ≤ d) {g : zi_M} {Q : Int → zi_M → Prop} (h : w_M_rains g Q) : zi_S E d 243 [.ref 214] g (zi_Q Q) := by
  refine zi_Sof jf_243 [some (.ref 214), none, none, none, none] rfl (And.intro rfl trivial) ?_
  unfold w_M_rains at h
  refine zi_aload_n (pc' := 1) rfl rfl rfl ?_
  refine zi_getr (pc' := 4) rfl rfl rfl rfl rfl ?_
  refine zi_iconst (pc' := 5) rfl rfl ?_
  refine zi_iald (pc' := 6) rfl rfl rfl (by decide) ?_
  refine zi_istore_n (pc' := 7) [some _, some _, none, none, none] rfl rfl rfl ?_
  refine zi_aload_n (pc' := 8) rfl rfl rfl ?_
  refine zi_iconst (pc' := 9) rfl rfl ?_
  refine zi_puti (pc' := 12) 43 rfl rfl rfl rfl rfl  ?_
  replace h := h _ rfl
  refine zi_iconst (pc' := 13) rfl rfl ?_
  refine zi_istore_n (pc' := 14) [some _, some _, some _, none, none] rfl rfl rfl ?_
  refine zi_wk (s_M_rains_l14 hd h (fun g26 h => ?_)) (And.intro rfl (And.intro rfl (And.intro rfl trivial)))
  refine zi_iconst (pc' := 80) rfl rfl ?_
  refine zi_istore_n (pc' := 81) [some _, some _, some _, none, none] rfl rfl rfl ?_
  refine zi_wk (s_M_rains_l81 hd h (fun g41 h => ?_)) (And.intro rfl (And.intro rfl (And.intro rfl trivial)))
  refine zi_iconst (pc' := 150) rfl rfl ?_
  refine zi_istore_n (pc' := 151) [some _, some _, some _, none, none] rfl rfl rfl ?_
  refine zi_wk (s_M_rains_l151 hd h (fun g47 h => ?_)) (And.intro rfl (And.intro rfl (And.intro rfl trivial)))
  refine zi_aload_n (pc' := 176) rfl rfl rfl ?_
  refine zi_getr (pc' := 179) rfl rfl rfl rfl rfl ?_
  refine zi_iconst (pc' := 180) rfl rfl ?_
  refine zi_iald (pc' := 181) rfl rfl rfl (by decide) ?_
  refine zi_iload_n (pc' := 182) rfl rfl rfl ?_
  refine zi_isub (pc' := 183) rfl rfl ?_
  refine zi_wrap ?_
  exact zi_iret rfl rfl h
-- SpoutNewsModel.goesBy()I
noncomputable def w_M_goesBy_l2 (K67 : zi_M → Prop) (Q : Int → zi_M → Prop) : Nat → Int → zi_M → Prop
  | 0, _, _ => False
  | f + 1, l1, g => (zi_r l1 ∧ zi_r (g 214 39) ∧ (((g 214 39) ≤ l1 → K67 g) ∧ (l1 < (g 214 39) → ((0 ≤ (4 * l1) ∧ (4 * l1) < 128) ∧ (zi_r (g 234 (4 * l1)) ∧ zi_r (g 215 0) ∧ ((¬ (g 234 (4 * l1)) = (g 215 0) → w_M_goesBy_l2 K67 Q f (l1 + 1) g) ∧ ((g 234 (4 * l1)) = (g 215 0) → ((0 ≤ ((4 * l1) + 1) ∧ ((4 * l1) + 1) < 128) ∧ ((0 ≤ ((4 * l1) + 2) ∧ ((4 * l1) + 2) < 128) ∧ ((0 ≤ ((4 * l1) + 3) ∧ ((4 * l1) + 3) < 128) ∧ w_M_acts (g 234 ((4 * l1) + 1)) (g 234 ((4 * l1) + 2)) (g 234 ((4 * l1) + 3)) g (fun _ g10 => w_M_goesBy_l2 K67 Q f (l1 + 1) g10)))))))))))
noncomputable def w_M_goesBy_l118 (K137 : zi_M → Prop) (Q : Int → zi_M → Prop) : Nat → Int → zi_M → Prop
  | 0, _, _ => False
  | f + 1, l2, g => (zi_r l2 ∧ zi_r (g 214 6) ∧ (((g 214 6) ≤ l2 → K137 g) ∧ (l2 < (g 214 6) → w_M_isDry l2 g (fun _ g23 => w_M_goesBy_l118 K137 Q f (l2 + 1) g23))))
noncomputable def w_M_goesBy_b137 (l1 : Int) (g : zi_M) (Q : Int → zi_M → Prop) : Prop := (∀ g27, g27 = zi_u g 215 0 (zi_w ((g 215 0) + 1)) → Q l1 g27)
noncomputable def w_M_goesBy_b97 (g : zi_M) (Q : Int → zi_M → Prop) : Prop := (zi_r (g 215 3) ∧ (((g 215 3) ≤ 0 → (∃ f28, w_M_goesBy_l118 (fun g26 => w_M_goesBy_b137 0 g26 Q) Q f28 0 g)) ∧ (0 < (g 215 3) → w_M_rains g (fun v29 g30 => w_M_goesBy_b137 v29 g30 Q))))
noncomputable def w_M_goesBy (g : zi_M) (Q : Int → zi_M → Prop) : Prop := (∃ f38, w_M_goesBy_l2 (fun g14 => w_M_weatherOf (g14 215 0) g14 (fun v15 g16 => (zi_r v15 ∧ ((v15 = (-1) → w_M_goesBy_b97 g16 Q) ∧ (¬ v15 = (-1) → w_M_weatherOf (g16 215 0) g16 (fun v33 g34 => (∀ g36, g36 = zi_u g34 215 3 v33 → w_M_goesBy_b97 g36 Q))))))) Q f38 0 g)
set_option maxRecDepth 100000 in
theorem s_M_goesBy_l2_r {E : sx_E} {d : Nat} (hd : 9 ≤ d) {K67 : zi_M → Prop} {Q : Int → zi_M → Prop} (hK67 : ∀ (g : zi_M), K67 g → zi_W E d 241 67 [some (.ref 214), none, none] [] g (zi_Q Q)) : ∀ (f : Nat) {l1 : Int} {g : zi_M}, w_M_goesBy_l2 K67 Q f l1 g → zi_W E d 241 2 [some (.ref 214), some (zi_i l1), none] [] g (zi_Q Q)
  | 0, _, _, h => False.elim h
  | f + 1, l1, g, h => by
    refine zi_iload_n (pc' := 3) rfl rfl rfl ?_
    refine zi_aload_n (pc' := 4) rfl rfl rfl ?_
    refine zi_geti (pc' := 7) 39 rfl rfl rfl rfl rfl rfl ?_
    obtain ⟨o1, o2, h⟩ := h
    refine zi_icmp_ge (x := 67) (pc' := 10) rfl rfl o1 o2 (fun c13 => ?_) (fun c13 => ?_)
    · replace h := h.1 c13
      exact zi_wk (hK67 _ h) (And.intro rfl trivial)
    · replace h := h.2 c13
      refine zi_aload_n (pc' := 11) rfl rfl rfl ?_
      refine zi_getr (pc' := 14) rfl rfl rfl rfl rfl ?_
      refine zi_iconst (pc' := 15) rfl rfl ?_
      refine zi_iload_n (pc' := 16) rfl rfl rfl ?_
      refine zi_imul (pc' := 17) rfl rfl ?_
      obtain ⟨o3, h⟩ := h
      refine zi_iald (pc' := 18) rfl rfl rfl o3 ?_
      refine zi_aload_n (pc' := 19) rfl rfl rfl ?_
      refine zi_getr (pc' := 22) rfl rfl rfl rfl rfl ?_
      refine zi_iconst (pc' := 23) rfl rfl ?_
      refine zi_iald (pc' := 24) rfl rfl rfl (by decide) ?_
      obtain ⟨o4, o5, h⟩ := h
      refine zi_icmp_ne (x := 61) (pc' := 27) rfl rfl o4 o5 (fun c12 => ?_) (fun c12 => ?_)
      · replace h := h.1 c12
        refine zi_iinc (pc' := 64) [some _, some _, none] rfl rfl rfl rfl ?_
        refine zi_goto (x := 2) rfl ?_
        exact zi_wk (s_M_goesBy_l2_r hd hK67 f h) (And.intro rfl (And.intro rfl trivial))
      · replace h := h.2 c12
        refine zi_aload_n (pc' := 28) rfl rfl rfl ?_
        refine zi_aload_n (pc' := 29) rfl rfl rfl ?_
        refine zi_getr (pc' := 32) rfl rfl rfl rfl rfl ?_
        refine zi_iconst (pc' := 33) rfl rfl ?_
        refine zi_iload_n (pc' := 34) rfl rfl rfl ?_
        refine zi_imul (pc' := 35) rfl rfl ?_
        refine zi_iconst (pc' := 36) rfl rfl ?_
        refine zi_iadd (pc' := 37) rfl rfl ?_
        obtain ⟨o6, h⟩ := h
        refine zi_iald (pc' := 38) rfl rfl rfl o6 ?_
        refine zi_aload_n (pc' := 39) rfl rfl rfl ?_
        refine zi_getr (pc' := 42) rfl rfl rfl rfl rfl ?_
        refine zi_iconst (pc' := 43) rfl rfl ?_
        refine zi_iload_n (pc' := 44) rfl rfl rfl ?_
        refine zi_imul (pc' := 45) rfl rfl ?_
        refine zi_iconst (pc' := 46) rfl rfl ?_
        refine zi_iadd (pc' := 47) rfl rfl ?_
        obtain ⟨o7, h⟩ := h
        refine zi_iald (pc' := 48) rfl rfl rfl o7 ?_
        refine zi_aload_n (pc' := 49) rfl rfl rfl ?_
        refine zi_getr (pc' := 52) rfl rfl rfl rfl rfl ?_
        refine zi_iconst (pc' := 53) rfl rfl ?_
        refine zi_iload_n (pc' := 54) rfl rfl rfl ?_
        refine zi_imul (pc' := 55) rfl rfl ?_
        refine zi_iconst (pc' := 56) rfl rfl ?_
        refine zi_iadd (pc' := 57) rfl rfl ?_
        obtain ⟨o8, h⟩ := h
        refine zi_iald (pc' := 58) rfl rfl rfl o8 ?_
        refine zi_callV (d' := 1) (as := [_, _, _]) (pc' := 61) rfl rfl rfl rfl (Nat.lt_of_lt_of_le (by decide) hd) (s_M_acts (Nat.le_refl _) h) (zi_kv (fun g10 h => ?_))
        refine zi_iinc (pc' := 64) [some _, some _, none] rfl rfl rfl rfl ?_
        refine zi_goto (x := 2) rfl ?_
        exact zi_wk (s_M_goesBy_l2_r hd hK67 f h) (And.intro rfl (And.intro rfl trivial))
set_option maxRecDepth 100000 in
theorem s_M_goesBy_l2 {E : sx_E} {d : Nat} (hd : 9 ≤ d) {K67 : zi_M → Prop} {Q : Int → zi_M → Prop} {l1 : Int} {g : zi_M} (h : ∃ f, w_M_goesBy_l2 K67 Q f l1 g) (hK67 : ∀ (g : zi_M), K67 g → zi_W E d 241 67 [some (.ref 214), none, none] [] g (zi_Q Q)) : zi_W E d 241 2 [some (.ref 214), some (zi_i l1), none] [] g (zi_Q Q) := by
  obtain ⟨f, h⟩ := h
  exact s_M_goesBy_l2_r hd hK67 f h
set_option maxRecDepth 100000 in
theorem s_M_goesBy_l118_r {E : sx_E} {d : Nat} (hd : 9 ≤ d) {x1 : Int} {K137 : zi_M → Prop} {Q : Int → zi_M → Prop} (hK137 : ∀ (g : zi_M), K137 g → zi_W E d 241 137 [some (.ref 214), some (zi_i x1), none] [] g (zi_Q Q)) : ∀ (f : Nat) {l2 : Int} {g : zi_M}, w_M_goesBy_l118 K137 Q f l2 g → zi_W E d 241 118 [some (.ref 214), some (zi_i x1), some (zi_i l2)] [] g (zi_Q Q)
  | 0, _, _, h => False.elim h
  | f + 1, l2, g, h => by
    refine zi_iload_n (pc' := 119) rfl rfl rfl ?_
    refine zi_aload_n (pc' := 120) rfl rfl rfl ?_
    refine zi_geti (pc' := 123) 6 rfl rfl rfl rfl rfl rfl ?_
    obtain ⟨o20, o21, h⟩ := h
    refine zi_icmp_ge (x := 137) (pc' := 126) rfl rfl o20 o21 (fun c25 => ?_) (fun c25 => ?_)
    · replace h := h.1 c25
      exact zi_wk (hK137 _ h) (And.intro rfl (And.intro rfl trivial))
    · replace h := h.2 c25
      refine zi_aload_n (pc' := 127) rfl rfl rfl ?_
      refine zi_iload_n (pc' := 128) rfl rfl rfl ?_
      refine zi_callV (d' := 7) (as := [_]) (pc' := 131) rfl rfl rfl rfl (Nat.lt_of_lt_of_le (by decide) hd) (s_M_isDry (Nat.le_refl _) h) (zi_kv (fun g23 h => ?_))
      refine zi_iinc (pc' := 134) [some _, some _, some _] rfl rfl rfl rfl ?_
      refine zi_goto (x := 118) rfl ?_
      exact zi_wk (s_M_goesBy_l118_r hd hK137 f h) (And.intro rfl (And.intro rfl (And.intro rfl trivial)))
set_option maxRecDepth 100000 in
theorem s_M_goesBy_l118 {E : sx_E} {d : Nat} (hd : 9 ≤ d) {x1 : Int} {K137 : zi_M → Prop} {Q : Int → zi_M → Prop} {l2 : Int} {g : zi_M} (h : ∃ f, w_M_goesBy_l118 K137 Q f l2 g) (hK137 : ∀ (g : zi_M), K137 g → zi_W E d 241 137 [some (.ref 214), some (zi_i x1), none] [] g (zi_Q Q)) : zi_W E d 241 118 [some (.ref 214), some (zi_i x1), some (zi_i l2)] [] g (zi_Q Q) := by
  obtain ⟨f, h⟩ := h
  exact s_M_goesBy_l118_r hd hK137 f h
set_option maxRecDepth 100000 in
theorem s_M_goesBy_b137 {E : sx_E} {d : Nat} (hd : 9 ≤ d) {l1 : Int} {Q : Int → zi_M → Prop} {g : zi_M} (h : w_M_goesBy_b137 l1 g Q) : zi_W E d 241 137 [some (.ref 214), some (zi_i l1), none] [] g (zi_Q Q) := by
  unfold w_M_goesBy_b137 at h
  refine zi_aload_n (pc' := 138) rfl rfl rfl ?_
  refine zi_getr (pc' := 141) rfl rfl rfl rfl rfl ?_
  refine zi_iconst (pc' := 142) rfl rfl ?_
  refine zi_aload_n (pc' := 143) rfl rfl rfl ?_
  refine zi_getr (pc' := 146) rfl rfl rfl rfl rfl ?_
  refine zi_iconst (pc' := 147) rfl rfl ?_
  refine zi_iald (pc' := 148) rfl rfl rfl (by decide) ?_
  refine zi_iconst (pc' := 149) rfl rfl ?_
  refine zi_iadd (pc' := 150) rfl rfl ?_
  refine zi_wrap ?_
  refine zi_iast (pc' := 151) rfl rfl rfl (by decide) ?_
  replace h := h _ rfl
  refine zi_iload_n (pc' := 152) rfl rfl rfl ?_
  exact zi_iret rfl rfl h
set_option maxRecDepth 100000 in
theorem s_M_goesBy_b97 {E : sx_E} {d : Nat} (hd : 9 ≤ d) {Q : Int → zi_M → Prop} {g : zi_M} (h : w_M_goesBy_b97 g Q) : zi_W E d 241 97 [some (.ref 214), none, none] [] g (zi_Q Q) := by
  unfold w_M_goesBy_b97 at h
  refine zi_iconst (pc' := 98) rfl rfl ?_
  refine zi_istore_n (pc' := 99) [some _, some _, none] rfl rfl rfl ?_
  refine zi_aload_n (pc' := 100) rfl rfl rfl ?_
  refine zi_getr (pc' := 103) rfl rfl rfl rfl rfl ?_
  refine zi_iconst (pc' := 104) rfl rfl ?_
  refine zi_iald (pc' := 105) rfl rfl rfl (by decide) ?_
  obtain ⟨o19, h⟩ := h
  refine zi_if_le (x := 116) (pc' := 108) rfl rfl o19  (fun c32 => ?_) (fun c32 => ?_)
  · replace h := h.1 c32
    refine zi_iconst (pc' := 117) rfl rfl ?_
    refine zi_istore_n (pc' := 118) [some _, some _, some _] rfl rfl rfl ?_
    refine zi_wk (s_M_goesBy_l118 hd h (fun g26 h => ?_)) (And.intro rfl (And.intro rfl (And.intro rfl trivial)))
    exact zi_wk (s_M_goesBy_b137 hd h) (And.intro rfl (And.intro rfl trivial))
  · replace h := h.2 c32
    refine zi_aload_n (pc' := 109) rfl rfl rfl ?_
    refine zi_callV (d' := 8) (as := []) (pc' := 112) rfl rfl rfl rfl (Nat.lt_of_lt_of_le (by decide) hd) (s_M_rains (Nat.le_refl _) h) (zi_ki (fun v29 g30 h => ?_))
    refine zi_istore_n (pc' := 113) [some _, some _, none] rfl rfl rfl ?_
    refine zi_goto (x := 137) rfl ?_
    exact zi_wk (s_M_goesBy_b137 hd h) (And.intro rfl (And.intro rfl trivial))
set_option maxRecDepth 100000 in
theorem s_M_goesBy {E : sx_E} {d : Nat} (hd : 9 ≤ d) {g : zi_M} {Q : Int → zi_M → Prop} (h : w_M_goesBy g Q) : zi_S E d 241 [.ref 214] g (zi_Q Q) := by
  refine zi_Sof jf_241 [some (.ref 214), none, none] rfl (And.intro rfl trivial) ?_
  unfold w_M_goesBy at h
  refine zi_iconst (pc' := 1) rfl rfl ?_
  refine zi_istore_n (pc' := 2) [some _, some _, none] rfl rfl rfl ?_
  refine zi_wk (s_M_goesBy_l2 hd h (fun g14 h => ?_)) (And.intro rfl (And.intro rfl trivial))
  refine zi_aload_n (pc' := 68) rfl rfl rfl ?_
  refine zi_aload_n (pc' := 69) rfl rfl rfl ?_
  refine zi_getr (pc' := 72) rfl rfl rfl rfl rfl ?_
  refine zi_iconst (pc' := 73) rfl rfl ?_
  refine zi_iald (pc' := 74) rfl rfl rfl (by decide) ?_
  refine zi_callV (d' := 1) (as := [_]) (pc' := 77) rfl rfl rfl rfl (Nat.lt_of_lt_of_le (by decide) hd) (s_M_weatherOf (Nat.le_refl _) h) (zi_ki (fun v15 g16 h => ?_))
  refine zi_iconst (pc' := 78) rfl rfl ?_
  obtain ⟨o18, h⟩ := h
  refine zi_icmp_eq (x := 97) (pc' := 81) rfl rfl o18 (by decide) (fun c37 => ?_) (fun c37 => ?_)
  · replace h := h.1 c37
    exact zi_wk (s_M_goesBy_b97 hd h) (And.intro rfl trivial)
  · replace h := h.2 c37
    refine zi_aload_n (pc' := 82) rfl rfl rfl ?_
    refine zi_getr (pc' := 85) rfl rfl rfl rfl rfl ?_
    refine zi_iconst (pc' := 86) rfl rfl ?_
    refine zi_aload_n (pc' := 87) rfl rfl rfl ?_
    refine zi_aload_n (pc' := 88) rfl rfl rfl ?_
    refine zi_getr (pc' := 91) rfl rfl rfl rfl rfl ?_
    refine zi_iconst (pc' := 92) rfl rfl ?_
    refine zi_iald (pc' := 93) rfl rfl rfl (by decide) ?_
    refine zi_callV (d' := 1) (as := [_]) (pc' := 96) rfl rfl rfl rfl (Nat.lt_of_lt_of_le (by decide) hd) (s_M_weatherOf (Nat.le_refl _) h) (zi_ki (fun v33 g34 h => ?_))
    refine zi_iast (pc' := 97) rfl rfl rfl (by decide) ?_
    replace h := h _ rfl
    exact zi_wk (s_M_goesBy_b97 hd h) (And.intro rfl trivial)
-- SpoutNewsModel.days(I)I
noncomputable def w_M_days_l36 (l1 : Int) (K58 : Int → zi_M → Prop) (Q : Int → zi_M → Prop) : Nat → Int → Int → zi_M → Prop
  | 0, _, _, _ => False
  | f + 1, l2, l3, g => (zi_r l3 ∧ zi_r l1 ∧ ((l1 ≤ l3 → K58 l2 g) ∧ (l3 < l1 → w_M_keepsAhead g (fun _ g8 => w_M_goesBy g8 (fun v10 g11 => w_M_days_l36 l1 K58 Q f (zi_w (l2 + v10)) (l3 + 1) g11)))))
noncomputable def w_M_days (l1 : Int) (g : zi_M) (Q : Int → zi_M → Prop) : Prop := (∀ g1, g1 = zi_u g 214 0 0 → w_M_isIn l1 1 60 g1 (fun v2 g3 => ((v2 = 0 → Q (-1) g3) ∧ (¬ v2 = 0 → (((zi_w ((g3 215 0) + l1)) ≤ 9999 → (∃ f16, w_M_days_l36 l1 (fun k14 g15 => Q k14 g15) Q f16 0 0 g3)) ∧ (9999 < (zi_w ((g3 215 0) + l1)) → Q (-1) g3))))))
set_option maxRecDepth 100000 in
theorem s_M_days_l36_r {E : sx_E} {d : Nat} (hd : 10 ≤ d) {l1 : Int} {K58 : Int → zi_M → Prop} {Q : Int → zi_M → Prop} (hK58 : ∀ (k2 : Int) (g : zi_M), K58 k2 g → zi_W E d 240 58 [some (.ref 214), some (zi_i l1), some (zi_i k2), none] [] g (zi_Q Q)) : ∀ (f : Nat) {l2 : Int} {l3 : Int} {g : zi_M}, w_M_days_l36 l1 K58 Q f l2 l3 g → zi_W E d 240 36 [some (.ref 214), some (zi_i l1), some (zi_i l2), some (zi_i l3)] [] g (zi_Q Q)
  | 0, _, _, _, h => False.elim h
  | f + 1, l2, l3, g, h => by
    refine zi_iload_n (pc' := 37) rfl rfl rfl ?_
    refine zi_iload_n (pc' := 38) rfl rfl rfl ?_
    obtain ⟨o5, o6, h⟩ := h
    refine zi_icmp_ge (x := 58) (pc' := 41) rfl rfl o5 o6 (fun c13 => ?_) (fun c13 => ?_)
    · replace h := h.1 c13
      exact zi_wk (hK58 _ _ h) (And.intro rfl (And.intro rfl (And.intro rfl trivial)))
    · replace h := h.2 c13
      refine zi_aload_n (pc' := 42) rfl rfl rfl ?_
      refine zi_callV (d' := 1) (as := []) (pc' := 45) rfl rfl rfl rfl (Nat.lt_of_lt_of_le (by decide) hd) (s_M_keepsAhead (Nat.le_refl _) h) (zi_kv (fun g8 h => ?_))
      refine zi_iload_n (pc' := 46) rfl rfl rfl ?_
      refine zi_aload_n (pc' := 47) rfl rfl rfl ?_
      refine zi_callV (d' := 9) (as := []) (pc' := 50) rfl rfl rfl rfl (Nat.lt_of_lt_of_le (by decide) hd) (s_M_goesBy (Nat.le_refl _) h) (zi_ki (fun v10 g11 h => ?_))
      refine zi_iadd (pc' := 51) rfl rfl ?_
      refine zi_wrap ?_
      refine zi_istore_n (pc' := 52) [some _, some _, some _, some _] rfl rfl rfl ?_
      refine zi_iinc (pc' := 55) [some _, some _, some _, some _] rfl rfl rfl rfl ?_
      refine zi_goto (x := 36) rfl ?_
      exact zi_wk (s_M_days_l36_r hd hK58 f h) (And.intro rfl (And.intro rfl (And.intro rfl (And.intro rfl trivial))))
set_option maxRecDepth 100000 in
theorem s_M_days_l36 {E : sx_E} {d : Nat} (hd : 10 ≤ d) {l1 : Int} {K58 : Int → zi_M → Prop} {Q : Int → zi_M → Prop} {l2 : Int} {l3 : Int} {g : zi_M} (h : ∃ f, w_M_days_l36 l1 K58 Q f l2 l3 g) (hK58 : ∀ (k2 : Int) (g : zi_M), K58 k2 g → zi_W E d 240 58 [some (.ref 214), some (zi_i l1), some (zi_i k2), none] [] g (zi_Q Q)) : zi_W E d 240 36 [some (.ref 214), some (zi_i l1), some (zi_i l2), some (zi_i l3)] [] g (zi_Q Q) := by
  obtain ⟨f, h⟩ := h
  exact s_M_days_l36_r hd hK58 f h
set_option maxRecDepth 100000 in
theorem s_M_days {E : sx_E} {d : Nat} (hd : 10 ≤ d) {l1 : Int} {g : zi_M} {Q : Int → zi_M → Prop} (h : w_M_days l1 g Q) : zi_S E d 240 [.ref 214, zi_i l1] g (zi_Q Q) := by
  refine zi_Sof jf_240 [some (.ref 214), some (zi_i l1), none, none] rfl (And.intro rfl (And.intro rfl trivial)) ?_
  unfold w_M_days at h
  refine zi_aload_n (pc' := 1) rfl rfl rfl ?_
  refine zi_iconst (pc' := 2) rfl rfl ?_
  refine zi_puti (pc' := 5) 0 rfl rfl rfl rfl rfl  ?_
  replace h := h _ rfl
  refine zi_aload_n (pc' := 6) rfl rfl rfl ?_
  refine zi_iload_n (pc' := 7) rfl rfl rfl ?_
  refine zi_iconst (pc' := 8) rfl rfl ?_
  refine zi_bipush (pc' := 10) rfl rfl (by decide) ?_
  refine zi_callV (d' := 1) (as := [_, _, _]) (pc' := 13) rfl rfl rfl rfl (Nat.lt_of_lt_of_le (by decide) hd) (s_M_isIn (Nat.le_refl _) h) (zi_kb (fun v2 g3 b4 h => ?_))
  refine zi_if_eq (x := 30) (pc' := 16) rfl rfl (zi_r_bit b4)  (fun c18 => ?_) (fun c18 => ?_)
  · replace h := h.1 c18
    refine zi_iconst (pc' := 31) rfl rfl ?_
    exact zi_iret rfl rfl h
  · replace h := h.2 c18
    refine zi_aload_n (pc' := 17) rfl rfl rfl ?_
    refine zi_getr (pc' := 20) rfl rfl rfl rfl rfl ?_
    refine zi_iconst (pc' := 21) rfl rfl ?_
    refine zi_iald (pc' := 22) rfl rfl rfl (by decide) ?_
    refine zi_iload_n (pc' := 23) rfl rfl rfl ?_
    refine zi_iadd (pc' := 24) rfl rfl ?_
    refine zi_wrap ?_
    refine zi_sipush (pc' := 27) rfl rfl (by decide) ?_
    refine zi_icmp_le (x := 32) (pc' := 30) rfl rfl (zi_r_w _) (by decide) (fun c17 => ?_) (fun c17 => ?_)
    · replace h := h.1 c17
      refine zi_iconst (pc' := 33) rfl rfl ?_
      refine zi_istore_n (pc' := 34) [some _, some _, some _, none] rfl rfl rfl ?_
      refine zi_iconst (pc' := 35) rfl rfl ?_
      refine zi_istore_n (pc' := 36) [some _, some _, some _, some _] rfl rfl rfl ?_
      refine zi_wk (s_M_days_l36 hd h (fun k14 g15 h => ?_)) (And.intro rfl (And.intro rfl (And.intro rfl (And.intro rfl trivial))))
      refine zi_iload_n (pc' := 59) rfl rfl rfl ?_
      exact zi_iret rfl rfl h
    · replace h := h.2 c17
      refine zi_iconst (pc' := 31) rfl rfl ?_
      exact zi_iret rfl rfl h
-- SpoutNews.feedFour(I)V
noncomputable def w_S_feedFour_l3 (l1 : Int) (K49 : zi_M → Prop) (Q : Int → zi_M → Prop) : Nat → Int → zi_M → Prop
  | 0, _, _ => False
  | f + 1, l2, g => (zi_r l2 ∧ ((l2 < 0 → K49 g) ∧ (0 ≤ l2 → (zi_r (g 0 8) ∧ ((400 ≤ (g 0 8) → K49 g) ∧ ((g 0 8) < 400 → ((0 ≤ (g 0 8) ∧ (g 0 8) < 400) ∧ (∀ g4, g4 = zi_u g 190 (g 0 8) (zi_and (zi_ush l1 l2) 255) → (∀ g5, g5 = zi_u g4 0 8 ((g4 0 8) + 1) → w_S_feedFour_l3 l1 K49 Q f (l2 + (-8)) g5)))))))))
noncomputable def w_S_feedFour (l1 : Int) (g : zi_M) (Q : Int → zi_M → Prop) : Prop := (∃ f9, w_S_feedFour_l3 l1 (fun g8 => Q 0 g8) Q f9 24 g)
set_option maxRecDepth 100000 in
theorem s_S_feedFour_l3_r {E : sx_E} {d : Nat} (hd : 1 ≤ d) {l1 : Int} {K49 : zi_M → Prop} {Q : Int → zi_M → Prop} (hK49 : ∀ (g : zi_M), K49 g → zi_W E d 55 49 [some (.ref 0), some (zi_i l1), none] [] g (zi_Qv Q)) : ∀ (f : Nat) {l2 : Int} {g : zi_M}, w_S_feedFour_l3 l1 K49 Q f l2 g → zi_W E d 55 3 [some (.ref 0), some (zi_i l1), some (zi_i l2)] [] g (zi_Qv Q)
  | 0, _, _, h => False.elim h
  | f + 1, l2, g, h => by
    refine zi_iload_n (pc' := 4) rfl rfl rfl ?_
    obtain ⟨o1, h⟩ := h
    refine zi_if_lt (x := 49) (pc' := 7) rfl rfl o1  (fun c7 => ?_) (fun c7 => ?_)
    · replace h := h.1 c7
      exact zi_wk (hK49 _ h) (And.intro rfl (And.intro rfl trivial))
    · replace h := h.2 c7
      refine zi_aload_n (pc' := 8) rfl rfl rfl ?_
      refine zi_geti (pc' := 11) 8 rfl rfl rfl rfl rfl rfl ?_
      refine zi_sipush (pc' := 14) rfl rfl (by decide) ?_
      obtain ⟨o2, h⟩ := h
      refine zi_icmp_ge (x := 49) (pc' := 17) rfl rfl o2 (by decide) (fun c6 => ?_) (fun c6 => ?_)
      · replace h := h.1 c6
        exact zi_wk (hK49 _ h) (And.intro rfl (And.intro rfl trivial))
      · replace h := h.2 c6
        refine zi_aload_n (pc' := 18) rfl rfl rfl ?_
        refine zi_getr (pc' := 21) rfl rfl rfl rfl rfl ?_
        refine zi_aload_n (pc' := 22) rfl rfl rfl ?_
        refine zi_geti (pc' := 25) 8 rfl rfl rfl rfl rfl rfl ?_
        refine zi_iload_n (pc' := 26) rfl rfl rfl ?_
        refine zi_iload_n (pc' := 27) rfl rfl rfl ?_
        refine zi_iushr (pc' := 28) rfl rfl ?_
        refine zi_sipush (pc' := 31) rfl rfl (by decide) ?_
        refine zi_iand (pc' := 32) rfl rfl ?_
        obtain ⟨o3, h⟩ := h
        refine zi_iast (pc' := 33) rfl rfl rfl o3 ?_
        replace h := h _ rfl
        refine zi_aload_n (pc' := 34) rfl rfl rfl ?_
        refine zi_dup (pc' := 35) rfl rfl rfl ?_
        refine zi_geti (pc' := 38) 8 rfl rfl rfl rfl rfl rfl ?_
        refine zi_iconst (pc' := 39) rfl rfl ?_
        refine zi_iadd (pc' := 40) rfl rfl ?_
        refine zi_puti (pc' := 43) 8 rfl rfl rfl rfl rfl  ?_
        replace h := h _ rfl
        refine zi_iinc (pc' := 46) [some _, some _, some _] rfl rfl rfl rfl ?_
        refine zi_goto (x := 3) rfl ?_
        exact zi_wk (s_S_feedFour_l3_r hd hK49 f h) (And.intro rfl (And.intro rfl (And.intro rfl trivial)))
set_option maxRecDepth 100000 in
theorem s_S_feedFour_l3 {E : sx_E} {d : Nat} (hd : 1 ≤ d) {l1 : Int} {K49 : zi_M → Prop} {Q : Int → zi_M → Prop} {l2 : Int} {g : zi_M} (h : ∃ f, w_S_feedFour_l3 l1 K49 Q f l2 g) (hK49 : ∀ (g : zi_M), K49 g → zi_W E d 55 49 [some (.ref 0), some (zi_i l1), none] [] g (zi_Qv Q)) : zi_W E d 55 3 [some (.ref 0), some (zi_i l1), some (zi_i l2)] [] g (zi_Qv Q) := by
  obtain ⟨f, h⟩ := h
  exact s_S_feedFour_l3_r hd hK49 f h
set_option maxRecDepth 100000 in
theorem s_S_feedFour {E : sx_E} {d : Nat} (hd : 1 ≤ d) {l1 : Int} {g : zi_M} {Q : Int → zi_M → Prop} (h : w_S_feedFour l1 g Q) : zi_S E d 55 [.ref 0, zi_i l1] g (zi_Qv Q) := by
  refine zi_Sof jf_55 [some (.ref 0), some (zi_i l1), none] rfl (And.intro rfl (And.intro rfl trivial)) ?_
  unfold w_S_feedFour at h
  refine zi_bipush (pc' := 2) rfl rfl (by decide) ?_
  refine zi_istore_n (pc' := 3) [some _, some _, some _] rfl rfl rfl ?_
  refine zi_wk (s_S_feedFour_l3 hd h (fun g8 h => ?_)) (And.intro rfl (And.intro rfl (And.intro rfl trivial)))
  exact zi_vret rfl rfl h
-- SpoutNews.feed(IIIII)I
noncomputable def w_S_feed (l1 : Int) (l2 : Int) (l3 : Int) (l4 : Int) (l5 : Int) (g : zi_M) (Q : Int → zi_M → Prop) : Prop := (zi_r ((g 0 8) + 20) ∧ ((((g 0 8) + 20) ≤ 400 → w_S_feedFour l1 g (fun _ g3 => w_S_feedFour l2 g3 (fun _ g6 => w_S_feedFour l3 g6 (fun _ g9 => w_S_feedFour l4 g9 (fun _ g12 => w_S_feedFour l5 g12 (fun _ g15 => Q (g15 0 8) g15)))))) ∧ (400 < ((g 0 8) + 20) → Q (-1) g)))
set_option maxRecDepth 100000 in
theorem s_S_feed {E : sx_E} {d : Nat} (hd : 2 ≤ d) {l1 : Int} {l2 : Int} {l3 : Int} {l4 : Int} {l5 : Int} {g : zi_M} {Q : Int → zi_M → Prop} (h : w_S_feed l1 l2 l3 l4 l5 g Q) : zi_S E d 54 [.ref 0, zi_i l1, zi_i l2, zi_i l3, zi_i l4, zi_i l5] g (zi_Q Q) := by
  refine zi_Sof jf_54 [some (.ref 0), some (zi_i l1), some (zi_i l2), some (zi_i l3), some (zi_i l4), some (zi_i l5)] rfl (And.intro rfl (And.intro rfl (And.intro rfl (And.intro rfl (And.intro rfl (And.intro rfl trivial)))))) ?_
  unfold w_S_feed at h
  refine zi_aload_n (pc' := 1) rfl rfl rfl ?_
  refine zi_geti (pc' := 4) 8 rfl rfl rfl rfl rfl rfl ?_
  refine zi_bipush (pc' := 6) rfl rfl (by decide) ?_
  refine zi_iadd (pc' := 7) rfl rfl ?_
  refine zi_sipush (pc' := 10) rfl rfl (by decide) ?_
  obtain ⟨o1, h⟩ := h
  refine zi_icmp_le (x := 15) (pc' := 13) rfl rfl o1 (by decide) (fun c17 => ?_) (fun c17 => ?_)
  · replace h := h.1 c17
    refine zi_aload_n (pc' := 16) rfl rfl rfl ?_
    refine zi_iload_n (pc' := 17) rfl rfl rfl ?_
    refine zi_callV (d' := 1) (as := [_]) (pc' := 20) rfl rfl rfl rfl (Nat.lt_of_lt_of_le (by decide) hd) (s_S_feedFour (Nat.le_refl _) h) (zi_kv (fun g3 h => ?_))
    refine zi_aload_n (pc' := 21) rfl rfl rfl ?_
    refine zi_iload_n (pc' := 22) rfl rfl rfl ?_
    refine zi_callV (d' := 1) (as := [_]) (pc' := 25) rfl rfl rfl rfl (Nat.lt_of_lt_of_le (by decide) hd) (s_S_feedFour (Nat.le_refl _) h) (zi_kv (fun g6 h => ?_))
    refine zi_aload_n (pc' := 26) rfl rfl rfl ?_
    refine zi_iload_n (pc' := 27) rfl rfl rfl ?_
    refine zi_callV (d' := 1) (as := [_]) (pc' := 30) rfl rfl rfl rfl (Nat.lt_of_lt_of_le (by decide) hd) (s_S_feedFour (Nat.le_refl _) h) (zi_kv (fun g9 h => ?_))
    refine zi_aload_n (pc' := 31) rfl rfl rfl ?_
    refine zi_iload (pc' := 33) rfl rfl rfl ?_
    refine zi_callV (d' := 1) (as := [_]) (pc' := 36) rfl rfl rfl rfl (Nat.lt_of_lt_of_le (by decide) hd) (s_S_feedFour (Nat.le_refl _) h) (zi_kv (fun g12 h => ?_))
    refine zi_aload_n (pc' := 37) rfl rfl rfl ?_
    refine zi_iload (pc' := 39) rfl rfl rfl ?_
    refine zi_callV (d' := 1) (as := [_]) (pc' := 42) rfl rfl rfl rfl (Nat.lt_of_lt_of_le (by decide) hd) (s_S_feedFour (Nat.le_refl _) h) (zi_kv (fun g15 h => ?_))
    refine zi_aload_n (pc' := 43) rfl rfl rfl ?_
    refine zi_geti (pc' := 46) 8 rfl rfl rfl rfl rfl rfl ?_
    exact zi_iret rfl rfl h
  · replace h := h.2 c17
    refine zi_iconst (pc' := 14) rfl rfl ?_
    exact zi_iret rfl rfl h
-- SpoutNewsModel.types(I)V
noncomputable def w_M_types_l3 (l1 : Int) (K39 : zi_M → Prop) (Q : Int → zi_M → Prop) : Nat → Int → zi_M → Prop
  | 0, _, _ => False
  | f + 1, l2, g => (zi_r l2 ∧ ((l2 < 0 → K39 g) ∧ (0 ≤ l2 → ((0 ≤ (g 214 13) ∧ (g 214 13) < 400) ∧ (∀ g3, g3 = zi_u g 222 (g 214 13) (zi_and (zi_shr l1 l2) 255) → (∀ g4, g4 = zi_u g3 214 13 ((g3 214 13) + 1) → w_M_types_l3 l1 K39 Q f (l2 + (-8)) g4))))))
noncomputable def w_M_types (l1 : Int) (g : zi_M) (Q : Int → zi_M → Prop) : Prop := (∃ f7, w_M_types_l3 l1 (fun g6 => Q 0 g6) Q f7 24 g)
set_option maxRecDepth 100000 in
theorem s_M_types_l3_r {E : sx_E} {d : Nat} (hd : 1 ≤ d) {l1 : Int} {K39 : zi_M → Prop} {Q : Int → zi_M → Prop} (hK39 : ∀ (g : zi_M), K39 g → zi_W E d 199 39 [some (.ref 214), some (zi_i l1), none] [] g (zi_Qv Q)) : ∀ (f : Nat) {l2 : Int} {g : zi_M}, w_M_types_l3 l1 K39 Q f l2 g → zi_W E d 199 3 [some (.ref 214), some (zi_i l1), some (zi_i l2)] [] g (zi_Qv Q)
  | 0, _, _, h => False.elim h
  | f + 1, l2, g, h => by
    refine zi_iload_n (pc' := 4) rfl rfl rfl ?_
    obtain ⟨o1, h⟩ := h
    refine zi_if_lt (x := 39) (pc' := 7) rfl rfl o1  (fun c5 => ?_) (fun c5 => ?_)
    · replace h := h.1 c5
      exact zi_wk (hK39 _ h) (And.intro rfl (And.intro rfl trivial))
    · replace h := h.2 c5
      refine zi_aload_n (pc' := 8) rfl rfl rfl ?_
      refine zi_getr (pc' := 11) rfl rfl rfl rfl rfl ?_
      refine zi_aload_n (pc' := 12) rfl rfl rfl ?_
      refine zi_geti (pc' := 15) 13 rfl rfl rfl rfl rfl rfl ?_
      refine zi_iload_n (pc' := 16) rfl rfl rfl ?_
      refine zi_iload_n (pc' := 17) rfl rfl rfl ?_
      refine zi_ishr (pc' := 18) rfl rfl ?_
      refine zi_sipush (pc' := 21) rfl rfl (by decide) ?_
      refine zi_iand (pc' := 22) rfl rfl ?_
      obtain ⟨o2, h⟩ := h
      refine zi_iast (pc' := 23) rfl rfl rfl o2 ?_
      replace h := h _ rfl
      refine zi_aload_n (pc' := 24) rfl rfl rfl ?_
      refine zi_aload_n (pc' := 25) rfl rfl rfl ?_
      refine zi_geti (pc' := 28) 13 rfl rfl rfl rfl rfl rfl ?_
      refine zi_iconst (pc' := 29) rfl rfl ?_
      refine zi_iadd (pc' := 30) rfl rfl ?_
      refine zi_puti (pc' := 33) 13 rfl rfl rfl rfl rfl  ?_
      replace h := h _ rfl
      refine zi_iinc (pc' := 36) [some _, some _, some _] rfl rfl rfl rfl ?_
      refine zi_goto (x := 3) rfl ?_
      exact zi_wk (s_M_types_l3_r hd hK39 f h) (And.intro rfl (And.intro rfl (And.intro rfl trivial)))
set_option maxRecDepth 100000 in
theorem s_M_types_l3 {E : sx_E} {d : Nat} (hd : 1 ≤ d) {l1 : Int} {K39 : zi_M → Prop} {Q : Int → zi_M → Prop} {l2 : Int} {g : zi_M} (h : ∃ f, w_M_types_l3 l1 K39 Q f l2 g) (hK39 : ∀ (g : zi_M), K39 g → zi_W E d 199 39 [some (.ref 214), some (zi_i l1), none] [] g (zi_Qv Q)) : zi_W E d 199 3 [some (.ref 214), some (zi_i l1), some (zi_i l2)] [] g (zi_Qv Q) := by
  obtain ⟨f, h⟩ := h
  exact s_M_types_l3_r hd hK39 f h
set_option maxRecDepth 100000 in
theorem s_M_types {E : sx_E} {d : Nat} (hd : 1 ≤ d) {l1 : Int} {g : zi_M} {Q : Int → zi_M → Prop} (h : w_M_types l1 g Q) : zi_S E d 199 [.ref 214, zi_i l1] g (zi_Qv Q) := by
  refine zi_Sof jf_199 [some (.ref 214), some (zi_i l1), none] rfl (And.intro rfl (And.intro rfl trivial)) ?_
  unfold w_M_types at h
  refine zi_bipush (pc' := 2) rfl rfl (by decide) ?_
  refine zi_istore_n (pc' := 3) [some _, some _, some _] rfl rfl rfl ?_
  refine zi_wk (s_M_types_l3 hd h (fun g6 h => ?_)) (And.intro rfl (And.intro rfl (And.intro rfl trivial)))
  exact zi_vret rfl rfl h
-- SpoutNewsModel.feed(IIIII)I
noncomputable def w_M_feed (l1 : Int) (l2 : Int) (l3 : Int) (l4 : Int) (l5 : Int) (g : zi_M) (Q : Int → zi_M → Prop) : Prop := (∀ g1, g1 = zi_u g 214 0 0 → (zi_r (g1 214 13) ∧ (((g1 214 13) ≤ 380 → w_M_types l1 g1 (fun _ g4 => w_M_types l2 g4 (fun _ g7 => w_M_types l3 g7 (fun _ g10 => w_M_types l4 g10 (fun _ g13 => w_M_types l5 g13 (fun _ g16 => Q (g16 214 13) g16)))))) ∧ (380 < (g1 214 13) → Q (-1) g1))))
set_option maxRecDepth 100000 in
theorem s_M_feed {E : sx_E} {d : Nat} (hd : 2 ≤ d) {l1 : Int} {l2 : Int} {l3 : Int} {l4 : Int} {l5 : Int} {g : zi_M} {Q : Int → zi_M → Prop} (h : w_M_feed l1 l2 l3 l4 l5 g Q) : zi_S E d 198 [.ref 214, zi_i l1, zi_i l2, zi_i l3, zi_i l4, zi_i l5] g (zi_Q Q) := by
  refine zi_Sof jf_198 [some (.ref 214), some (zi_i l1), some (zi_i l2), some (zi_i l3), some (zi_i l4), some (zi_i l5)] rfl (And.intro rfl (And.intro rfl (And.intro rfl (And.intro rfl (And.intro rfl (And.intro rfl trivial)))))) ?_
  unfold w_M_feed at h
  refine zi_aload_n (pc' := 1) rfl rfl rfl ?_
  refine zi_iconst (pc' := 2) rfl rfl ?_
  refine zi_puti (pc' := 5) 0 rfl rfl rfl rfl rfl  ?_
  replace h := h _ rfl
  refine zi_aload_n (pc' := 6) rfl rfl rfl ?_
  refine zi_geti (pc' := 9) 13 rfl rfl rfl rfl rfl rfl ?_
  refine zi_sipush (pc' := 12) rfl rfl (by decide) ?_
  obtain ⟨o2, h⟩ := h
  refine zi_icmp_le (x := 17) (pc' := 15) rfl rfl o2 (by decide) (fun c18 => ?_) (fun c18 => ?_)
  · replace h := h.1 c18
    refine zi_aload_n (pc' := 18) rfl rfl rfl ?_
    refine zi_iload_n (pc' := 19) rfl rfl rfl ?_
    refine zi_callV (d' := 1) (as := [_]) (pc' := 22) rfl rfl rfl rfl (Nat.lt_of_lt_of_le (by decide) hd) (s_M_types (Nat.le_refl _) h) (zi_kv (fun g4 h => ?_))
    refine zi_aload_n (pc' := 23) rfl rfl rfl ?_
    refine zi_iload_n (pc' := 24) rfl rfl rfl ?_
    refine zi_callV (d' := 1) (as := [_]) (pc' := 27) rfl rfl rfl rfl (Nat.lt_of_lt_of_le (by decide) hd) (s_M_types (Nat.le_refl _) h) (zi_kv (fun g7 h => ?_))
    refine zi_aload_n (pc' := 28) rfl rfl rfl ?_
    refine zi_iload_n (pc' := 29) rfl rfl rfl ?_
    refine zi_callV (d' := 1) (as := [_]) (pc' := 32) rfl rfl rfl rfl (Nat.lt_of_lt_of_le (by decide) hd) (s_M_types (Nat.le_refl _) h) (zi_kv (fun g10 h => ?_))
    refine zi_aload_n (pc' := 33) rfl rfl rfl ?_
    refine zi_iload (pc' := 35) rfl rfl rfl ?_
    refine zi_callV (d' := 1) (as := [_]) (pc' := 38) rfl rfl rfl rfl (Nat.lt_of_lt_of_le (by decide) hd) (s_M_types (Nat.le_refl _) h) (zi_kv (fun g13 h => ?_))
    refine zi_aload_n (pc' := 39) rfl rfl rfl ?_
    refine zi_iload (pc' := 41) rfl rfl rfl ?_
    refine zi_callV (d' := 1) (as := [_]) (pc' := 44) rfl rfl rfl rfl (Nat.lt_of_lt_of_le (by decide) hd) (s_M_types (Nat.le_refl _) h) (zi_kv (fun g16 h => ?_))
    refine zi_aload_n (pc' := 45) rfl rfl rfl ?_
    refine zi_geti (pc' := 48) 13 rfl rfl rfl rfl rfl rfl ?_
    exact zi_iret rfl rfl h
  · replace h := h.2 c18
    refine zi_iconst (pc' := 16) rfl rfl ?_
    exact zi_iret rfl rfl h
-- SpoutNews.end(I)Z
noncomputable def w_S_end (l1 : Int) (g : zi_M) (Q : Int → zi_M → Prop) : Prop := (zi_r l1 ∧ ((l1 < 0 → Q 0 g) ∧ (0 ≤ l1 → (zi_r (g 0 8) ∧ ((l1 ≤ (g 0 8) → (∀ g3, g3 = zi_u g 0 8 l1 → Q 1 g3)) ∧ ((g 0 8) < l1 → Q 0 g))))))
set_option maxRecDepth 100000 in
theorem s_S_end {E : sx_E} {d : Nat} (hd : 1 ≤ d) {l1 : Int} {g : zi_M} {Q : Int → zi_M → Prop} (h : w_S_end l1 g Q) : zi_S E d 56 [.ref 0, zi_i l1] g (zi_Qb Q) := by
  refine zi_Sof jf_56 [some (.ref 0), some (zi_i l1)] rfl (And.intro rfl (And.intro rfl trivial)) ?_
  unfold w_S_end at h
  refine zi_iload_n (pc' := 1) rfl rfl rfl ?_
  obtain ⟨o1, h⟩ := h
  refine zi_if_lt (x := 12) (pc' := 4) rfl rfl o1  (fun c5 => ?_) (fun c5 => ?_)
  · replace h := h.1 c5
    refine zi_iconst (pc' := 13) rfl rfl ?_
    exact zi_zret rfl rfl (Or.inl rfl) h
  · replace h := h.2 c5
    refine zi_iload_n (pc' := 5) rfl rfl rfl ?_
    refine zi_aload_n (pc' := 6) rfl rfl rfl ?_
    refine zi_geti (pc' := 9) 8 rfl rfl rfl rfl rfl rfl ?_
    obtain ⟨o2, h⟩ := h
    refine zi_icmp_le (x := 14) (pc' := 12) rfl rfl o1 o2 (fun c4 => ?_) (fun c4 => ?_)
    · replace h := h.1 c4
      refine zi_aload_n (pc' := 15) rfl rfl rfl ?_
      refine zi_iload_n (pc' := 16) rfl rfl rfl ?_
      refine zi_puti (pc' := 19) 8 rfl rfl rfl rfl rfl  ?_
      replace h := h _ rfl
      refine zi_iconst (pc' := 20) rfl rfl ?_
      exact zi_zret rfl rfl (Or.inr rfl) h
    · replace h := h.2 c4
      refine zi_iconst (pc' := 13) rfl rfl ?_
      exact zi_zret rfl rfl (Or.inl rfl) h
-- SpoutNewsModel.end(I)Z
noncomputable def w_M_end (l1 : Int) (g : zi_M) (Q : Int → zi_M → Prop) : Prop := (∀ g1, g1 = zi_u g 214 0 0 → w_M_isIn l1 0 (g1 214 13) g1 (fun v2 g3 => ((¬ v2 = 0 → (∀ g5, g5 = zi_u g3 214 13 l1 → Q 1 g5)) ∧ (v2 = 0 → Q 0 g3))))
set_option maxRecDepth 100000 in
theorem s_M_end {E : sx_E} {d : Nat} (hd : 2 ≤ d) {l1 : Int} {g : zi_M} {Q : Int → zi_M → Prop} (h : w_M_end l1 g Q) : zi_S E d 200 [.ref 214, zi_i l1] g (zi_Qb Q) := by
  refine zi_Sof jf_200 [some (.ref 214), some (zi_i l1)] rfl (And.intro rfl (And.intro rfl trivial)) ?_
  unfold w_M_end at h
  refine zi_aload_n (pc' := 1) rfl rfl rfl ?_
  refine zi_iconst (pc' := 2) rfl rfl ?_
  refine zi_puti (pc' := 5) 0 rfl rfl rfl rfl rfl  ?_
  replace h := h _ rfl
  refine zi_aload_n (pc' := 6) rfl rfl rfl ?_
  refine zi_iload_n (pc' := 7) rfl rfl rfl ?_
  refine zi_iconst (pc' := 8) rfl rfl ?_
  refine zi_aload_n (pc' := 9) rfl rfl rfl ?_
  refine zi_geti (pc' := 12) 13 rfl rfl rfl rfl rfl rfl ?_
  refine zi_callV (d' := 1) (as := [_, _, _]) (pc' := 15) rfl rfl rfl rfl (Nat.lt_of_lt_of_le (by decide) hd) (s_M_isIn (Nat.le_refl _) h) (zi_kb (fun v2 g3 b4 h => ?_))
  refine zi_if_ne (x := 20) (pc' := 18) rfl rfl (zi_r_bit b4)  (fun c6 => ?_) (fun c6 => ?_)
  · replace h := h.1 c6
    refine zi_aload_n (pc' := 21) rfl rfl rfl ?_
    refine zi_iload_n (pc' := 22) rfl rfl rfl ?_
    refine zi_puti (pc' := 25) 13 rfl rfl rfl rfl rfl  ?_
    replace h := h _ rfl
    refine zi_iconst (pc' := 26) rfl rfl ?_
    exact zi_zret rfl rfl (Or.inr rfl) h
  · replace h := h.2 c6
    refine zi_iconst (pc' := 19) rfl rfl ?_
    exact zi_zret rfl rfl (Or.inl rfl) h
-- SpoutNews$Tokens.clear()V
noncomputable def w_Tokens_clear (g : zi_M) (Q : Int → zi_M → Prop) : Prop := (∀ g1, g1 = zi_u g 191 3 0 → (∀ g2, g2 = zi_u g1 191 4 0 → (∀ g3, g3 = zi_u g2 191 5 0 → (∀ g4, g4 = zi_u g3 191 6 (-1) → Q 0 g4))))
set_option maxRecDepth 100000 in
theorem s_Tokens_clear {E : sx_E} {d : Nat} (hd : 1 ≤ d) {g : zi_M} {Q : Int → zi_M → Prop} (h : w_Tokens_clear g Q) : zi_S E d 60 [.ref 191] g (zi_Qv Q) := by
  refine zi_Sof jf_60 [some (.ref 191)] rfl (And.intro rfl trivial) ?_
  unfold w_Tokens_clear at h
  refine zi_aload_n (pc' := 1) rfl rfl rfl ?_
  refine zi_iconst (pc' := 2) rfl rfl ?_
  refine zi_puti (pc' := 5) 3 rfl rfl rfl rfl rfl  ?_
  replace h := h _ rfl
  refine zi_aload_n (pc' := 6) rfl rfl rfl ?_
  refine zi_iconst (pc' := 7) rfl rfl ?_
  refine zi_puti (pc' := 10) 4 rfl rfl rfl rfl rfl  ?_
  replace h := h _ rfl
  refine zi_aload_n (pc' := 11) rfl rfl rfl ?_
  refine zi_iconst (pc' := 12) rfl rfl ?_
  refine zi_puti (pc' := 15) 5 rfl rfl rfl rfl rfl  ?_
  replace h := h _ rfl
  refine zi_aload_n (pc' := 16) rfl rfl rfl ?_
  refine zi_iconst (pc' := 17) rfl rfl ?_
  refine zi_puti (pc' := 20) 6 rfl rfl rfl rfl rfl  ?_
  replace h := h _ rfl
  exact zi_vret rfl rfl h
-- SpoutNews$Tokens.isLetter(I)Z
noncomputable def w_Tokens_isLetter_b12 (l0 : Int) (g : zi_M) (Q : Int → zi_M → Prop) : Prop := (zi_r l0 ∧ ((l0 < 65 → Q 0 g) ∧ (65 ≤ l0 → ((90 < l0 → Q 0 g) ∧ (l0 ≤ 90 → Q 1 g)))))
noncomputable def w_Tokens_isLetter (l0 : Int) (g : zi_M) (Q : Int → zi_M → Prop) : Prop := (zi_r l0 ∧ ((l0 < 97 → w_Tokens_isLetter_b12 l0 g Q) ∧ (97 ≤ l0 → ((l0 ≤ 122 → Q 1 g) ∧ (122 < l0 → w_Tokens_isLetter_b12 l0 g Q)))))
set_option maxRecDepth 100000 in
theorem s_Tokens_isLetter_b12 {E : sx_E} {d : Nat} (hd : 1 ≤ d) {l0 : Int} {Q : Int → zi_M → Prop} {g : zi_M} (h : w_Tokens_isLetter_b12 l0 g Q) : zi_W E d 61 12 [some (zi_i l0)] [] g (zi_Qb Q) := by
  unfold w_Tokens_isLetter_b12 at h
  refine zi_iload_n (pc' := 13) rfl rfl rfl ?_
  refine zi_bipush (pc' := 15) rfl rfl (by decide) ?_
  obtain ⟨o2, h⟩ := h
  refine zi_icmp_lt (x := 28) (pc' := 18) rfl rfl o2 (by decide) (fun c4 => ?_) (fun c4 => ?_)
  · replace h := h.1 c4
    refine zi_iconst (pc' := 29) rfl rfl ?_
    exact zi_zret rfl rfl (Or.inl rfl) h
  · replace h := h.2 c4
    refine zi_iload_n (pc' := 19) rfl rfl rfl ?_
    refine zi_bipush (pc' := 21) rfl rfl (by decide) ?_
    refine zi_icmp_gt (x := 28) (pc' := 24) rfl rfl o2 (by decide) (fun c3 => ?_) (fun c3 => ?_)
    · replace h := h.1 c3
      refine zi_iconst (pc' := 29) rfl rfl ?_
      exact zi_zret rfl rfl (Or.inl rfl) h
    · replace h := h.2 c3
      refine zi_iconst (pc' := 25) rfl rfl ?_
      refine zi_goto (x := 29) rfl ?_
      exact zi_zret rfl rfl (Or.inr rfl) h
set_option maxRecDepth 100000 in
theorem s_Tokens_isLetter {E : sx_E} {d : Nat} (hd : 1 ≤ d) {l0 : Int} {g : zi_M} {Q : Int → zi_M → Prop} (h : w_Tokens_isLetter l0 g Q) : zi_S E d 61 [zi_i l0] g (zi_Qb Q) := by
  refine zi_Sof jf_61 [some (zi_i l0)] rfl (And.intro rfl trivial) ?_
  unfold w_Tokens_isLetter at h
  refine zi_iload_n (pc' := 1) rfl rfl rfl ?_
  refine zi_bipush (pc' := 3) rfl rfl (by decide) ?_
  obtain ⟨o1, h⟩ := h
  refine zi_icmp_lt (x := 12) (pc' := 6) rfl rfl o1 (by decide) (fun c6 => ?_) (fun c6 => ?_)
  · replace h := h.1 c6
    exact zi_wk (s_Tokens_isLetter_b12 hd h) (And.intro rfl trivial)
  · replace h := h.2 c6
    refine zi_iload_n (pc' := 7) rfl rfl rfl ?_
    refine zi_bipush (pc' := 9) rfl rfl (by decide) ?_
    refine zi_icmp_le (x := 24) (pc' := 12) rfl rfl o1 (by decide) (fun c5 => ?_) (fun c5 => ?_)
    · replace h := h.1 c5
      refine zi_iconst (pc' := 25) rfl rfl ?_
      refine zi_goto (x := 29) rfl ?_
      exact zi_zret rfl rfl (Or.inr rfl) h
    · replace h := h.2 c5
      exact zi_wk (s_Tokens_isLetter_b12 hd h) (And.intro rfl trivial)
-- SpoutNews$Tokens.isDigit(I)Z
noncomputable def w_Tokens_isDigit (l0 : Int) (g : zi_M) (Q : Int → zi_M → Prop) : Prop := (zi_r l0 ∧ ((l0 < 48 → Q 0 g) ∧ (48 ≤ l0 → ((57 < l0 → Q 0 g) ∧ (l0 ≤ 57 → Q 1 g)))))
set_option maxRecDepth 100000 in
theorem s_Tokens_isDigit {E : sx_E} {d : Nat} (hd : 1 ≤ d) {l0 : Int} {g : zi_M} {Q : Int → zi_M → Prop} (h : w_Tokens_isDigit l0 g Q) : zi_S E d 62 [zi_i l0] g (zi_Qb Q) := by
  refine zi_Sof jf_62 [some (zi_i l0)] rfl (And.intro rfl trivial) ?_
  unfold w_Tokens_isDigit at h
  refine zi_iload_n (pc' := 1) rfl rfl rfl ?_
  refine zi_bipush (pc' := 3) rfl rfl (by decide) ?_
  obtain ⟨o1, h⟩ := h
  refine zi_icmp_lt (x := 16) (pc' := 6) rfl rfl o1 (by decide) (fun c3 => ?_) (fun c3 => ?_)
  · replace h := h.1 c3
    refine zi_iconst (pc' := 17) rfl rfl ?_
    exact zi_zret rfl rfl (Or.inl rfl) h
  · replace h := h.2 c3
    refine zi_iload_n (pc' := 7) rfl rfl rfl ?_
    refine zi_bipush (pc' := 9) rfl rfl (by decide) ?_
    refine zi_icmp_gt (x := 16) (pc' := 12) rfl rfl o1 (by decide) (fun c2 => ?_) (fun c2 => ?_)
    · replace h := h.1 c2
      refine zi_iconst (pc' := 17) rfl rfl ?_
      exact zi_zret rfl rfl (Or.inl rfl) h
    · replace h := h.2 c2
      refine zi_iconst (pc' := 13) rfl rfl ?_
      refine zi_goto (x := 17) rfl ?_
      exact zi_zret rfl rfl (Or.inr rfl) h
-- SpoutNews$Tokens.isSignOfLaw(I)Z
noncomputable def w_Tokens_isSignOfLaw (l0 : Int) (g : zi_M) (Q : Int → zi_M → Prop) : Prop := (zi_r l0 ∧ ((l0 = 59 → Q 1 g) ∧ (¬ l0 = 59 → ((l0 = 43 → Q 1 g) ∧ (¬ l0 = 43 → ((l0 = 45 → Q 1 g) ∧ (¬ l0 = 45 → ((l0 = 42 → Q 1 g) ∧ (¬ l0 = 42 → ((l0 = 47 → Q 1 g) ∧ (¬ l0 = 47 → ((l0 = 40 → Q 1 g) ∧ (¬ l0 = 40 → ((l0 = 41 → Q 1 g) ∧ (¬ l0 = 41 → ((l0 = 60 → Q 1 g) ∧ (¬ l0 = 60 → ((l0 = 61 → Q 1 g) ∧ (¬ l0 = 61 → ((¬ l0 = 62 → Q 0 g) ∧ (l0 = 62 → Q 1 g)))))))))))))))))))))
set_option maxRecDepth 100000 in
theorem s_Tokens_isSignOfLaw {E : sx_E} {d : Nat} (hd : 1 ≤ d) {l0 : Int} {g : zi_M} {Q : Int → zi_M → Prop} (h : w_Tokens_isSignOfLaw l0 g Q) : zi_S E d 78 [zi_i l0] g (zi_Qb Q) := by
  refine zi_Sof jf_78 [some (zi_i l0)] rfl (And.intro rfl trivial) ?_
  unfold w_Tokens_isSignOfLaw at h
  refine zi_iload_n (pc' := 1) rfl rfl rfl ?_
  refine zi_bipush (pc' := 3) rfl rfl (by decide) ?_
  obtain ⟨o1, h⟩ := h
  refine zi_icmp_eq (x := 60) (pc' := 6) rfl rfl o1 (by decide) (fun c11 => ?_) (fun c11 => ?_)
  · replace h := h.1 c11
    refine zi_iconst (pc' := 61) rfl rfl ?_
    refine zi_goto (x := 65) rfl ?_
    exact zi_zret rfl rfl (Or.inr rfl) h
  · replace h := h.2 c11
    refine zi_iload_n (pc' := 7) rfl rfl rfl ?_
    refine zi_bipush (pc' := 9) rfl rfl (by decide) ?_
    refine zi_icmp_eq (x := 60) (pc' := 12) rfl rfl o1 (by decide) (fun c10 => ?_) (fun c10 => ?_)
    · replace h := h.1 c10
      refine zi_iconst (pc' := 61) rfl rfl ?_
      refine zi_goto (x := 65) rfl ?_
      exact zi_zret rfl rfl (Or.inr rfl) h
    · replace h := h.2 c10
      refine zi_iload_n (pc' := 13) rfl rfl rfl ?_
      refine zi_bipush (pc' := 15) rfl rfl (by decide) ?_
      refine zi_icmp_eq (x := 60) (pc' := 18) rfl rfl o1 (by decide) (fun c9 => ?_) (fun c9 => ?_)
      · replace h := h.1 c9
        refine zi_iconst (pc' := 61) rfl rfl ?_
        refine zi_goto (x := 65) rfl ?_
        exact zi_zret rfl rfl (Or.inr rfl) h
      · replace h := h.2 c9
        refine zi_iload_n (pc' := 19) rfl rfl rfl ?_
        refine zi_bipush (pc' := 21) rfl rfl (by decide) ?_
        refine zi_icmp_eq (x := 60) (pc' := 24) rfl rfl o1 (by decide) (fun c8 => ?_) (fun c8 => ?_)
        · replace h := h.1 c8
          refine zi_iconst (pc' := 61) rfl rfl ?_
          refine zi_goto (x := 65) rfl ?_
          exact zi_zret rfl rfl (Or.inr rfl) h
        · replace h := h.2 c8
          refine zi_iload_n (pc' := 25) rfl rfl rfl ?_
          refine zi_bipush (pc' := 27) rfl rfl (by decide) ?_
          refine zi_icmp_eq (x := 60) (pc' := 30) rfl rfl o1 (by decide) (fun c7 => ?_) (fun c7 => ?_)
          · replace h := h.1 c7
            refine zi_iconst (pc' := 61) rfl rfl ?_
            refine zi_goto (x := 65) rfl ?_
            exact zi_zret rfl rfl (Or.inr rfl) h
          · replace h := h.2 c7
            refine zi_iload_n (pc' := 31) rfl rfl rfl ?_
            refine zi_bipush (pc' := 33) rfl rfl (by decide) ?_
            refine zi_icmp_eq (x := 60) (pc' := 36) rfl rfl o1 (by decide) (fun c6 => ?_) (fun c6 => ?_)
            · replace h := h.1 c6
              refine zi_iconst (pc' := 61) rfl rfl ?_
              refine zi_goto (x := 65) rfl ?_
              exact zi_zret rfl rfl (Or.inr rfl) h
            · replace h := h.2 c6
              refine zi_iload_n (pc' := 37) rfl rfl rfl ?_
              refine zi_bipush (pc' := 39) rfl rfl (by decide) ?_
              refine zi_icmp_eq (x := 60) (pc' := 42) rfl rfl o1 (by decide) (fun c5 => ?_) (fun c5 => ?_)
              · replace h := h.1 c5
                refine zi_iconst (pc' := 61) rfl rfl ?_
                refine zi_goto (x := 65) rfl ?_
                exact zi_zret rfl rfl (Or.inr rfl) h
              · replace h := h.2 c5
                refine zi_iload_n (pc' := 43) rfl rfl rfl ?_
                refine zi_bipush (pc' := 45) rfl rfl (by decide) ?_
                refine zi_icmp_eq (x := 60) (pc' := 48) rfl rfl o1 (by decide) (fun c4 => ?_) (fun c4 => ?_)
                · replace h := h.1 c4
                  refine zi_iconst (pc' := 61) rfl rfl ?_
                  refine zi_goto (x := 65) rfl ?_
                  exact zi_zret rfl rfl (Or.inr rfl) h
                · replace h := h.2 c4
                  refine zi_iload_n (pc' := 49) rfl rfl rfl ?_
                  refine zi_bipush (pc' := 51) rfl rfl (by decide) ?_
                  refine zi_icmp_eq (x := 60) (pc' := 54) rfl rfl o1 (by decide) (fun c3 => ?_) (fun c3 => ?_)
                  · replace h := h.1 c3
                    refine zi_iconst (pc' := 61) rfl rfl ?_
                    refine zi_goto (x := 65) rfl ?_
                    exact zi_zret rfl rfl (Or.inr rfl) h
                  · replace h := h.2 c3
                    refine zi_iload_n (pc' := 55) rfl rfl rfl ?_
                    refine zi_bipush (pc' := 57) rfl rfl (by decide) ?_
                    refine zi_icmp_ne (x := 64) (pc' := 60) rfl rfl o1 (by decide) (fun c2 => ?_) (fun c2 => ?_)
                    · replace h := h.1 c2
                      refine zi_iconst (pc' := 65) rfl rfl ?_
                      exact zi_zret rfl rfl (Or.inl rfl) h
                    · replace h := h.2 c2
                      refine zi_iconst (pc' := 61) rfl rfl ?_
                      refine zi_goto (x := 65) rfl ?_
                      exact zi_zret rfl rfl (Or.inr rfl) h
-- SpoutNews$Tokens.add(III)V
noncomputable def w_Tokens_add (l1 : Int) (l2 : Int) (l3 : Int) (g : zi_M) (Q : Int → zi_M → Prop) : Prop := (zi_r (g 191 3) ∧ ((400 < (g 191 3) → Q 0 g) ∧ ((g 191 3) ≤ 400 → ((0 ≤ (g 191 3) ∧ (g 191 3) < 401) ∧ (∀ g3, g3 = zi_u g 192 (g 191 3) l1 → ((0 ≤ (g3 191 3) ∧ (g3 191 3) < 401) ∧ (∀ g5, g5 = zi_u g3 193 (g3 191 3) l2 → ((0 ≤ (g5 191 3) ∧ (g5 191 3) < 401) ∧ (∀ g7, g7 = zi_u g5 194 (g5 191 3) l3 → (∀ g8, g8 = zi_u g7 191 3 ((g7 191 3) + 1) → Q 0 g8))))))))))
set_option maxRecDepth 100000 in
theorem s_Tokens_add {E : sx_E} {d : Nat} (hd : 1 ≤ d) {l1 : Int} {l2 : Int} {l3 : Int} {g : zi_M} {Q : Int → zi_M → Prop} (h : w_Tokens_add l1 l2 l3 g Q) : zi_S E d 76 [.ref 191, zi_i l1, zi_i l2, zi_i l3] g (zi_Qv Q) := by
  refine zi_Sof jf_76 [some (.ref 191), some (zi_i l1), some (zi_i l2), some (zi_i l3)] rfl (And.intro rfl (And.intro rfl (And.intro rfl (And.intro rfl trivial)))) ?_
  unfold w_Tokens_add at h
  refine zi_aload_n (pc' := 1) rfl rfl rfl ?_
  refine zi_geti (pc' := 4) 3 rfl rfl rfl rfl rfl rfl ?_
  refine zi_sipush (pc' := 7) rfl rfl (by decide) ?_
  obtain ⟨o1, h⟩ := h
  refine zi_icmp_gt (x := 50) (pc' := 10) rfl rfl o1 (by decide) (fun c9 => ?_) (fun c9 => ?_)
  · replace h := h.1 c9
    exact zi_vret rfl rfl h
  · replace h := h.2 c9
    refine zi_aload_n (pc' := 11) rfl rfl rfl ?_
    refine zi_getr (pc' := 14) rfl rfl rfl rfl rfl ?_
    refine zi_aload_n (pc' := 15) rfl rfl rfl ?_
    refine zi_geti (pc' := 18) 3 rfl rfl rfl rfl rfl rfl ?_
    refine zi_iload_n (pc' := 19) rfl rfl rfl ?_
    obtain ⟨o2, h⟩ := h
    refine zi_iast (pc' := 20) rfl rfl rfl o2 ?_
    replace h := h _ rfl
    refine zi_aload_n (pc' := 21) rfl rfl rfl ?_
    refine zi_getr (pc' := 24) rfl rfl rfl rfl rfl ?_
    refine zi_aload_n (pc' := 25) rfl rfl rfl ?_
    refine zi_geti (pc' := 28) 3 rfl rfl rfl rfl rfl rfl ?_
    refine zi_iload_n (pc' := 29) rfl rfl rfl ?_
    obtain ⟨o4, h⟩ := h
    refine zi_iast (pc' := 30) rfl rfl rfl o4 ?_
    replace h := h _ rfl
    refine zi_aload_n (pc' := 31) rfl rfl rfl ?_
    refine zi_getr (pc' := 34) rfl rfl rfl rfl rfl ?_
    refine zi_aload_n (pc' := 35) rfl rfl rfl ?_
    refine zi_geti (pc' := 38) 3 rfl rfl rfl rfl rfl rfl ?_
    refine zi_iload_n (pc' := 39) rfl rfl rfl ?_
    obtain ⟨o6, h⟩ := h
    refine zi_iast (pc' := 40) rfl rfl rfl o6 ?_
    replace h := h _ rfl
    refine zi_aload_n (pc' := 41) rfl rfl rfl ?_
    refine zi_dup (pc' := 42) rfl rfl rfl ?_
    refine zi_geti (pc' := 45) 3 rfl rfl rfl rfl rfl rfl ?_
    refine zi_iconst (pc' := 46) rfl rfl ?_
    refine zi_iadd (pc' := 47) rfl rfl ?_
    refine zi_puti (pc' := 50) 3 rfl rfl rfl rfl rfl  ?_
    replace h := h _ rfl
    exact zi_vret rfl rfl h
-- SpoutNews$Tokens.numberAt([III)I
noncomputable def w_Tokens_numberAt_l5 (l1 : Int) (l2 : Int) (K29 : zi_M → Prop) (K50 : Int → zi_M → Prop) (Q : Int → zi_M → Prop) : Nat → Int → Int → zi_M → Prop
  | 0, _, _, _ => False
  | f + 1, l3, l4, g => (zi_r l4 ∧ zi_r l2 ∧ ((l2 ≤ l4 → K50 l3 g) ∧ (l4 < l2 → ((0 ≤ l4 ∧ l4 < 400) ∧ w_Tokens_isDigit (g 190 l4) g (fun v4 g5 => ((v4 = 0 → K50 l3 g5) ∧ (¬ v4 = 0 → (zi_r (l4 - l1) ∧ (((l4 - l1) < 4 → w_Tokens_numberAt_l5 l1 l2 K29 K50 Q f (((l3 * 10) + (g5 190 l4)) - 48) (l4 + 1) g5) ∧ (4 ≤ (l4 - l1) → K29 g5))))))))))
noncomputable def w_Tokens_numberAt (l1 : Int) (l2 : Int) (g : zi_M) (Q : Int → zi_M → Prop) : Prop := (∃ f14, w_Tokens_numberAt_l5 l1 l2 (fun g11 => Q (-1) g11) (fun k12 g13 => Q k12 g13) Q f14 0 l1 g)
set_option maxRecDepth 100000 in
theorem s_Tokens_numberAt_l5_r {E : sx_E} {d : Nat} (hd : 2 ≤ d) {l1 : Int} {l2 : Int} {K29 : zi_M → Prop} {K50 : Int → zi_M → Prop} {Q : Int → zi_M → Prop} (hK29 : ∀ (g : zi_M), K29 g → zi_W E d 77 29 [some (.ref 190), some (zi_i l1), some (zi_i l2), none, none] [] g (zi_Q Q)) (hK50 : ∀ (k3 : Int) (g : zi_M), K50 k3 g → zi_W E d 77 50 [some (.ref 190), some (zi_i l1), some (zi_i l2), some (zi_i k3), none] [] g (zi_Q Q)) : ∀ (f : Nat) {l3 : Int} {l4 : Int} {g : zi_M}, w_Tokens_numberAt_l5 l1 l2 K29 K50 Q f l3 l4 g → zi_W E d 77 5 [some (.ref 190), some (zi_i l1), some (zi_i l2), some (zi_i l3), some (zi_i l4)] [] g (zi_Q Q)
  | 0, _, _, _, h => False.elim h
  | f + 1, l3, l4, g, h => by
    refine zi_iload (pc' := 7) rfl rfl rfl ?_
    refine zi_iload_n (pc' := 8) rfl rfl rfl ?_
    obtain ⟨o1, o2, h⟩ := h
    refine zi_icmp_ge (x := 50) (pc' := 11) rfl rfl o1 o2 (fun c10 => ?_) (fun c10 => ?_)
    · replace h := h.1 c10
      exact zi_wk (hK50 _ _ h) (And.intro rfl (And.intro rfl (And.intro rfl (And.intro rfl trivial))))
    · replace h := h.2 c10
      refine zi_aload_n (pc' := 12) rfl rfl rfl ?_
      refine zi_iload (pc' := 14) rfl rfl rfl ?_
      obtain ⟨o3, h⟩ := h
      refine zi_iald (pc' := 15) rfl rfl rfl o3 ?_
      refine zi_callS (d' := 1) (as := [_]) (pc' := 18) rfl rfl rfl (Nat.lt_of_lt_of_le (by decide) hd) (s_Tokens_isDigit (Nat.le_refl _) h) (zi_kb (fun v4 g5 b6 h => ?_))
      refine zi_if_eq (x := 50) (pc' := 21) rfl rfl (zi_r_bit b6)  (fun c9 => ?_) (fun c9 => ?_)
      · replace h := h.1 c9
        exact zi_wk (hK50 _ _ h) (And.intro rfl (And.intro rfl (And.intro rfl (And.intro rfl trivial))))
      · replace h := h.2 c9
        refine zi_iload (pc' := 23) rfl rfl rfl ?_
        refine zi_iload_n (pc' := 24) rfl rfl rfl ?_
        refine zi_isub (pc' := 25) rfl rfl ?_
        refine zi_iconst (pc' := 26) rfl rfl ?_
        obtain ⟨o7, h⟩ := h
        refine zi_icmp_lt (x := 31) (pc' := 29) rfl rfl o7 (by decide) (fun c8 => ?_) (fun c8 => ?_)
        · replace h := h.1 c8
          refine zi_iload_n (pc' := 32) rfl rfl rfl ?_
          refine zi_bipush (pc' := 34) rfl rfl (by decide) ?_
          refine zi_imul (pc' := 35) rfl rfl ?_
          refine zi_aload_n (pc' := 36) rfl rfl rfl ?_
          refine zi_iload (pc' := 38) rfl rfl rfl ?_
          refine zi_iald (pc' := 39) rfl rfl rfl o3 ?_
          refine zi_iadd (pc' := 40) rfl rfl ?_
          refine zi_bipush (pc' := 42) rfl rfl (by decide) ?_
          refine zi_isub (pc' := 43) rfl rfl ?_
          refine zi_istore_n (pc' := 44) [some _, some _, some _, some _, some _] rfl rfl rfl ?_
          refine zi_iinc (pc' := 47) [some _, some _, some _, some _, some _] rfl rfl rfl rfl ?_
          refine zi_goto (x := 5) rfl ?_
          exact zi_wk (s_Tokens_numberAt_l5_r hd hK29 hK50 f h) (And.intro rfl (And.intro rfl (And.intro rfl (And.intro rfl (And.intro rfl trivial)))))
        · replace h := h.2 c8
          exact zi_wk (hK29 _ h) (And.intro rfl (And.intro rfl (And.intro rfl trivial)))
set_option maxRecDepth 100000 in
theorem s_Tokens_numberAt_l5 {E : sx_E} {d : Nat} (hd : 2 ≤ d) {l1 : Int} {l2 : Int} {K29 : zi_M → Prop} {K50 : Int → zi_M → Prop} {Q : Int → zi_M → Prop} {l3 : Int} {l4 : Int} {g : zi_M} (h : ∃ f, w_Tokens_numberAt_l5 l1 l2 K29 K50 Q f l3 l4 g) (hK29 : ∀ (g : zi_M), K29 g → zi_W E d 77 29 [some (.ref 190), some (zi_i l1), some (zi_i l2), none, none] [] g (zi_Q Q)) (hK50 : ∀ (k3 : Int) (g : zi_M), K50 k3 g → zi_W E d 77 50 [some (.ref 190), some (zi_i l1), some (zi_i l2), some (zi_i k3), none] [] g (zi_Q Q)) : zi_W E d 77 5 [some (.ref 190), some (zi_i l1), some (zi_i l2), some (zi_i l3), some (zi_i l4)] [] g (zi_Q Q) := by
  obtain ⟨f, h⟩ := h
  exact s_Tokens_numberAt_l5_r hd hK29 hK50 f h
set_option maxRecDepth 100000 in
theorem s_Tokens_numberAt {E : sx_E} {d : Nat} (hd : 2 ≤ d) {l1 : Int} {l2 : Int} {g : zi_M} {Q : Int → zi_M → Prop} (h : w_Tokens_numberAt l1 l2 g Q) : zi_S E d 77 [.ref 190, zi_i l1, zi_i l2] g (zi_Q Q) := by
  refine zi_Sof jf_77 [some (.ref 190), some (zi_i l1), some (zi_i l2), none, none] rfl (And.intro rfl (And.intro rfl (And.intro rfl trivial))) ?_
  unfold w_Tokens_numberAt at h
  refine zi_iconst (pc' := 1) rfl rfl ?_
  refine zi_istore_n (pc' := 2) [some _, some _, some _, some _, none] rfl rfl rfl ?_
  refine zi_iload_n (pc' := 3) rfl rfl rfl ?_
  refine zi_istore (pc' := 5) [some _, some _, some _, some _, some _] rfl rfl rfl ?_
  refine zi_wk (s_Tokens_numberAt_l5 hd h (fun g11 h => ?_) (fun k12 g13 h => ?_)) (And.intro rfl (And.intro rfl (And.intro rfl (And.intro rfl (And.intro rfl trivial)))))
  · refine zi_iconst (pc' := 30) rfl rfl ?_
    exact zi_iret rfl rfl h
  · refine zi_iload_n (pc' := 51) rfl rfl rfl ?_
    exact zi_iret rfl rfl h
-- SpoutNews$Law.clear()V
noncomputable def w_Law_clear (g : zi_M) (Q : Int → zi_M → Prop) : Prop := (∀ g1, g1 = zi_u g 196 2 0 → (∀ g2, g2 = zi_u g1 196 7 0 → Q 0 g2))
set_option maxRecDepth 100000 in
theorem s_Law_clear {E : sx_E} {d : Nat} (hd : 1 ≤ d) {g : zi_M} {Q : Int → zi_M → Prop} (h : w_Law_clear g Q) : zi_S E d 80 [.ref 196] g (zi_Qv Q) := by
  refine zi_Sof jf_80 [some (.ref 196)] rfl (And.intro rfl trivial) ?_
  unfold w_Law_clear at h
  refine zi_aload_n (pc' := 1) rfl rfl rfl ?_
  refine zi_iconst (pc' := 2) rfl rfl ?_
  refine zi_puti (pc' := 5) 2 rfl rfl rfl rfl rfl  ?_
  replace h := h _ rfl
  refine zi_aload_n (pc' := 6) rfl rfl rfl ?_
  refine zi_iconst (pc' := 7) rfl rfl ?_
  refine zi_puti (pc' := 10) 7 rfl rfl rfl rfl rfl  ?_
  replace h := h _ rfl
  exact zi_vret rfl rfl h
-- SpoutNews$Tokens.isAtEnd()Z
noncomputable def w_Tokens_isAtEnd (g : zi_M) (Q : Int → zi_M → Prop) : Prop := (zi_r (g 191 4) ∧ zi_r (g 191 3) ∧ (((g 191 3) ≤ (g 191 4) → Q 1 g) ∧ ((g 191 4) < (g 191 3) → ((0 ≤ (g 191 4) ∧ (g 191 4) < 401) ∧ (zi_r (g 192 (g 191 4)) ∧ ((¬ (g 192 (g 191 4)) = 4 → Q 0 g) ∧ ((g 192 (g 191 4)) = 4 → Q 1 g)))))))
set_option maxRecDepth 100000 in
theorem s_Tokens_isAtEnd {E : sx_E} {d : Nat} (hd : 1 ≤ d) {g : zi_M} {Q : Int → zi_M → Prop} (h : w_Tokens_isAtEnd g Q) : zi_S E d 81 [.ref 191] g (zi_Qb Q) := by
  refine zi_Sof jf_81 [some (.ref 191)] rfl (And.intro rfl trivial) ?_
  unfold w_Tokens_isAtEnd at h
  refine zi_aload_n (pc' := 1) rfl rfl rfl ?_
  refine zi_geti (pc' := 4) 4 rfl rfl rfl rfl rfl rfl ?_
  refine zi_aload_n (pc' := 5) rfl rfl rfl ?_
  refine zi_geti (pc' := 8) 3 rfl rfl rfl rfl rfl rfl ?_
  obtain ⟨o1, o2, h⟩ := h
  refine zi_icmp_ge (x := 24) (pc' := 11) rfl rfl o1 o2 (fun c6 => ?_) (fun c6 => ?_)
  · replace h := h.1 c6
    refine zi_iconst (pc' := 25) rfl rfl ?_
    refine zi_goto (x := 29) rfl ?_
    exact zi_zret rfl rfl (Or.inr rfl) h
  · replace h := h.2 c6
    refine zi_aload_n (pc' := 12) rfl rfl rfl ?_
    refine zi_getr (pc' := 15) rfl rfl rfl rfl rfl ?_
    refine zi_aload_n (pc' := 16) rfl rfl rfl ?_
    refine zi_geti (pc' := 19) 4 rfl rfl rfl rfl rfl rfl ?_
    obtain ⟨o3, h⟩ := h
    refine zi_iald (pc' := 20) rfl rfl rfl o3 ?_
    refine zi_iconst (pc' := 21) rfl rfl ?_
    obtain ⟨o4, h⟩ := h
    refine zi_icmp_ne (x := 28) (pc' := 24) rfl rfl o4 (by decide) (fun c5 => ?_) (fun c5 => ?_)
    · replace h := h.1 c5
      refine zi_iconst (pc' := 29) rfl rfl ?_
      exact zi_zret rfl rfl (Or.inl rfl) h
    · replace h := h.2 c5
      refine zi_iconst (pc' := 25) rfl rfl ?_
      refine zi_goto (x := 29) rfl ?_
      exact zi_zret rfl rfl (Or.inr rfl) h
-- SpoutNews$Tokens.keyword()I
noncomputable def w_Tokens_keyword (g : zi_M) (Q : Int → zi_M → Prop) : Prop := (zi_r (g 191 4) ∧ zi_r (g 191 3) ∧ (((g 191 3) ≤ (g 191 4) → Q (-1) g) ∧ ((g 191 4) < (g 191 3) → ((0 ≤ (g 191 4) ∧ (g 191 4) < 401) ∧ (zi_r (g 192 (g 191 4)) ∧ ((¬ (g 192 (g 191 4)) = 2 → Q (-1) g) ∧ ((g 192 (g 191 4)) = 2 → Q (g 193 (g 191 4)) g)))))))
set_option maxRecDepth 100000 in
theorem s_Tokens_keyword {E : sx_E} {d : Nat} (hd : 1 ≤ d) {g : zi_M} {Q : Int → zi_M → Prop} (h : w_Tokens_keyword g Q) : zi_S E d 82 [.ref 191] g (zi_Q Q) := by
  refine zi_Sof jf_82 [some (.ref 191)] rfl (And.intro rfl trivial) ?_
  unfold w_Tokens_keyword at h
  refine zi_aload_n (pc' := 1) rfl rfl rfl ?_
  refine zi_geti (pc' := 4) 4 rfl rfl rfl rfl rfl rfl ?_
  refine zi_aload_n (pc' := 5) rfl rfl rfl ?_
  refine zi_geti (pc' := 8) 3 rfl rfl rfl rfl rfl rfl ?_
  obtain ⟨o1, o2, h⟩ := h
  refine zi_icmp_ge (x := 36) (pc' := 11) rfl rfl o1 o2 (fun c6 => ?_) (fun c6 => ?_)
  · replace h := h.1 c6
    refine zi_iconst (pc' := 37) rfl rfl ?_
    exact zi_iret rfl rfl h
  · replace h := h.2 c6
    refine zi_aload_n (pc' := 12) rfl rfl rfl ?_
    refine zi_getr (pc' := 15) rfl rfl rfl rfl rfl ?_
    refine zi_aload_n (pc' := 16) rfl rfl rfl ?_
    refine zi_geti (pc' := 19) 4 rfl rfl rfl rfl rfl rfl ?_
    obtain ⟨o3, h⟩ := h
    refine zi_iald (pc' := 20) rfl rfl rfl o3 ?_
    refine zi_iconst (pc' := 21) rfl rfl ?_
    obtain ⟨o4, h⟩ := h
    refine zi_icmp_ne (x := 36) (pc' := 24) rfl rfl o4 (by decide) (fun c5 => ?_) (fun c5 => ?_)
    · replace h := h.1 c5
      refine zi_iconst (pc' := 37) rfl rfl ?_
      exact zi_iret rfl rfl h
    · replace h := h.2 c5
      refine zi_aload_n (pc' := 25) rfl rfl rfl ?_
      refine zi_getr (pc' := 28) rfl rfl rfl rfl rfl ?_
      refine zi_aload_n (pc' := 29) rfl rfl rfl ?_
      refine zi_geti (pc' := 32) 4 rfl rfl rfl rfl rfl rfl ?_
      refine zi_iald (pc' := 33) rfl rfl rfl o3 ?_
      refine zi_goto (x := 37) rfl ?_
      exact zi_iret rfl rfl h
-- SpoutNews$Tokens.isAt(II)Z
noncomputable def w_Tokens_isAt (l1 : Int) (l2 : Int) (g : zi_M) (Q : Int → zi_M → Prop) : Prop := (zi_r (g 191 4) ∧ zi_r (g 191 3) ∧ (((g 191 3) ≤ (g 191 4) → Q 0 g) ∧ ((g 191 4) < (g 191 3) → ((0 ≤ (g 191 4) ∧ (g 191 4) < 401) ∧ (zi_r (g 192 (g 191 4)) ∧ zi_r l1 ∧ ((¬ (g 192 (g 191 4)) = l1 → Q 0 g) ∧ ((g 192 (g 191 4)) = l1 → (zi_r (g 193 (g 191 4)) ∧ zi_r l2 ∧ ((¬ (g 193 (g 191 4)) = l2 → Q 0 g) ∧ ((g 193 (g 191 4)) = l2 → Q 1 g))))))))))
set_option maxRecDepth 100000 in
theorem s_Tokens_isAt {E : sx_E} {d : Nat} (hd : 1 ≤ d) {l1 : Int} {l2 : Int} {g : zi_M} {Q : Int → zi_M → Prop} (h : w_Tokens_isAt l1 l2 g Q) : zi_S E d 85 [.ref 191, zi_i l1, zi_i l2] g (zi_Qb Q) := by
  refine zi_Sof jf_85 [some (.ref 191), some (zi_i l1), some (zi_i l2)] rfl (And.intro rfl (And.intro rfl (And.intro rfl trivial))) ?_
  unfold w_Tokens_isAt at h
  refine zi_aload_n (pc' := 1) rfl rfl rfl ?_
  refine zi_geti (pc' := 4) 4 rfl rfl rfl rfl rfl rfl ?_
  refine zi_aload_n (pc' := 5) rfl rfl rfl ?_
  refine zi_geti (pc' := 8) 3 rfl rfl rfl rfl rfl rfl ?_
  obtain ⟨o1, o2, h⟩ := h
  refine zi_icmp_ge (x := 41) (pc' := 11) rfl rfl o1 o2 (fun c10 => ?_) (fun c10 => ?_)
  · replace h := h.1 c10
    refine zi_iconst (pc' := 42) rfl rfl ?_
    exact zi_zret rfl rfl (Or.inl rfl) h
  · replace h := h.2 c10
    refine zi_aload_n (pc' := 12) rfl rfl rfl ?_
    refine zi_getr (pc' := 15) rfl rfl rfl rfl rfl ?_
    refine zi_aload_n (pc' := 16) rfl rfl rfl ?_
    refine zi_geti (pc' := 19) 4 rfl rfl rfl rfl rfl rfl ?_
    obtain ⟨o3, h⟩ := h
    refine zi_iald (pc' := 20) rfl rfl rfl o3 ?_
    refine zi_iload_n (pc' := 21) rfl rfl rfl ?_
    obtain ⟨o4, o5, h⟩ := h
    refine zi_icmp_ne (x := 41) (pc' := 24) rfl rfl o4 o5 (fun c9 => ?_) (fun c9 => ?_)
    · replace h := h.1 c9
      refine zi_iconst (pc' := 42) rfl rfl ?_
      exact zi_zret rfl rfl (Or.inl rfl) h
    · replace h := h.2 c9
      refine zi_aload_n (pc' := 25) rfl rfl rfl ?_
      refine zi_getr (pc' := 28) rfl rfl rfl rfl rfl ?_
      refine zi_aload_n (pc' := 29) rfl rfl rfl ?_
      refine zi_geti (pc' := 32) 4 rfl rfl rfl rfl rfl rfl ?_
      refine zi_iald (pc' := 33) rfl rfl rfl o3 ?_
      refine zi_iload_n (pc' := 34) rfl rfl rfl ?_
      obtain ⟨o6, o7, h⟩ := h
      refine zi_icmp_ne (x := 41) (pc' := 37) rfl rfl o6 o7 (fun c8 => ?_) (fun c8 => ?_)
      · replace h := h.1 c8
        refine zi_iconst (pc' := 42) rfl rfl ?_
        exact zi_zret rfl rfl (Or.inl rfl) h
      · replace h := h.2 c8
        refine zi_iconst (pc' := 38) rfl rfl ?_
        refine zi_goto (x := 42) rfl ?_
        exact zi_zret rfl rfl (Or.inr rfl) h
-- SpoutNews$Tokens.step()V
noncomputable def w_Tokens_step (g : zi_M) (Q : Int → zi_M → Prop) : Prop := (zi_r (g 191 4) ∧ zi_r ((g 191 3) - 1) ∧ ((((g 191 3) - 1) ≤ (g 191 4) → Q 0 g) ∧ ((g 191 4) < ((g 191 3) - 1) → (∀ g3, g3 = zi_u g 191 4 ((g 191 4) + 1) → Q 0 g3))))
set_option maxRecDepth 100000 in
theorem s_Tokens_step {E : sx_E} {d : Nat} (hd : 1 ≤ d) {g : zi_M} {Q : Int → zi_M → Prop} (h : w_Tokens_step g Q) : zi_S E d 87 [.ref 191] g (zi_Qv Q) := by
  refine zi_Sof jf_87 [some (.ref 191)] rfl (And.intro rfl trivial) ?_
  unfold w_Tokens_step at h
  refine zi_aload_n (pc' := 1) rfl rfl rfl ?_
  refine zi_geti (pc' := 4) 4 rfl rfl rfl rfl rfl rfl ?_
  refine zi_aload_n (pc' := 5) rfl rfl rfl ?_
  refine zi_geti (pc' := 8) 3 rfl rfl rfl rfl rfl rfl ?_
  refine zi_iconst (pc' := 9) rfl rfl ?_
  refine zi_isub (pc' := 10) rfl rfl ?_
  obtain ⟨o1, o2, h⟩ := h
  refine zi_icmp_ge (x := 23) (pc' := 13) rfl rfl o1 o2 (fun c4 => ?_) (fun c4 => ?_)
  · replace h := h.1 c4
    exact zi_vret rfl rfl h
  · replace h := h.2 c4
    refine zi_aload_n (pc' := 14) rfl rfl rfl ?_
    refine zi_dup (pc' := 15) rfl rfl rfl ?_
    refine zi_geti (pc' := 18) 4 rfl rfl rfl rfl rfl rfl ?_
    refine zi_iconst (pc' := 19) rfl rfl ?_
    refine zi_iadd (pc' := 20) rfl rfl ?_
    refine zi_puti (pc' := 23) 4 rfl rfl rfl rfl rfl  ?_
    replace h := h _ rfl
    exact zi_vret rfl rfl h
-- SpoutNews$Tokens.refuse(I)Z
noncomputable def w_Tokens_refuse (l1 : Int) (g : zi_M) (Q : Int → zi_M → Prop) : Prop := (∀ g1, g1 = zi_u g 191 5 l1 → (zi_r (g1 191 4) ∧ zi_r (g1 191 3) ∧ (((g1 191 3) ≤ (g1 191 4) → (∀ g4, g4 = zi_u g1 191 6 0 → Q 0 g4)) ∧ ((g1 191 4) < (g1 191 3) → ((0 ≤ (g1 191 4) ∧ (g1 191 4) < 401) ∧ (∀ g6, g6 = zi_u g1 191 6 (g1 194 (g1 191 4)) → Q 0 g6))))))
set_option maxRecDepth 100000 in
theorem s_Tokens_refuse {E : sx_E} {d : Nat} (hd : 1 ≤ d) {l1 : Int} {g : zi_M} {Q : Int → zi_M → Prop} (h : w_Tokens_refuse l1 g Q) : zi_S E d 83 [.ref 191, zi_i l1] g (zi_Qb Q) := by
  refine zi_Sof jf_83 [some (.ref 191), some (zi_i l1)] rfl (And.intro rfl (And.intro rfl trivial)) ?_
  unfold w_Tokens_refuse at h
  refine zi_aload_n (pc' := 1) rfl rfl rfl ?_
  refine zi_iload_n (pc' := 2) rfl rfl rfl ?_
  refine zi_puti (pc' := 5) 5 rfl rfl rfl rfl rfl  ?_
  replace h := h _ rfl
  refine zi_aload_n (pc' := 6) rfl rfl rfl ?_
  refine zi_aload_n (pc' := 7) rfl rfl rfl ?_
  refine zi_geti (pc' := 10) 4 rfl rfl rfl rfl rfl rfl ?_
  refine zi_aload_n (pc' := 11) rfl rfl rfl ?_
  refine zi_geti (pc' := 14) 3 rfl rfl rfl rfl rfl rfl ?_
  obtain ⟨o2, o3, h⟩ := h
  refine zi_icmp_ge (x := 29) (pc' := 17) rfl rfl o2 o3 (fun c7 => ?_) (fun c7 => ?_)
  · replace h := h.1 c7
    refine zi_iconst (pc' := 30) rfl rfl ?_
    refine zi_puti (pc' := 33) 6 rfl rfl rfl rfl rfl  ?_
    replace h := h _ rfl
    refine zi_iconst (pc' := 34) rfl rfl ?_
    exact zi_zret rfl rfl (Or.inl rfl) h
  · replace h := h.2 c7
    refine zi_aload_n (pc' := 18) rfl rfl rfl ?_
    refine zi_getr (pc' := 21) rfl rfl rfl rfl rfl ?_
    refine zi_aload_n (pc' := 22) rfl rfl rfl ?_
    refine zi_geti (pc' := 25) 4 rfl rfl rfl rfl rfl rfl ?_
    obtain ⟨o5, h⟩ := h
    refine zi_iald (pc' := 26) rfl rfl rfl o5 ?_
    refine zi_goto (x := 30) rfl ?_
    refine zi_puti (pc' := 33) 6 rfl rfl rfl rfl rfl  ?_
    replace h := h _ rfl
    refine zi_iconst (pc' := 34) rfl rfl ?_
    exact zi_zret rfl rfl (Or.inl rfl) h
-- SpoutNews$Tokens.take(II)Z
noncomputable def w_Tokens_take (l1 : Int) (l2 : Int) (g : zi_M) (Q : Int → zi_M → Prop) : Prop := w_Tokens_isAt l1 l2 g (fun v1 g2 => ((¬ v1 = 0 → w_Tokens_step g2 (fun _ g5 => Q 1 g5)) ∧ (v1 = 0 → w_Tokens_refuse 1 g2 (fun v7 g8 => Q v7 g8))))
set_option maxRecDepth 100000 in
theorem s_Tokens_take {E : sx_E} {d : Nat} (hd : 2 ≤ d) {l1 : Int} {l2 : Int} {g : zi_M} {Q : Int → zi_M → Prop} (h : w_Tokens_take l1 l2 g Q) : zi_S E d 86 [.ref 191, zi_i l1, zi_i l2] g (zi_Qb Q) := by
  refine zi_Sof jf_86 [some (.ref 191), some (zi_i l1), some (zi_i l2)] rfl (And.intro rfl (And.intro rfl (And.intro rfl trivial))) ?_
  unfold w_Tokens_take at h
  refine zi_aload_n (pc' := 1) rfl rfl rfl ?_
  refine zi_iload_n (pc' := 2) rfl rfl rfl ?_
  refine zi_iload_n (pc' := 3) rfl rfl rfl ?_
  refine zi_callV (d' := 1) (as := [_, _]) (pc' := 6) rfl rfl rfl rfl (Nat.lt_of_lt_of_le (by decide) hd) (s_Tokens_isAt (Nat.le_refl _) h) (zi_kb (fun v1 g2 b3 h => ?_))
  refine zi_if_ne (x := 15) (pc' := 9) rfl rfl (zi_r_bit b3)  (fun c10 => ?_) (fun c10 => ?_)
  · replace h := h.1 c10
    refine zi_aload_n (pc' := 16) rfl rfl rfl ?_
    refine zi_callV (d' := 1) (as := []) (pc' := 19) rfl rfl rfl rfl (Nat.lt_of_lt_of_le (by decide) hd) (s_Tokens_step (Nat.le_refl _) h) (zi_kv (fun g5 h => ?_))
    refine zi_iconst (pc' := 20) rfl rfl ?_
    exact zi_zret rfl rfl (Or.inr rfl) h
  · replace h := h.2 c10
    refine zi_aload_n (pc' := 10) rfl rfl rfl ?_
    refine zi_iconst (pc' := 11) rfl rfl ?_
    refine zi_callV (d' := 1) (as := [_]) (pc' := 14) rfl rfl rfl rfl (Nat.lt_of_lt_of_le (by decide) hd) (s_Tokens_refuse (Nat.le_refl _) h) (zi_kb (fun v7 g8 b9 h => ?_))
    exact zi_zret rfl rfl b9 h
-- SpoutNews$Tokens.takeLineStart(II)Z
noncomputable def w_Tokens_takeLineStart (l1 : Int) (l2 : Int) (g : zi_M) (Q : Int → zi_M → Prop) : Prop := w_Tokens_isAt 2 l1 g (fun v1 g2 => ((v1 = 0 → w_Tokens_take 2 l1 g2 (fun v4 g5 => Q v4 g5)) ∧ (¬ v1 = 0 → (zi_r l2 ∧ ((l2 < 16 → w_Tokens_take 2 l1 g2 (fun v8 g9 => Q v8 g9)) ∧ (16 ≤ l2 → w_Tokens_refuse 3 g2 (fun v11 g12 => Q v11 g12)))))))
set_option maxRecDepth 100000 in
theorem s_Tokens_takeLineStart {E : sx_E} {d : Nat} (hd : 3 ≤ d) {l1 : Int} {l2 : Int} {g : zi_M} {Q : Int → zi_M → Prop} (h : w_Tokens_takeLineStart l1 l2 g Q) : zi_S E d 84 [.ref 191, zi_i l1, zi_i l2] g (zi_Qb Q) := by
  refine zi_Sof jf_84 [some (.ref 191), some (zi_i l1), some (zi_i l2)] rfl (And.intro rfl (And.intro rfl (And.intro rfl trivial))) ?_
  unfold w_Tokens_takeLineStart at h
  refine zi_aload_n (pc' := 1) rfl rfl rfl ?_
  refine zi_iconst (pc' := 2) rfl rfl ?_
  refine zi_iload_n (pc' := 3) rfl rfl rfl ?_
  refine zi_callV (d' := 1) (as := [_, _]) (pc' := 6) rfl rfl rfl rfl (Nat.lt_of_lt_of_le (by decide) hd) (s_Tokens_isAt (Nat.le_refl _) h) (zi_kb (fun v1 g2 b3 h => ?_))
  refine zi_if_eq (x := 21) (pc' := 9) rfl rfl (zi_r_bit b3)  (fun c15 => ?_) (fun c15 => ?_)
  · replace h := h.1 c15
    refine zi_aload_n (pc' := 22) rfl rfl rfl ?_
    refine zi_iconst (pc' := 23) rfl rfl ?_
    refine zi_iload_n (pc' := 24) rfl rfl rfl ?_
    refine zi_callV (d' := 2) (as := [_, _]) (pc' := 27) rfl rfl rfl rfl (Nat.lt_of_lt_of_le (by decide) hd) (s_Tokens_take (Nat.le_refl _) h) (zi_kb (fun v4 g5 b6 h => ?_))
    exact zi_zret rfl rfl b6 h
  · replace h := h.2 c15
    refine zi_iload_n (pc' := 10) rfl rfl rfl ?_
    refine zi_bipush (pc' := 12) rfl rfl (by decide) ?_
    obtain ⟨o7, h⟩ := h
    refine zi_icmp_lt (x := 21) (pc' := 15) rfl rfl o7 (by decide) (fun c14 => ?_) (fun c14 => ?_)
    · replace h := h.1 c14
      refine zi_aload_n (pc' := 22) rfl rfl rfl ?_
      refine zi_iconst (pc' := 23) rfl rfl ?_
      refine zi_iload_n (pc' := 24) rfl rfl rfl ?_
      refine zi_callV (d' := 2) (as := [_, _]) (pc' := 27) rfl rfl rfl rfl (Nat.lt_of_lt_of_le (by decide) hd) (s_Tokens_take (Nat.le_refl _) h) (zi_kb (fun v8 g9 b10 h => ?_))
      exact zi_zret rfl rfl b10 h
    · replace h := h.2 c14
      refine zi_aload_n (pc' := 16) rfl rfl rfl ?_
      refine zi_iconst (pc' := 17) rfl rfl ?_
      refine zi_callV (d' := 1) (as := [_]) (pc' := 20) rfl rfl rfl rfl (Nat.lt_of_lt_of_le (by decide) hd) (s_Tokens_refuse (Nat.le_refl _) h) (zi_kb (fun v11 g12 b13 h => ?_))
      exact zi_zret rfl rfl b13 h
-- SpoutNews$Tokens.number()I
noncomputable def w_Tokens_number (g : zi_M) (Q : Int → zi_M → Prop) : Prop := (zi_r (g 191 4) ∧ zi_r (g 191 3) ∧ (((g 191 3) ≤ (g 191 4) → Q (-1) g) ∧ ((g 191 4) < (g 191 3) → ((0 ≤ (g 191 4) ∧ (g 191 4) < 401) ∧ (zi_r (g 192 (g 191 4)) ∧ ((¬ (g 192 (g 191 4)) = 1 → Q (-1) g) ∧ ((g 192 (g 191 4)) = 1 → Q (g 193 (g 191 4)) g)))))))
set_option maxRecDepth 100000 in
theorem s_Tokens_number {E : sx_E} {d : Nat} (hd : 1 ≤ d) {g : zi_M} {Q : Int → zi_M → Prop} (h : w_Tokens_number g Q) : zi_S E d 90 [.ref 191] g (zi_Q Q) := by
  refine zi_Sof jf_90 [some (.ref 191)] rfl (And.intro rfl trivial) ?_
  unfold w_Tokens_number at h
  refine zi_aload_n (pc' := 1) rfl rfl rfl ?_
  refine zi_geti (pc' := 4) 4 rfl rfl rfl rfl rfl rfl ?_
  refine zi_aload_n (pc' := 5) rfl rfl rfl ?_
  refine zi_geti (pc' := 8) 3 rfl rfl rfl rfl rfl rfl ?_
  obtain ⟨o1, o2, h⟩ := h
  refine zi_icmp_ge (x := 36) (pc' := 11) rfl rfl o1 o2 (fun c6 => ?_) (fun c6 => ?_)
  · replace h := h.1 c6
    refine zi_iconst (pc' := 37) rfl rfl ?_
    exact zi_iret rfl rfl h
  · replace h := h.2 c6
    refine zi_aload_n (pc' := 12) rfl rfl rfl ?_
    refine zi_getr (pc' := 15) rfl rfl rfl rfl rfl ?_
    refine zi_aload_n (pc' := 16) rfl rfl rfl ?_
    refine zi_geti (pc' := 19) 4 rfl rfl rfl rfl rfl rfl ?_
    obtain ⟨o3, h⟩ := h
    refine zi_iald (pc' := 20) rfl rfl rfl o3 ?_
    refine zi_iconst (pc' := 21) rfl rfl ?_
    obtain ⟨o4, h⟩ := h
    refine zi_icmp_ne (x := 36) (pc' := 24) rfl rfl o4 (by decide) (fun c5 => ?_) (fun c5 => ?_)
    · replace h := h.1 c5
      refine zi_iconst (pc' := 37) rfl rfl ?_
      exact zi_iret rfl rfl h
    · replace h := h.2 c5
      refine zi_aload_n (pc' := 25) rfl rfl rfl ?_
      refine zi_getr (pc' := 28) rfl rfl rfl rfl rfl ?_
      refine zi_aload_n (pc' := 29) rfl rfl rfl ?_
      refine zi_geti (pc' := 32) 4 rfl rfl rfl rfl rfl rfl ?_
      refine zi_iald (pc' := 33) rfl rfl rfl o3 ?_
      refine zi_goto (x := 37) rfl ?_
      exact zi_iret rfl rfl h
-- SpoutNews$Law.add(II)V
noncomputable def w_Law_add (l1 : Int) (l2 : Int) (g : zi_M) (Q : Int → zi_M → Prop) : Prop := (zi_r (g 196 2) ∧ ((400 ≤ (g 196 2) → Q 0 g) ∧ ((g 196 2) < 400 → ((0 ≤ (g 196 2) ∧ (g 196 2) < 400) ∧ (∀ g3, g3 = zi_u g 197 (g 196 2) l1 → ((0 ≤ (g3 196 2) ∧ (g3 196 2) < 400) ∧ (∀ g5, g5 = zi_u g3 198 (g3 196 2) l2 → (∀ g6, g6 = zi_u g5 196 2 ((g5 196 2) + 1) → Q 0 g6))))))))
set_option maxRecDepth 100000 in
theorem s_Law_add {E : sx_E} {d : Nat} (hd : 1 ≤ d) {l1 : Int} {l2 : Int} {g : zi_M} {Q : Int → zi_M → Prop} (h : w_Law_add l1 l2 g Q) : zi_S E d 91 [.ref 196, zi_i l1, zi_i l2] g (zi_Qv Q) := by
  refine zi_Sof jf_91 [some (.ref 196), some (zi_i l1), some (zi_i l2)] rfl (And.intro rfl (And.intro rfl (And.intro rfl trivial))) ?_
  unfold w_Law_add at h
  refine zi_aload_n (pc' := 1) rfl rfl rfl ?_
  refine zi_geti (pc' := 4) 2 rfl rfl rfl rfl rfl rfl ?_
  refine zi_sipush (pc' := 7) rfl rfl (by decide) ?_
  obtain ⟨o1, h⟩ := h
  refine zi_icmp_ge (x := 40) (pc' := 10) rfl rfl o1 (by decide) (fun c7 => ?_) (fun c7 => ?_)
  · replace h := h.1 c7
    exact zi_vret rfl rfl h
  · replace h := h.2 c7
    refine zi_aload_n (pc' := 11) rfl rfl rfl ?_
    refine zi_getr (pc' := 14) rfl rfl rfl rfl rfl ?_
    refine zi_aload_n (pc' := 15) rfl rfl rfl ?_
    refine zi_geti (pc' := 18) 2 rfl rfl rfl rfl rfl rfl ?_
    refine zi_iload_n (pc' := 19) rfl rfl rfl ?_
    obtain ⟨o2, h⟩ := h
    refine zi_iast (pc' := 20) rfl rfl rfl o2 ?_
    replace h := h _ rfl
    refine zi_aload_n (pc' := 21) rfl rfl rfl ?_
    refine zi_getr (pc' := 24) rfl rfl rfl rfl rfl ?_
    refine zi_aload_n (pc' := 25) rfl rfl rfl ?_
    refine zi_geti (pc' := 28) 2 rfl rfl rfl rfl rfl rfl ?_
    refine zi_iload_n (pc' := 29) rfl rfl rfl ?_
    obtain ⟨o4, h⟩ := h
    refine zi_iast (pc' := 30) rfl rfl rfl o4 ?_
    replace h := h _ rfl
    refine zi_aload_n (pc' := 31) rfl rfl rfl ?_
    refine zi_dup (pc' := 32) rfl rfl rfl ?_
    refine zi_geti (pc' := 35) 2 rfl rfl rfl rfl rfl rfl ?_
    refine zi_iconst (pc' := 36) rfl rfl ?_
    refine zi_iadd (pc' := 37) rfl rfl ?_
    refine zi_puti (pc' := 40) 2 rfl rfl rfl rfl rfl  ?_
    replace h := h _ rfl
    exact zi_vret rfl rfl h
-- SpoutNews$LawReader.unit(LSpoutNews$Tokens;LSpoutNews$Law;)Z
noncomputable def w_LawReader_unit (g : zi_M) (Q : Int → zi_M → Prop) : Prop := w_Tokens_number g (fun v1 g2 => (zi_r v1 ∧ ((v1 = (-1) → w_Tokens_keyword g2 (fun v5 g6 => (zi_r v5 ∧ ((v5 < 7 → w_Tokens_refuse 1 g6 (fun v9 g10 => Q v9 g10)) ∧ (7 ≤ v5 → w_Tokens_keyword g6 (fun v12 g13 => w_Law_add 1 (v12 - 7) g13 (fun _ g16 => w_Tokens_step g16 (fun _ g19 => Q 1 g19)))))))) ∧ (¬ v1 = (-1) → w_Tokens_number g2 (fun v22 g23 => w_Law_add 0 v22 g23 (fun _ g26 => w_Tokens_step g26 (fun _ g29 => Q 1 g29)))))))
set_option maxRecDepth 100000 in
theorem s_LawReader_unit {E : sx_E} {d : Nat} (hd : 2 ≤ d) {g : zi_M} {Q : Int → zi_M → Prop} (h : w_LawReader_unit g Q) : zi_S E d 89 [.ref 212, .ref 191, .ref 196] g (zi_Qb Q) := by
  refine zi_Sof jf_89 [some (.ref 212), some (.ref 191), some (.ref 196)] rfl (And.intro rfl (And.intro rfl (And.intro rfl trivial))) ?_
  unfold w_LawReader_unit at h
  refine zi_aload_n (pc' := 1) rfl rfl rfl ?_
  refine zi_callV (d' := 1) (as := []) (pc' := 4) rfl rfl rfl rfl (Nat.lt_of_lt_of_le (by decide) hd) (s_Tokens_number (Nat.le_refl _) h) (zi_ki (fun v1 g2 h => ?_))
  refine zi_iconst (pc' := 5) rfl rfl ?_
  obtain ⟨o4, h⟩ := h
  refine zi_icmp_eq (x := 20) (pc' := 8) rfl rfl o4 (by decide) (fun c31 => ?_) (fun c31 => ?_)
  · replace h := h.1 c31
    refine zi_aload_n (pc' := 21) rfl rfl rfl ?_
    refine zi_callV (d' := 1) (as := []) (pc' := 24) rfl rfl rfl rfl (Nat.lt_of_lt_of_le (by decide) hd) (s_Tokens_keyword (Nat.le_refl _) h) (zi_ki (fun v5 g6 h => ?_))
    refine zi_bipush (pc' := 26) rfl rfl (by decide) ?_
    obtain ⟨o8, h⟩ := h
    refine zi_icmp_lt (x := 44) (pc' := 29) rfl rfl o8 (by decide) (fun c21 => ?_) (fun c21 => ?_)
    · replace h := h.1 c21
      refine zi_aload_n (pc' := 45) rfl rfl rfl ?_
      refine zi_iconst (pc' := 46) rfl rfl ?_
      refine zi_callV (d' := 1) (as := [_]) (pc' := 49) rfl rfl rfl rfl (Nat.lt_of_lt_of_le (by decide) hd) (s_Tokens_refuse (Nat.le_refl _) h) (zi_kb (fun v9 g10 b11 h => ?_))
      exact zi_zret rfl rfl b11 h
    · replace h := h.2 c21
      refine zi_aload_n (pc' := 30) rfl rfl rfl ?_
      refine zi_iconst (pc' := 31) rfl rfl ?_
      refine zi_aload_n (pc' := 32) rfl rfl rfl ?_
      refine zi_callV (d' := 1) (as := []) (pc' := 35) rfl rfl rfl rfl (Nat.lt_of_lt_of_le (by decide) hd) (s_Tokens_keyword (Nat.le_refl _) h) (zi_ki (fun v12 g13 h => ?_))
      refine zi_bipush (pc' := 37) rfl rfl (by decide) ?_
      refine zi_isub (pc' := 38) rfl rfl ?_
      refine zi_callV (d' := 1) (as := [_, _]) (pc' := 41) rfl rfl rfl rfl (Nat.lt_of_lt_of_le (by decide) hd) (s_Law_add (Nat.le_refl _) h) (zi_kv (fun g16 h => ?_))
      refine zi_goto (x := 50) rfl ?_
      refine zi_aload_n (pc' := 51) rfl rfl rfl ?_
      refine zi_callV (d' := 1) (as := []) (pc' := 54) rfl rfl rfl rfl (Nat.lt_of_lt_of_le (by decide) hd) (s_Tokens_step (Nat.le_refl _) h) (zi_kv (fun g19 h => ?_))
      refine zi_iconst (pc' := 55) rfl rfl ?_
      exact zi_zret rfl rfl (Or.inr rfl) h
  · replace h := h.2 c31
    refine zi_aload_n (pc' := 9) rfl rfl rfl ?_
    refine zi_iconst (pc' := 10) rfl rfl ?_
    refine zi_aload_n (pc' := 11) rfl rfl rfl ?_
    refine zi_callV (d' := 1) (as := []) (pc' := 14) rfl rfl rfl rfl (Nat.lt_of_lt_of_le (by decide) hd) (s_Tokens_number (Nat.le_refl _) h) (zi_ki (fun v22 g23 h => ?_))
    refine zi_callV (d' := 1) (as := [_, _]) (pc' := 17) rfl rfl rfl rfl (Nat.lt_of_lt_of_le (by decide) hd) (s_Law_add (Nat.le_refl _) h) (zi_kv (fun g26 h => ?_))
    refine zi_goto (x := 50) rfl ?_
    refine zi_aload_n (pc' := 51) rfl rfl rfl ?_
    refine zi_callV (d' := 1) (as := []) (pc' := 54) rfl rfl rfl rfl (Nat.lt_of_lt_of_le (by decide) hd) (s_Tokens_step (Nat.le_refl _) h) (zi_kv (fun g29 h => ?_))
    refine zi_iconst (pc' := 55) rfl rfl ?_
    exact zi_zret rfl rfl (Or.inr rfl) h
-- SpoutNews$LawReader.addLate(LSpoutNews$Law;I)V
noncomputable def w_LawReader_addLate (l2 : Int) (g : zi_M) (Q : Int → zi_M → Prop) : Prop := (zi_r l2 ∧ ((l2 = (-1) → Q 0 g) ∧ (¬ l2 = (-1) → w_Law_add l2 0 g (fun _ g3 => Q 0 g3))))
set_option maxRecDepth 100000 in
theorem s_LawReader_addLate {E : sx_E} {d : Nat} (hd : 2 ≤ d) {l2 : Int} {g : zi_M} {Q : Int → zi_M → Prop} (h : w_LawReader_addLate l2 g Q) : zi_S E d 93 [.ref 212, .ref 196, zi_i l2] g (zi_Qv Q) := by
  refine zi_Sof jf_93 [some (.ref 212), some (.ref 196), some (zi_i l2)] rfl (And.intro rfl (And.intro rfl (And.intro rfl trivial))) ?_
  unfold w_LawReader_addLate at h
  refine zi_iload_n (pc' := 1) rfl rfl rfl ?_
  refine zi_iconst (pc' := 2) rfl rfl ?_
  obtain ⟨o1, h⟩ := h
  refine zi_icmp_eq (x := 11) (pc' := 5) rfl rfl o1 (by decide) (fun c5 => ?_) (fun c5 => ?_)
  · replace h := h.1 c5
    exact zi_vret rfl rfl h
  · replace h := h.2 c5
    refine zi_aload_n (pc' := 6) rfl rfl rfl ?_
    refine zi_iload_n (pc' := 7) rfl rfl rfl ?_
    refine zi_iconst (pc' := 8) rfl rfl ?_
    refine zi_callV (d' := 1) (as := [_, _]) (pc' := 11) rfl rfl rfl rfl (Nat.lt_of_lt_of_le (by decide) hd) (s_Law_add (Nat.le_refl _) h) (zi_kv (fun g3 h => ?_))
    exact zi_vret rfl rfl h
-- SpoutNews$LawReader.part(LSpoutNews$Tokens;LSpoutNews$Law;)Z
noncomputable def w_LawReader_part (g : zi_M) (Q : Int → zi_M → Prop) : Prop := w_Tokens_number g (fun v1 g2 => (zi_r v1 ∧ ((1 ≤ v1 → w_Law_add 5 v1 g2 (fun _ g6 => w_Tokens_step g6 (fun _ g9 => Q 1 g9))) ∧ (v1 < 1 → ((¬ v1 = 0 → w_Tokens_refuse 1 g2 (fun v11 g12 => Q v11 g12)) ∧ (v1 = 0 → w_Tokens_refuse 2 g2 (fun v14 g15 => Q v14 g15)))))))
set_option maxRecDepth 100000 in
theorem s_LawReader_part {E : sx_E} {d : Nat} (hd : 2 ≤ d) {g : zi_M} {Q : Int → zi_M → Prop} (h : w_LawReader_part g Q) : zi_S E d 92 [.ref 212, .ref 191, .ref 196] g (zi_Qb Q) := by
  refine zi_Sof jf_92 [some (.ref 212), some (.ref 191), some (.ref 196), none] rfl (And.intro rfl (And.intro rfl (And.intro rfl trivial))) ?_
  unfold w_LawReader_part at h
  refine zi_aload_n (pc' := 1) rfl rfl rfl ?_
  refine zi_callV (d' := 1) (as := []) (pc' := 4) rfl rfl rfl rfl (Nat.lt_of_lt_of_le (by decide) hd) (s_Tokens_number (Nat.le_refl _) h) (zi_ki (fun v1 g2 h => ?_))
  refine zi_istore_n (pc' := 5) [some _, some _, some _, some _] rfl rfl rfl ?_
  refine zi_iload_n (pc' := 6) rfl rfl rfl ?_
  refine zi_iconst (pc' := 7) rfl rfl ?_
  obtain ⟨o4, h⟩ := h
  refine zi_icmp_ge (x := 24) (pc' := 10) rfl rfl o4 (by decide) (fun c18 => ?_) (fun c18 => ?_)
  · replace h := h.1 c18
    refine zi_aload_n (pc' := 25) rfl rfl rfl ?_
    refine zi_iconst (pc' := 26) rfl rfl ?_
    refine zi_iload_n (pc' := 27) rfl rfl rfl ?_
    refine zi_callV (d' := 1) (as := [_, _]) (pc' := 30) rfl rfl rfl rfl (Nat.lt_of_lt_of_le (by decide) hd) (s_Law_add (Nat.le_refl _) h) (zi_kv (fun g6 h => ?_))
    refine zi_aload_n (pc' := 31) rfl rfl rfl ?_
    refine zi_callV (d' := 1) (as := []) (pc' := 34) rfl rfl rfl rfl (Nat.lt_of_lt_of_le (by decide) hd) (s_Tokens_step (Nat.le_refl _) h) (zi_kv (fun g9 h => ?_))
    refine zi_iconst (pc' := 35) rfl rfl ?_
    exact zi_zret rfl rfl (Or.inr rfl) h
  · replace h := h.2 c18
    refine zi_aload_n (pc' := 11) rfl rfl rfl ?_
    refine zi_iload_n (pc' := 12) rfl rfl rfl ?_
    refine zi_if_ne (x := 19) (pc' := 15) rfl rfl o4  (fun c17 => ?_) (fun c17 => ?_)
    · replace h := h.1 c17
      refine zi_iconst (pc' := 20) rfl rfl ?_
      refine zi_callV (d' := 1) (as := [_]) (pc' := 23) rfl rfl rfl rfl (Nat.lt_of_lt_of_le (by decide) hd) (s_Tokens_refuse (Nat.le_refl _) h) (zi_kb (fun v11 g12 b13 h => ?_))
      exact zi_zret rfl rfl b13 h
    · replace h := h.2 c17
      refine zi_iconst (pc' := 16) rfl rfl ?_
      refine zi_goto (x := 20) rfl ?_
      refine zi_callV (d' := 1) (as := [_]) (pc' := 23) rfl rfl rfl rfl (Nat.lt_of_lt_of_le (by decide) hd) (s_Tokens_refuse (Nat.le_refl _) h) (zi_kb (fun v14 g15 b16 h => ?_))
      exact zi_zret rfl rfl b16 h
-- SpoutNews$LawReader.sum(LSpoutNews$Tokens;LSpoutNews$Law;)Z
noncomputable def w_LawReader_sum_b99 (l4 : Int) (l5 : Int) (g : zi_M) (H : Int → Int → Int → zi_M → Prop) (K140 : Int → Int → zi_M → Prop) (Q : Int → zi_M → Prop) : Prop := w_LawReader_addLate l4 g (fun _ g16 => w_Tokens_isAt 3 43 g16 (fun v18 g19 => ((v18 = 0 → w_Tokens_step g19 (fun _ g22 => w_LawReader_unit g22 (fun v24 g25 => H v24 3 (l5 + 1) g25))) ∧ (¬ v18 = 0 → w_Tokens_step g19 (fun _ g28 => w_LawReader_unit g28 (fun v30 g31 => H v30 2 (l5 + 1) g31))))))
noncomputable def w_LawReader_sum_l13 (K140 : Int → Int → zi_M → Prop) (Q : Int → zi_M → Prop) : Nat → Int → Int → Int → zi_M → Prop
  | 0, _, _, _, _ => False
  | f + 1, l3, l4, l5, g => (zi_r l5 ∧ ((400 ≤ l5 → K140 l3 l4 g) ∧ (l5 < 400 → (zi_r l3 ∧ ((l3 = 0 → K140 l3 l4 g) ∧ (¬ l3 = 0 → w_Tokens_isAt 3 42 g (fun v6 g7 => ((v6 = 0 → w_Tokens_isAt 3 47 g7 (fun v9 g10 => ((v9 = 0 → w_Tokens_isAt 3 43 g10 (fun v12 g13 => ((¬ v12 = 0 → w_LawReader_sum_b99 l4 l5 g13 (w_LawReader_sum_l13 K140 Q f) K140 Q) ∧ (v12 = 0 → w_Tokens_isAt 3 45 g13 (fun v34 g35 => ((v34 = 0 → K140 l3 l4 g35) ∧ (¬ v34 = 0 → w_LawReader_sum_b99 l4 l5 g35 (w_LawReader_sum_l13 K140 Q f) K140 Q))))))) ∧ (¬ v9 = 0 → w_Tokens_step g10 (fun _ g40 => w_LawReader_part g40 (fun v42 g43 => w_LawReader_sum_l13 K140 Q f v42 l4 (l5 + 1) g43)))))) ∧ (¬ v6 = 0 → w_Tokens_step g7 (fun _ g47 => w_LawReader_unit g47 (fun v49 g50 => w_Law_add 4 0 g50 (fun _ g53 => w_LawReader_sum_l13 K140 Q f v49 l4 (l5 + 1) g53))))))))))))
noncomputable def w_LawReader_sum (g : zi_M) (Q : Int → zi_M → Prop) : Prop := w_LawReader_unit g (fun v1 g2 => (∃ f65, w_LawReader_sum_l13 (fun k58 k59 g60 => w_LawReader_addLate k59 g60 (fun _ g62 => ((k58 = 0 ∨ k58 = 1) ∧ Q k58 g62))) Q f65 v1 (-1) 0 g2))
set_option maxRecDepth 100000 in
theorem s_LawReader_sum_b99 {E : sx_E} {d : Nat} (hd : 3 ≤ d) {l4 : Int} {l5 : Int} {H : Int → Int → Int → zi_M → Prop} {K140 : Int → Int → zi_M → Prop} {Q : Int → zi_M → Prop} {g : zi_M} (h : w_LawReader_sum_b99 l4 l5 g H K140 Q) (hH : ∀ (m3 : Int) (m4 : Int) (m5 : Int) (g : zi_M), H m3 m4 m5 g → zi_W E d 88 13 [some (.ref 212), some (.ref 191), some (.ref 196), some (zi_i m3), some (zi_i m4), some (zi_i m5)] [] g (zi_Qb Q)) (hK140 : ∀ (k3 : Int) (k4 : Int) (g : zi_M), K140 k3 k4 g → zi_W E d 88 140 [some (.ref 212), some (.ref 191), some (.ref 196), some (zi_i k3), some (zi_i k4), none] [] g (zi_Qb Q)) : zi_W E d 88 99 [some (.ref 212), some (.ref 191), some (.ref 196), none, some (zi_i l4), some (zi_i l5)] [] g (zi_Qb Q) := by
  unfold w_LawReader_sum_b99 at h
  refine zi_aload_n (pc' := 100) rfl rfl rfl ?_
  refine zi_aload_n (pc' := 101) rfl rfl rfl ?_
  refine zi_iload (pc' := 103) rfl rfl rfl ?_
  refine zi_callV (d' := 2) (as := [_, _]) (pc' := 106) rfl rfl rfl rfl (Nat.lt_of_lt_of_le (by decide) hd) (s_LawReader_addLate (Nat.le_refl _) h) (zi_kv (fun g16 h => ?_))
  refine zi_aload_n (pc' := 107) rfl rfl rfl ?_
  refine zi_iconst (pc' := 108) rfl rfl ?_
  refine zi_bipush (pc' := 110) rfl rfl (by decide) ?_
  refine zi_callV (d' := 1) (as := [_, _]) (pc' := 113) rfl rfl rfl rfl (Nat.lt_of_lt_of_le (by decide) hd) (s_Tokens_isAt (Nat.le_refl _) h) (zi_kb (fun v18 g19 b20 h => ?_))
  refine zi_if_eq (x := 120) (pc' := 116) rfl rfl (zi_r_bit b20)  (fun c33 => ?_) (fun c33 => ?_)
  · replace h := h.1 c33
    refine zi_iconst (pc' := 121) rfl rfl ?_
    refine zi_istore (pc' := 123) [some _, some _, some _, none, some _, some _] rfl rfl rfl ?_
    refine zi_aload_n (pc' := 124) rfl rfl rfl ?_
    refine zi_callV (d' := 1) (as := []) (pc' := 127) rfl rfl rfl rfl (Nat.lt_of_lt_of_le (by decide) hd) (s_Tokens_step (Nat.le_refl _) h) (zi_kv (fun g22 h => ?_))
    refine zi_aload_n (pc' := 128) rfl rfl rfl ?_
    refine zi_aload_n (pc' := 129) rfl rfl rfl ?_
    refine zi_aload_n (pc' := 130) rfl rfl rfl ?_
    refine zi_callV (d' := 2) (as := [_, _]) (pc' := 133) rfl rfl rfl rfl (Nat.lt_of_lt_of_le (by decide) hd) (s_LawReader_unit (Nat.le_refl _) h) (zi_kb (fun v24 g25 b26 h => ?_))
    refine zi_istore_n (pc' := 134) [some _, some _, some _, some _, some _, some _] rfl rfl rfl ?_
    refine zi_iinc (pc' := 137) [some _, some _, some _, some _, some _, some _] rfl rfl rfl rfl ?_
    refine zi_goto (x := 13) rfl ?_
    exact zi_wk (hH _ _ _ _ h) (And.intro rfl (And.intro rfl (And.intro rfl (And.intro rfl (And.intro rfl (And.intro rfl trivial))))))
  · replace h := h.2 c33
    refine zi_iconst (pc' := 117) rfl rfl ?_
    refine zi_goto (x := 121) rfl ?_
    refine zi_istore (pc' := 123) [some _, some _, some _, none, some _, some _] rfl rfl rfl ?_
    refine zi_aload_n (pc' := 124) rfl rfl rfl ?_
    refine zi_callV (d' := 1) (as := []) (pc' := 127) rfl rfl rfl rfl (Nat.lt_of_lt_of_le (by decide) hd) (s_Tokens_step (Nat.le_refl _) h) (zi_kv (fun g28 h => ?_))
    refine zi_aload_n (pc' := 128) rfl rfl rfl ?_
    refine zi_aload_n (pc' := 129) rfl rfl rfl ?_
    refine zi_aload_n (pc' := 130) rfl rfl rfl ?_
    refine zi_callV (d' := 2) (as := [_, _]) (pc' := 133) rfl rfl rfl rfl (Nat.lt_of_lt_of_le (by decide) hd) (s_LawReader_unit (Nat.le_refl _) h) (zi_kb (fun v30 g31 b32 h => ?_))
    refine zi_istore_n (pc' := 134) [some _, some _, some _, some _, some _, some _] rfl rfl rfl ?_
    refine zi_iinc (pc' := 137) [some _, some _, some _, some _, some _, some _] rfl rfl rfl rfl ?_
    refine zi_goto (x := 13) rfl ?_
    exact zi_wk (hH _ _ _ _ h) (And.intro rfl (And.intro rfl (And.intro rfl (And.intro rfl (And.intro rfl (And.intro rfl trivial))))))
set_option maxRecDepth 100000 in
theorem s_LawReader_sum_l13_r {E : sx_E} {d : Nat} (hd : 3 ≤ d) {K140 : Int → Int → zi_M → Prop} {Q : Int → zi_M → Prop} (hK140 : ∀ (k3 : Int) (k4 : Int) (g : zi_M), K140 k3 k4 g → zi_W E d 88 140 [some (.ref 212), some (.ref 191), some (.ref 196), some (zi_i k3), some (zi_i k4), none] [] g (zi_Qb Q)) : ∀ (f : Nat) {l3 : Int} {l4 : Int} {l5 : Int} {g : zi_M}, w_LawReader_sum_l13 K140 Q f l3 l4 l5 g → zi_W E d 88 13 [some (.ref 212), some (.ref 191), some (.ref 196), some (zi_i l3), some (zi_i l4), some (zi_i l5)] [] g (zi_Qb Q)
  | 0, _, _, _, _, h => False.elim h
  | f + 1, l3, l4, l5, g, h => by
    refine zi_iload (pc' := 15) rfl rfl rfl ?_
    refine zi_sipush (pc' := 18) rfl rfl (by decide) ?_
    obtain ⟨o4, h⟩ := h
    refine zi_icmp_ge (x := 140) (pc' := 21) rfl rfl o4 (by decide) (fun c57 => ?_) (fun c57 => ?_)
    · replace h := h.1 c57
      exact zi_wk (hK140 _ _ _ h) (And.intro rfl (And.intro rfl (And.intro rfl (And.intro rfl (And.intro rfl trivial)))))
    · replace h := h.2 c57
      refine zi_iload_n (pc' := 22) rfl rfl rfl ?_
      obtain ⟨o5, h⟩ := h
      refine zi_if_eq (x := 140) (pc' := 25) rfl rfl o5  (fun c56 => ?_) (fun c56 => ?_)
      · replace h := h.1 c56
        exact zi_wk (hK140 _ _ _ h) (And.intro rfl (And.intro rfl (And.intro rfl (And.intro rfl (And.intro rfl trivial)))))
      · replace h := h.2 c56
        refine zi_aload_n (pc' := 26) rfl rfl rfl ?_
        refine zi_iconst (pc' := 27) rfl rfl ?_
        refine zi_bipush (pc' := 29) rfl rfl (by decide) ?_
        refine zi_callV (d' := 1) (as := [_, _]) (pc' := 32) rfl rfl rfl rfl (Nat.lt_of_lt_of_le (by decide) hd) (s_Tokens_isAt (Nat.le_refl _) h) (zi_kb (fun v6 g7 b8 h => ?_))
        refine zi_if_eq (x := 55) (pc' := 35) rfl rfl (zi_r_bit b8)  (fun c55 => ?_) (fun c55 => ?_)
        · replace h := h.1 c55
          refine zi_aload_n (pc' := 56) rfl rfl rfl ?_
          refine zi_iconst (pc' := 57) rfl rfl ?_
          refine zi_bipush (pc' := 59) rfl rfl (by decide) ?_
          refine zi_callV (d' := 1) (as := [_, _]) (pc' := 62) rfl rfl rfl rfl (Nat.lt_of_lt_of_le (by decide) hd) (s_Tokens_isAt (Nat.le_refl _) h) (zi_kb (fun v9 g10 b11 h => ?_))
          refine zi_if_eq (x := 79) (pc' := 65) rfl rfl (zi_r_bit b11)  (fun c45 => ?_) (fun c45 => ?_)
          · replace h := h.1 c45
            refine zi_aload_n (pc' := 80) rfl rfl rfl ?_
            refine zi_iconst (pc' := 81) rfl rfl ?_
            refine zi_bipush (pc' := 83) rfl rfl (by decide) ?_
            refine zi_callV (d' := 1) (as := [_, _]) (pc' := 86) rfl rfl rfl rfl (Nat.lt_of_lt_of_le (by decide) hd) (s_Tokens_isAt (Nat.le_refl _) h) (zi_kb (fun v12 g13 b14 h => ?_))
            refine zi_if_ne (x := 99) (pc' := 89) rfl rfl (zi_r_bit b14)  (fun c38 => ?_) (fun c38 => ?_)
            · replace h := h.1 c38
              exact zi_wk (s_LawReader_sum_b99 hd h (fun _ _ _ _ h => s_LawReader_sum_l13_r hd hK140 f h) hK140) (And.intro rfl (And.intro rfl (And.intro rfl (And.intro rfl (And.intro rfl trivial)))))
            · replace h := h.2 c38
              refine zi_aload_n (pc' := 90) rfl rfl rfl ?_
              refine zi_iconst (pc' := 91) rfl rfl ?_
              refine zi_bipush (pc' := 93) rfl rfl (by decide) ?_
              refine zi_callV (d' := 1) (as := [_, _]) (pc' := 96) rfl rfl rfl rfl (Nat.lt_of_lt_of_le (by decide) hd) (s_Tokens_isAt (Nat.le_refl _) h) (zi_kb (fun v34 g35 b36 h => ?_))
              refine zi_if_eq (x := 140) (pc' := 99) rfl rfl (zi_r_bit b36)  (fun c37 => ?_) (fun c37 => ?_)
              · replace h := h.1 c37
                exact zi_wk (hK140 _ _ _ h) (And.intro rfl (And.intro rfl (And.intro rfl (And.intro rfl (And.intro rfl trivial)))))
              · replace h := h.2 c37
                exact zi_wk (s_LawReader_sum_b99 hd h (fun _ _ _ _ h => s_LawReader_sum_l13_r hd hK140 f h) hK140) (And.intro rfl (And.intro rfl (And.intro rfl (And.intro rfl (And.intro rfl trivial)))))
          · replace h := h.2 c45
            refine zi_aload_n (pc' := 66) rfl rfl rfl ?_
            refine zi_callV (d' := 1) (as := []) (pc' := 69) rfl rfl rfl rfl (Nat.lt_of_lt_of_le (by decide) hd) (s_Tokens_step (Nat.le_refl _) h) (zi_kv (fun g40 h => ?_))
            refine zi_aload_n (pc' := 70) rfl rfl rfl ?_
            refine zi_aload_n (pc' := 71) rfl rfl rfl ?_
            refine zi_aload_n (pc' := 72) rfl rfl rfl ?_
            refine zi_callV (d' := 2) (as := [_, _]) (pc' := 75) rfl rfl rfl rfl (Nat.lt_of_lt_of_le (by decide) hd) (s_LawReader_part (Nat.le_refl _) h) (zi_kb (fun v42 g43 b44 h => ?_))
            refine zi_istore_n (pc' := 76) [some _, some _, some _, some _, some _, some _] rfl rfl rfl ?_
            refine zi_goto (x := 134) rfl ?_
            refine zi_iinc (pc' := 137) [some _, some _, some _, some _, some _, some _] rfl rfl rfl rfl ?_
            refine zi_goto (x := 13) rfl ?_
            exact zi_wk (s_LawReader_sum_l13_r hd hK140 f h) (And.intro rfl (And.intro rfl (And.intro rfl (And.intro rfl (And.intro rfl (And.intro rfl trivial))))))
        · replace h := h.2 c55
          refine zi_aload_n (pc' := 36) rfl rfl rfl ?_
          refine zi_callV (d' := 1) (as := []) (pc' := 39) rfl rfl rfl rfl (Nat.lt_of_lt_of_le (by decide) hd) (s_Tokens_step (Nat.le_refl _) h) (zi_kv (fun g47 h => ?_))
          refine zi_aload_n (pc' := 40) rfl rfl rfl ?_
          refine zi_aload_n (pc' := 41) rfl rfl rfl ?_
          refine zi_aload_n (pc' := 42) rfl rfl rfl ?_
          refine zi_callV (d' := 2) (as := [_, _]) (pc' := 45) rfl rfl rfl rfl (Nat.lt_of_lt_of_le (by decide) hd) (s_LawReader_unit (Nat.le_refl _) h) (zi_kb (fun v49 g50 b51 h => ?_))
          refine zi_istore_n (pc' := 46) [some _, some _, some _, some _, some _, some _] rfl rfl rfl ?_
          refine zi_aload_n (pc' := 47) rfl rfl rfl ?_
          refine zi_iconst (pc' := 48) rfl rfl ?_
          refine zi_iconst (pc' := 49) rfl rfl ?_
          refine zi_callV (d' := 1) (as := [_, _]) (pc' := 52) rfl rfl rfl rfl (Nat.lt_of_lt_of_le (by decide) hd) (s_Law_add (Nat.le_refl _) h) (zi_kv (fun g53 h => ?_))
          refine zi_goto (x := 134) rfl ?_
          refine zi_iinc (pc' := 137) [some _, some _, some _, some _, some _, some _] rfl rfl rfl rfl ?_
          refine zi_goto (x := 13) rfl ?_
          exact zi_wk (s_LawReader_sum_l13_r hd hK140 f h) (And.intro rfl (And.intro rfl (And.intro rfl (And.intro rfl (And.intro rfl (And.intro rfl trivial))))))
set_option maxRecDepth 100000 in
theorem s_LawReader_sum_l13 {E : sx_E} {d : Nat} (hd : 3 ≤ d) {K140 : Int → Int → zi_M → Prop} {Q : Int → zi_M → Prop} {l3 : Int} {l4 : Int} {l5 : Int} {g : zi_M} (h : ∃ f, w_LawReader_sum_l13 K140 Q f l3 l4 l5 g) (hK140 : ∀ (k3 : Int) (k4 : Int) (g : zi_M), K140 k3 k4 g → zi_W E d 88 140 [some (.ref 212), some (.ref 191), some (.ref 196), some (zi_i k3), some (zi_i k4), none] [] g (zi_Qb Q)) : zi_W E d 88 13 [some (.ref 212), some (.ref 191), some (.ref 196), some (zi_i l3), some (zi_i l4), some (zi_i l5)] [] g (zi_Qb Q) := by
  obtain ⟨f, h⟩ := h
  exact s_LawReader_sum_l13_r hd hK140 f h
set_option maxRecDepth 100000 in
theorem s_LawReader_sum {E : sx_E} {d : Nat} (hd : 3 ≤ d) {g : zi_M} {Q : Int → zi_M → Prop} (h : w_LawReader_sum g Q) : zi_S E d 88 [.ref 212, .ref 191, .ref 196] g (zi_Qb Q) := by
  refine zi_Sof jf_88 [some (.ref 212), some (.ref 191), some (.ref 196), none, none, none] rfl (And.intro rfl (And.intro rfl (And.intro rfl trivial))) ?_
  unfold w_LawReader_sum at h
  refine zi_aload_n (pc' := 1) rfl rfl rfl ?_
  refine zi_aload_n (pc' := 2) rfl rfl rfl ?_
  refine zi_aload_n (pc' := 3) rfl rfl rfl ?_
  refine zi_callV (d' := 2) (as := [_, _]) (pc' := 6) rfl rfl rfl rfl (Nat.lt_of_lt_of_le (by decide) hd) (s_LawReader_unit (Nat.le_refl _) h) (zi_kb (fun v1 g2 b3 h => ?_))
  refine zi_istore_n (pc' := 7) [some _, some _, some _, some _, none, none] rfl rfl rfl ?_
  refine zi_iconst (pc' := 8) rfl rfl ?_
  refine zi_istore (pc' := 10) [some _, some _, some _, some _, some _, none] rfl rfl rfl ?_
  refine zi_iconst (pc' := 11) rfl rfl ?_
  refine zi_istore (pc' := 13) [some _, some _, some _, some _, some _, some _] rfl rfl rfl ?_
  refine zi_wk (s_LawReader_sum_l13 hd h (fun k58 k59 g60 h => ?_)) (And.intro rfl (And.intro rfl (And.intro rfl (And.intro rfl (And.intro rfl (And.intro rfl trivial))))))
  refine zi_aload_n (pc' := 141) rfl rfl rfl ?_
  refine zi_aload_n (pc' := 142) rfl rfl rfl ?_
  refine zi_iload (pc' := 144) rfl rfl rfl ?_
  refine zi_callV (d' := 2) (as := [_, _]) (pc' := 147) rfl rfl rfl rfl (Nat.lt_of_lt_of_le (by decide) hd) (s_LawReader_addLate (Nat.le_refl _) h) (zi_kv (fun g62 h => ?_))
  refine zi_iload_n (pc' := 148) rfl rfl rfl ?_
  obtain ⟨o64, h⟩ := h
  exact zi_zret rfl rfl o64 h
