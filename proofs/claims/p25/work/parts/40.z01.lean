-- by program (wip/gen/mkz.py)
-- SpoutNews$Law.tells(ILSpoutNews$World;II)I
noncomputable def w_Law_tells_l55 (r2 : Nat) (l1 : Int) (K113 : Int → zi_M → Prop) (K142 : zi_M → Prop) (Q : Int → zi_M → Prop) : Nat → Int → zi_M → Prop
  | 0, _, _ => False
  | f + 1, l7, g => (zi_r l7 ∧ zi_r (g 20 7) ∧ (((g 20 7) ≤ l7 → K142 g) ∧ (l7 < (g 20 7) → ((0 ≤ l7 ∧ l7 < 16) ∧ (zi_r (g 23 l7) ∧ zi_r l1 ∧ ((¬ (g 23 l7) = l1 → w_Law_tells_l55 r2 l1 K113 K142 Q f (l7 + 1) g) ∧ ((g 23 l7) = l1 → (zi_r (g 25 l7) ∧ zi_r (g 26 l7) ∧ (((g 26 l7) ≤ (g 25 l7) → K113 l7 g) ∧ ((g 25 l7) < (g 26 l7) → w_Law_worth (g 25 l7) (g 26 l7) g (fun v13 g14 => (zi_r v13 ∧ ((v13 = 0 → w_Law_tells_l55 r2 l1 K113 K142 Q f (l7 + 1) g14) ∧ (¬ v13 = 0 → K113 l7 g14))))))))))))))
noncomputable def w_Law_tells_b113 (r2 : Nat) (l5 : Int) (l7 : Int) (g : zi_M) (Q : Int → zi_M → Prop) : Prop := ((0 ≤ l7 ∧ l7 < 16) ∧ w_Law_worth (g 24 l7) (g 25 l7) g (fun v24 g25 => (zi_r v24 ∧ zi_r l5 ∧ (zi_r (min v24 l5) ∧ Q (max 0 (min v24 l5)) g25))))
noncomputable def w_Law_tells_b13 (r2 : Nat) (l1 : Int) (l3 : Int) (l4 : Int) (s0 : Int) (g : zi_M) (Q : Int → zi_M → Prop) : Prop := (zi_r l1 ∧ ((¬ l1 = 0 → ((¬ l1 = 1 → w_Law_gatherFacts r2 l3 l4 g (fun _ g4 => (∃ f34, w_Law_tells_l55 r2 l1 (fun k21 g22 => w_Law_tells_b113 r2 s0 k21 g22 Q) (fun g30 => (zi_r (20 * (g r2 14)) ∧ zi_r s0 ∧ (zi_r (min (20 * (g r2 14)) s0) ∧ Q (max 0 (min (20 * (g r2 14)) s0)) g30))) Q f34 0 g4))) ∧ (l1 = 1 → w_Law_gatherFacts r2 l3 l4 g (fun _ g36 => (∃ f44, w_Law_tells_l55 r2 l1 (fun k38 g39 => w_Law_tells_b113 r2 s0 k38 g39 Q) (fun g40 => (zi_r (g r2 14) ∧ zi_r s0 ∧ (zi_r (min (g r2 14) s0) ∧ Q (max 0 (min (g r2 14) s0)) g40))) Q f44 0 g36))))) ∧ (l1 = 0 → w_Law_gatherFacts r2 l3 l4 g (fun _ g47 => (∃ f54, w_Law_tells_l55 r2 l1 (fun k49 g50 => w_Law_tells_b113 r2 s0 k49 g50 Q) (fun g51 => (zi_r s0 ∧ (zi_r (min 2 s0) ∧ Q (max 0 (min 2 s0)) g51))) Q f54 0 g47)))))
noncomputable def w_Law_tells (r2 : Nat) (l1 : Int) (l3 : Int) (l4 : Int) (g : zi_M) (Q : Int → zi_M → Prop) : Prop := (zi_r l1 ∧ ((¬ l1 = 2 → w_Law_tells_b13 r2 l1 l3 l4 9 g Q) ∧ (l1 = 2 → w_Law_tells_b13 r2 l1 l3 l4 1000 g Q)))
set_option maxRecDepth 100000 in
theorem s_Law_tells_l55_r {E : sx_E} {d : Nat} (hd : 3 ≤ d) {r2 : Nat} (hr2 : zs_sh r2 = some (10, 20)) {l1 : Int} {x5 : Int} {x6 : Int} {K113 : Int → zi_M → Prop} {K142 : zi_M → Prop} {Q : Int → zi_M → Prop} (hK113 : ∀ (k7 : Int) (g : zi_M), K113 k7 g → zi_W E d 37 113 [some (.ref 20), some (zi_i l1), none, none, none, some (zi_i x5), some (zi_i x6), some (zi_i k7)] [] g (zi_Q Q)) (hK142 : ∀ (g : zi_M), K142 g → zi_W E d 37 142 [some (.ref 20), some (zi_i l1), none, none, none, some (zi_i x5), some (zi_i x6), none] [] g (zi_Q Q)) : ∀ (f : Nat) {l7 : Int} {g : zi_M}, w_Law_tells_l55 r2 l1 K113 K142 Q f l7 g → zi_W E d 37 55 [some (.ref 20), some (zi_i l1), none, none, none, some (zi_i x5), some (zi_i x6), some (zi_i l7)] [] g (zi_Q Q)
  | 0, _, _, h => False.elim h
  | f + 1, l7, g, h => by
    refine zi_iload (pc' := 57) rfl rfl rfl ?_
    refine zi_aload_n (pc' := 58) rfl rfl rfl ?_
    refine zi_geti (pc' := 61) 7 rfl rfl rfl rfl rfl rfl ?_
    obtain ⟨o6, o7, h⟩ := h
    refine zi_icmp_ge (x := 142) (pc' := 64) rfl rfl o6 o7 (fun c20 => ?_) (fun c20 => ?_)
    · replace h := h.1 c20
      exact zi_wk (hK142 _ h) (And.intro rfl (And.intro rfl (And.intro rfl (And.intro rfl trivial))))
    · replace h := h.2 c20
      refine zi_aload_n (pc' := 65) rfl rfl rfl ?_
      refine zi_getr (pc' := 68) rfl rfl rfl rfl rfl ?_
      refine zi_iload (pc' := 70) rfl rfl rfl ?_
      obtain ⟨o8, h⟩ := h
      refine zi_iald (pc' := 71) rfl rfl rfl o8 ?_
      refine zi_iload_n (pc' := 72) rfl rfl rfl ?_
      obtain ⟨o9, o10, h⟩ := h
      refine zi_icmp_ne (x := 136) (pc' := 75) rfl rfl o9 o10 (fun c19 => ?_) (fun c19 => ?_)
      · replace h := h.1 c19
        refine zi_iinc (pc' := 139) [some _, some _, none, none, none, some _, some _, some _] rfl rfl rfl rfl ?_
        refine zi_goto (x := 55) rfl ?_
        exact zi_wk (s_Law_tells_l55_r hd hr2 hK113 hK142 f h) (And.intro rfl (And.intro rfl (And.intro rfl (And.intro rfl (And.intro rfl trivial)))))
      · replace h := h.2 c19
        refine zi_aload_n (pc' := 76) rfl rfl rfl ?_
        refine zi_getr (pc' := 79) rfl rfl rfl rfl rfl ?_
        refine zi_iload (pc' := 81) rfl rfl rfl ?_
        refine zi_iald (pc' := 82) rfl rfl rfl o8 ?_
        refine zi_aload_n (pc' := 83) rfl rfl rfl ?_
        refine zi_getr (pc' := 86) rfl rfl rfl rfl rfl ?_
        refine zi_iload (pc' := 88) rfl rfl rfl ?_
        refine zi_iald (pc' := 89) rfl rfl rfl o8 ?_
        obtain ⟨o11, o12, h⟩ := h
        refine zi_icmp_ge (x := 113) (pc' := 92) rfl rfl o11 o12 (fun c18 => ?_) (fun c18 => ?_)
        · replace h := h.1 c18
          exact zi_wk (hK113 _ _ h) (And.intro rfl (And.intro rfl (And.intro rfl (And.intro rfl (And.intro rfl trivial)))))
        · replace h := h.2 c18
          refine zi_aload_n (pc' := 93) rfl rfl rfl ?_
          refine zi_aload_n (pc' := 94) rfl rfl rfl ?_
          refine zi_getr (pc' := 97) rfl rfl rfl rfl rfl ?_
          refine zi_iload (pc' := 99) rfl rfl rfl ?_
          refine zi_iald (pc' := 100) rfl rfl rfl o8 ?_
          refine zi_aload_n (pc' := 101) rfl rfl rfl ?_
          refine zi_getr (pc' := 104) rfl rfl rfl rfl rfl ?_
          refine zi_iload (pc' := 106) rfl rfl rfl ?_
          refine zi_iald (pc' := 107) rfl rfl rfl o8 ?_
          refine zi_callV (d' := 2) (as := [_, _]) (pc' := 110) rfl rfl rfl rfl (Nat.lt_of_lt_of_le (by decide) hd) (s_Law_worth (Nat.le_refl _) h) (zi_ki (fun v13 g14 h => ?_))
          obtain ⟨o16, h⟩ := h
          refine zi_if_eq (x := 136) (pc' := 113) rfl rfl o16  (fun c17 => ?_) (fun c17 => ?_)
          · replace h := h.1 c17
            refine zi_iinc (pc' := 139) [some _, some _, none, none, none, some _, some _, some _] rfl rfl rfl rfl ?_
            refine zi_goto (x := 55) rfl ?_
            exact zi_wk (s_Law_tells_l55_r hd hr2 hK113 hK142 f h) (And.intro rfl (And.intro rfl (And.intro rfl (And.intro rfl (And.intro rfl trivial)))))
          · replace h := h.2 c17
            exact zi_wk (hK113 _ _ h) (And.intro rfl (And.intro rfl (And.intro rfl (And.intro rfl (And.intro rfl trivial)))))
set_option maxRecDepth 100000 in
theorem s_Law_tells_l55 {E : sx_E} {d : Nat} (hd : 3 ≤ d) {r2 : Nat} (hr2 : zs_sh r2 = some (10, 20)) {l1 : Int} {x5 : Int} {x6 : Int} {K113 : Int → zi_M → Prop} {K142 : zi_M → Prop} {Q : Int → zi_M → Prop} {l7 : Int} {g : zi_M} (h : ∃ f, w_Law_tells_l55 r2 l1 K113 K142 Q f l7 g) (hK113 : ∀ (k7 : Int) (g : zi_M), K113 k7 g → zi_W E d 37 113 [some (.ref 20), some (zi_i l1), none, none, none, some (zi_i x5), some (zi_i x6), some (zi_i k7)] [] g (zi_Q Q)) (hK142 : ∀ (g : zi_M), K142 g → zi_W E d 37 142 [some (.ref 20), some (zi_i l1), none, none, none, some (zi_i x5), some (zi_i x6), none] [] g (zi_Q Q)) : zi_W E d 37 55 [some (.ref 20), some (zi_i l1), none, none, none, some (zi_i x5), some (zi_i x6), some (zi_i l7)] [] g (zi_Q Q) := by
  obtain ⟨f, h⟩ := h
  exact s_Law_tells_l55_r hd hr2 hK113 hK142 f h
set_option maxRecDepth 100000 in
theorem s_Law_tells_b113 {E : sx_E} {d : Nat} (hd : 3 ≤ d) {r2 : Nat} (hr2 : zs_sh r2 = some (10, 20)) {l5 : Int} {l7 : Int} {Q : Int → zi_M → Prop} {g : zi_M} (h : w_Law_tells_b113 r2 l5 l7 g Q) : zi_W E d 37 113 [some (.ref 20), none, none, none, none, some (zi_i l5), none, some (zi_i l7)] [] g (zi_Q Q) := by
  unfold w_Law_tells_b113 at h
  refine zi_aload_n (pc' := 114) rfl rfl rfl ?_
  refine zi_aload_n (pc' := 115) rfl rfl rfl ?_
  refine zi_getr (pc' := 118) rfl rfl rfl rfl rfl ?_
  refine zi_iload (pc' := 120) rfl rfl rfl ?_
  obtain ⟨o23, h⟩ := h
  refine zi_iald (pc' := 121) rfl rfl rfl o23 ?_
  refine zi_aload_n (pc' := 122) rfl rfl rfl ?_
  refine zi_getr (pc' := 125) rfl rfl rfl rfl rfl ?_
  refine zi_iload (pc' := 127) rfl rfl rfl ?_
  refine zi_iald (pc' := 128) rfl rfl rfl o23 ?_
  refine zi_callV (d' := 2) (as := [_, _]) (pc' := 131) rfl rfl rfl rfl (Nat.lt_of_lt_of_le (by decide) hd) (s_Law_worth (Nat.le_refl _) h) (zi_ki (fun v24 g25 h => ?_))
  refine zi_istore (pc' := 133) [some _, none, none, none, none, some _, some _, some _] rfl rfl rfl ?_
  refine zi_goto (x := 142) rfl ?_
  refine zi_iconst (pc' := 143) rfl rfl ?_
  refine zi_iload (pc' := 145) rfl rfl rfl ?_
  refine zi_iload (pc' := 147) rfl rfl rfl ?_
  obtain ⟨o27, o28, h⟩ := h
  refine zi_min (pc' := 150) rfl rfl o27 o28 (Nat.le_trans (by decide) hd) rfl ?_
  obtain ⟨o29, h⟩ := h
  refine zi_max (pc' := 153) rfl rfl (by decide) o29 (Nat.le_trans (by decide) hd) rfl ?_
  exact zi_iret rfl rfl h
set_option maxRecDepth 100000 in
theorem s_Law_tells_b13 {E : sx_E} {d : Nat} (hd : 3 ≤ d) {r2 : Nat} (hr2 : zs_sh r2 = some (10, 20)) {l1 : Int} {l3 : Int} {l4 : Int} {s0 : Int} {Q : Int → zi_M → Prop} {g : zi_M} (h : w_Law_tells_b13 r2 l1 l3 l4 s0 g Q) : zi_W E d 37 13 [some (.ref 20), some (zi_i l1), some (.ref r2), some (zi_i l3), some (zi_i l4), none, none, none] [zi_i s0] g (zi_Q Q) := by
  unfold w_Law_tells_b13 at h
  refine zi_istore (pc' := 15) [some _, some _, some _, some _, some _, some _, none, none] rfl rfl rfl ?_
  refine zi_iload_n (pc' := 16) rfl rfl rfl ?_
  obtain ⟨o2, h⟩ := h
  refine zi_if_ne (x := 23) (pc' := 19) rfl rfl o2  (fun c55 => ?_) (fun c55 => ?_)
  · replace h := h.1 c55
    refine zi_iload_n (pc' := 24) rfl rfl rfl ?_
    refine zi_iconst (pc' := 25) rfl rfl ?_
    refine zi_icmp_ne (x := 35) (pc' := 28) rfl rfl o2 (by decide) (fun c45 => ?_) (fun c45 => ?_)
    · replace h := h.1 c45
      refine zi_bipush (pc' := 37) rfl rfl (by decide) ?_
      refine zi_aload_n (pc' := 38) rfl rfl rfl ?_
      refine zi_geti (pc' := 41) 14 rfl rfl rfl hr2 rfl rfl ?_
      refine zi_imul (pc' := 42) rfl rfl ?_
      refine zi_istore (pc' := 44) [some _, some _, some _, some _, some _, some _, some _, none] rfl rfl rfl ?_
      refine zi_aload_n (pc' := 45) rfl rfl rfl ?_
      refine zi_aload_n (pc' := 46) rfl rfl rfl ?_
      refine zi_iload_n (pc' := 47) rfl rfl rfl ?_
      refine zi_iload (pc' := 49) rfl rfl rfl ?_
      refine zi_callV (d' := 1) (as := [_, _, _]) (pc' := 52) rfl rfl rfl rfl (Nat.lt_of_lt_of_le (by decide) hd) (s_Law_gatherFacts (Nat.le_refl _) hr2 h) (zi_kv (fun g4 h => ?_))
      refine zi_iconst (pc' := 53) rfl rfl ?_
      refine zi_istore (pc' := 55) [some _, some _, some _, some _, some _, some _, some _, some _] rfl rfl rfl ?_
      refine zi_wk (s_Law_tells_l55 hd hr2 h (fun k21 g22 h => ?_) (fun g30 h => ?_)) (And.intro rfl (And.intro rfl (And.intro rfl (And.intro rfl (And.intro rfl trivial)))))
      · exact zi_wk (s_Law_tells_b113 hd hr2 h) (And.intro rfl (And.intro rfl (And.intro rfl trivial)))
      · refine zi_iconst (pc' := 143) rfl rfl ?_
        refine zi_iload (pc' := 145) rfl rfl rfl ?_
        refine zi_iload (pc' := 147) rfl rfl rfl ?_
        obtain ⟨o31, o32, h⟩ := h
        refine zi_min (pc' := 150) rfl rfl o31 o32 (Nat.le_trans (by decide) hd) rfl ?_
        obtain ⟨o33, h⟩ := h
        refine zi_max (pc' := 153) rfl rfl (by decide) o33 (Nat.le_trans (by decide) hd) rfl ?_
        exact zi_iret rfl rfl h
    · replace h := h.2 c45
      refine zi_aload_n (pc' := 29) rfl rfl rfl ?_
      refine zi_geti (pc' := 32) 14 rfl rfl rfl hr2 rfl rfl ?_
      refine zi_goto (x := 42) rfl ?_
      refine zi_istore (pc' := 44) [some _, some _, some _, some _, some _, some _, some _, none] rfl rfl rfl ?_
      refine zi_aload_n (pc' := 45) rfl rfl rfl ?_
      refine zi_aload_n (pc' := 46) rfl rfl rfl ?_
      refine zi_iload_n (pc' := 47) rfl rfl rfl ?_
      refine zi_iload (pc' := 49) rfl rfl rfl ?_
      refine zi_callV (d' := 1) (as := [_, _, _]) (pc' := 52) rfl rfl rfl rfl (Nat.lt_of_lt_of_le (by decide) hd) (s_Law_gatherFacts (Nat.le_refl _) hr2 h) (zi_kv (fun g36 h => ?_))
      refine zi_iconst (pc' := 53) rfl rfl ?_
      refine zi_istore (pc' := 55) [some _, some _, some _, some _, some _, some _, some _, some _] rfl rfl rfl ?_
      refine zi_wk (s_Law_tells_l55 hd hr2 h (fun k38 g39 h => ?_) (fun g40 h => ?_)) (And.intro rfl (And.intro rfl (And.intro rfl (And.intro rfl (And.intro rfl trivial)))))
      · exact zi_wk (s_Law_tells_b113 hd hr2 h) (And.intro rfl (And.intro rfl (And.intro rfl trivial)))
      · refine zi_iconst (pc' := 143) rfl rfl ?_
        refine zi_iload (pc' := 145) rfl rfl rfl ?_
        refine zi_iload (pc' := 147) rfl rfl rfl ?_
        obtain ⟨o41, o42, h⟩ := h
        refine zi_min (pc' := 150) rfl rfl o41 o42 (Nat.le_trans (by decide) hd) rfl ?_
        obtain ⟨o43, h⟩ := h
        refine zi_max (pc' := 153) rfl rfl (by decide) o43 (Nat.le_trans (by decide) hd) rfl ?_
        exact zi_iret rfl rfl h
  · replace h := h.2 c55
    refine zi_iconst (pc' := 20) rfl rfl ?_
    refine zi_goto (x := 42) rfl ?_
    refine zi_istore (pc' := 44) [some _, some _, some _, some _, some _, some _, some _, none] rfl rfl rfl ?_
    refine zi_aload_n (pc' := 45) rfl rfl rfl ?_
    refine zi_aload_n (pc' := 46) rfl rfl rfl ?_
    refine zi_iload_n (pc' := 47) rfl rfl rfl ?_
    refine zi_iload (pc' := 49) rfl rfl rfl ?_
    refine zi_callV (d' := 1) (as := [_, _, _]) (pc' := 52) rfl rfl rfl rfl (Nat.lt_of_lt_of_le (by decide) hd) (s_Law_gatherFacts (Nat.le_refl _) hr2 h) (zi_kv (fun g47 h => ?_))
    refine zi_iconst (pc' := 53) rfl rfl ?_
    refine zi_istore (pc' := 55) [some _, some _, some _, some _, some _, some _, some _, some _] rfl rfl rfl ?_
    refine zi_wk (s_Law_tells_l55 hd hr2 h (fun k49 g50 h => ?_) (fun g51 h => ?_)) (And.intro rfl (And.intro rfl (And.intro rfl (And.intro rfl (And.intro rfl trivial)))))
    · exact zi_wk (s_Law_tells_b113 hd hr2 h) (And.intro rfl (And.intro rfl (And.intro rfl trivial)))
    · refine zi_iconst (pc' := 143) rfl rfl ?_
      refine zi_iload (pc' := 145) rfl rfl rfl ?_
      refine zi_iload (pc' := 147) rfl rfl rfl ?_
      obtain ⟨o52, h⟩ := h
      refine zi_min (pc' := 150) rfl rfl (by decide) o52 (Nat.le_trans (by decide) hd) rfl ?_
      obtain ⟨o53, h⟩ := h
      refine zi_max (pc' := 153) rfl rfl (by decide) o53 (Nat.le_trans (by decide) hd) rfl ?_
      exact zi_iret rfl rfl h
set_option maxRecDepth 100000 in
theorem s_Law_tells {E : sx_E} {d : Nat} (hd : 3 ≤ d) {r2 : Nat} (hr2 : zs_sh r2 = some (10, 20)) {l1 : Int} {l3 : Int} {l4 : Int} {g : zi_M} {Q : Int → zi_M → Prop} (h : w_Law_tells r2 l1 l3 l4 g Q) : zi_S E d 37 [.ref 20, zi_i l1, .ref r2, zi_i l3, zi_i l4] g (zi_Q Q) := by
  refine zi_Sof jf_37 [some (.ref 20), some (zi_i l1), some (.ref r2), some (zi_i l3), some (zi_i l4), none, none, none] rfl (And.intro rfl (And.intro rfl (And.intro rfl (And.intro rfl (And.intro rfl trivial))))) ?_
  unfold w_Law_tells at h
  refine zi_iload_n (pc' := 1) rfl rfl rfl ?_
  refine zi_iconst (pc' := 2) rfl rfl ?_
  obtain ⟨o1, h⟩ := h
  refine zi_icmp_ne (x := 11) (pc' := 5) rfl rfl o1 (by decide) (fun c56 => ?_) (fun c56 => ?_)
  · replace h := h.1 c56
    refine zi_bipush (pc' := 13) rfl rfl (by decide) ?_
    exact zi_wk (s_Law_tells_b13 hd hr2 h) (And.intro rfl (And.intro rfl (And.intro rfl (And.intro rfl (And.intro rfl trivial)))))
  · replace h := h.2 c56
    refine zi_sipush (pc' := 8) rfl rfl (by decide) ?_
    refine zi_goto (x := 13) rfl ?_
    exact zi_wk (s_Law_tells_b13 hd hr2 h) (And.intro rfl (And.intro rfl (And.intro rfl (And.intro rfl (And.intro rfl trivial)))))
-- SpoutNews$World.wordAt(II)I
noncomputable def w_World_wordAt (r0 : Nat) (l1 : Int) (l2 : Int) (g : zi_M) (Q : Int → zi_M → Prop) : Prop := w_World_isSpout r0 l1 g (fun v1 g2 => ((v1 = 0 → Q 0 g2) ∧ (¬ v1 = 0 → (zi_r l2 ∧ ((l2 < 0 → Q 0 g2) ∧ (0 ≤ l2 → ((20 ≤ l2 → Q 0 g2) ∧ (l2 < 20 → ((0 ≤ ((l1 * 20) + l2) ∧ ((l1 * 20) + l2) < 200) ∧ Q (g2 (r0 + 7) ((l1 * 20) + l2)) g2)))))))))
set_option maxRecDepth 100000 in
theorem s_World_wordAt {E : sx_E} {d : Nat} (hd : 2 ≤ d) {r0 : Nat} (hr0 : zs_sh r0 = some (10, 20)) {l1 : Int} {l2 : Int} {g : zi_M} {Q : Int → zi_M → Prop} (h : w_World_wordAt r0 l1 l2 g Q) : zi_S E d 44 [.ref r0, zi_i l1, zi_i l2] g (zi_Q Q) := by
  refine zi_Sof jf_44 [some (.ref r0), some (zi_i l1), some (zi_i l2)] rfl (And.intro rfl (And.intro rfl (And.intro rfl trivial))) ?_
  unfold w_World_wordAt at h
  refine zi_aload_n (pc' := 1) rfl rfl rfl ?_
  refine zi_iload_n (pc' := 2) rfl rfl rfl ?_
  refine zi_callV (d' := 1) (as := [_]) (pc' := 5) rfl rfl rfl hr0 (Nat.lt_of_lt_of_le (by decide) hd) (s_World_isSpout (Nat.le_refl _) hr0 h) (zi_kb (fun v1 g2 b3 h => ?_))
  refine zi_if_eq (x := 32) (pc' := 8) rfl rfl (zi_r_bit b3)  (fun c8 => ?_) (fun c8 => ?_)
  · replace h := h.1 c8
    refine zi_iconst (pc' := 33) rfl rfl ?_
    exact zi_iret rfl rfl h
  · replace h := h.2 c8
    refine zi_iload_n (pc' := 9) rfl rfl rfl ?_
    obtain ⟨o4, h⟩ := h
    refine zi_if_lt (x := 32) (pc' := 12) rfl rfl o4  (fun c7 => ?_) (fun c7 => ?_)
    · replace h := h.1 c7
      refine zi_iconst (pc' := 33) rfl rfl ?_
      exact zi_iret rfl rfl h
    · replace h := h.2 c7
      refine zi_iload_n (pc' := 13) rfl rfl rfl ?_
      refine zi_bipush (pc' := 15) rfl rfl (by decide) ?_
      refine zi_icmp_ge (x := 32) (pc' := 18) rfl rfl o4 (by decide) (fun c6 => ?_) (fun c6 => ?_)
      · replace h := h.1 c6
        refine zi_iconst (pc' := 33) rfl rfl ?_
        exact zi_iret rfl rfl h
      · replace h := h.2 c6
        refine zi_aload_n (pc' := 19) rfl rfl rfl ?_
        refine zi_getr (pc' := 22) rfl rfl hr0 (zs_f10_7 hr0).1 rfl ?_
        refine zi_iload_n (pc' := 23) rfl rfl rfl ?_
        refine zi_bipush (pc' := 25) rfl rfl (by decide) ?_
        refine zi_imul (pc' := 26) rfl rfl ?_
        refine zi_iload_n (pc' := 27) rfl rfl rfl ?_
        refine zi_iadd (pc' := 28) rfl rfl ?_
        obtain ⟨o5, h⟩ := h
        refine zi_iald (pc' := 29) rfl rfl (zs_f10_7 hr0).2 o5 ?_
        refine zi_goto (x := 33) rfl ?_
        exact zi_iret rfl rfl h
-- SpoutNews$World.slips(I)Z
noncomputable def w_World_slips (r0 : Nat) (l1 : Int) (g : zi_M) (Q : Int → zi_M → Prop) : Prop := (zi_r (g r0 0) ∧ (((g r0 0) = 0 → (∀ g2, g2 = zi_u g r0 18 (zi_w ((1664525 * (g r0 18)) + 1013904223)) → (zi_r (Int.tmod (zi_ush (g2 r0 18) 8) 1000) ∧ zi_r l1 ∧ ((l1 ≤ (Int.tmod (zi_ush (g2 r0 18) 8) 1000) → Q 0 g2) ∧ ((Int.tmod (zi_ush (g2 r0 18) 8) 1000) < l1 → Q 1 g2))))) ∧ (¬ (g r0 0) = 0 → (zi_r l1 ∧ ((l1 < 500 → Q 0 g) ∧ (500 ≤ l1 → Q 1 g))))))
set_option maxRecDepth 100000 in
theorem s_World_slips {E : sx_E} {d : Nat} (hd : 1 ≤ d) {r0 : Nat} (hr0 : zs_sh r0 = some (10, 20)) {l1 : Int} {g : zi_M} {Q : Int → zi_M → Prop} (h : w_World_slips r0 l1 g Q) : zi_S E d 49 [.ref r0, zi_i l1] g (zi_Qb Q) := by
  refine zi_Sof jf_49 [some (.ref r0), some (zi_i l1)] rfl (And.intro rfl (And.intro rfl trivial)) ?_
  unfold w_World_slips at h
  refine zi_aload_n (pc' := 1) rfl rfl rfl ?_
  refine zi_geti (pc' := 4) 0 rfl rfl rfl hr0 rfl rfl ?_
  obtain ⟨o1, h⟩ := h
  refine zi_if_eq (x := 20) (pc' := 7) rfl rfl o1  (fun c8 => ?_) (fun c8 => ?_)
  · replace h := h.1 c8
    refine zi_aload_n (pc' := 21) rfl rfl rfl ?_
    refine zi_ldc (v := 1664525) (pc' := 23) rfl rfl (by decide +kernel) ?_
    refine zi_aload_n (pc' := 24) rfl rfl rfl ?_
    refine zi_geti (pc' := 27) 18 rfl rfl rfl hr0 rfl rfl ?_
    refine zi_imul (pc' := 28) rfl rfl ?_
    refine zi_ldc (v := 1013904223) (pc' := 30) rfl rfl (by decide +kernel) ?_
    refine zi_iadd (pc' := 31) rfl rfl ?_
    refine zi_wrap ?_
    refine zi_puti (pc' := 34) 18 rfl rfl rfl hr0 rfl  ?_
    replace h := h _ rfl
    refine zi_aload_n (pc' := 35) rfl rfl rfl ?_
    refine zi_geti (pc' := 38) 18 rfl rfl rfl hr0 rfl rfl ?_
    refine zi_bipush (pc' := 40) rfl rfl (by decide) ?_
    refine zi_iushr (pc' := 41) rfl rfl ?_
    refine zi_sipush (pc' := 44) rfl rfl (by decide) ?_
    refine zi_irem (pc' := 45) rfl rfl (zi_r_ush _ _) (by decide) (by decide) ?_
    refine zi_iload_n (pc' := 46) rfl rfl rfl ?_
    obtain ⟨o3, o4, h⟩ := h
    refine zi_icmp_ge (x := 53) (pc' := 49) rfl rfl o3 o4 (fun c5 => ?_) (fun c5 => ?_)
    · replace h := h.1 c5
      refine zi_iconst (pc' := 54) rfl rfl ?_
      exact zi_zret rfl rfl (Or.inl rfl) h
    · replace h := h.2 c5
      refine zi_iconst (pc' := 50) rfl rfl ?_
      refine zi_goto (x := 54) rfl ?_
      exact zi_zret rfl rfl (Or.inr rfl) h
  · replace h := h.2 c8
    refine zi_iload_n (pc' := 8) rfl rfl rfl ?_
    refine zi_sipush (pc' := 11) rfl rfl (by decide) ?_
    obtain ⟨o6, h⟩ := h
    refine zi_icmp_lt (x := 18) (pc' := 14) rfl rfl o6 (by decide) (fun c7 => ?_) (fun c7 => ?_)
    · replace h := h.1 c7
      refine zi_iconst (pc' := 19) rfl rfl ?_
      exact zi_zret rfl rfl (Or.inl rfl) h
    · replace h := h.2 c7
      refine zi_iconst (pc' := 15) rfl rfl ?_
      refine zi_goto (x := 19) rfl ?_
      exact zi_zret rfl rfl (Or.inr rfl) h
-- SpoutNews$World.fillJarsAt(II)V
noncomputable def w_World_fillJarsAt_l2 (r0 : Nat) (l1 : Int) (l2 : Int) (K36 : zi_M → Prop) (Q : Int → zi_M → Prop) : Nat → Int → zi_M → Prop
  | 0, _, _ => False
  | f + 1, l3, g => (zi_r l3 ∧ ((6 ≤ l3 → K36 g) ∧ (l3 < 6 → ((0 ≤ l3 ∧ l3 < 6) ∧ (zi_r (g (r0 + 10) l3) ∧ zi_r l1 ∧ ((¬ (g (r0 + 10) l3) = l1 → w_World_fillJarsAt_l2 r0 l1 l2 K36 Q f (l3 + 1) g) ∧ ((g (r0 + 10) l3) = l1 → (∀ g5, g5 = zi_u g (r0 + 11) l3 (zi_or (g (r0 + 11) l3) (zi_shl 1 l2)) → w_World_fillJarsAt_l2 r0 l1 l2 K36 Q f (l3 + 1) g5))))))))
noncomputable def w_World_fillJarsAt (r0 : Nat) (l1 : Int) (l2 : Int) (g : zi_M) (Q : Int → zi_M → Prop) : Prop := (∃ f9, w_World_fillJarsAt_l2 r0 l1 l2 (fun g8 => Q 0 g8) Q f9 0 g)
set_option maxRecDepth 100000 in
theorem s_World_fillJarsAt_l2_r {E : sx_E} {d : Nat} (hd : 1 ≤ d) {r0 : Nat} (hr0 : zs_sh r0 = some (10, 20)) {l1 : Int} {l2 : Int} {K36 : zi_M → Prop} {Q : Int → zi_M → Prop} (hK36 : ∀ (g : zi_M), K36 g → zi_W E d 50 36 [some (.ref r0), some (zi_i l1), some (zi_i l2), none] [] g (zi_Qv Q)) : ∀ (f : Nat) {l3 : Int} {g : zi_M}, w_World_fillJarsAt_l2 r0 l1 l2 K36 Q f l3 g → zi_W E d 50 2 [some (.ref r0), some (zi_i l1), some (zi_i l2), some (zi_i l3)] [] g (zi_Qv Q)
  | 0, _, _, h => False.elim h
  | f + 1, l3, g, h => by
    refine zi_iload_n (pc' := 3) rfl rfl rfl ?_
    refine zi_bipush (pc' := 5) rfl rfl (by decide) ?_
    obtain ⟨o1, h⟩ := h
    refine zi_icmp_ge (x := 36) (pc' := 8) rfl rfl o1 (by decide) (fun c7 => ?_) (fun c7 => ?_)
    · replace h := h.1 c7
      exact zi_wk (hK36 _ h) (And.intro rfl (And.intro rfl (And.intro rfl trivial)))
    · replace h := h.2 c7
      refine zi_aload_n (pc' := 9) rfl rfl rfl ?_
      refine zi_getr (pc' := 12) rfl rfl hr0 (zs_f10_12 hr0).1 rfl ?_
      refine zi_iload_n (pc' := 13) rfl rfl rfl ?_
      obtain ⟨o2, h⟩ := h
      refine zi_iald (pc' := 14) rfl rfl (zs_f10_12 hr0).2 o2 ?_
      refine zi_iload_n (pc' := 15) rfl rfl rfl ?_
      obtain ⟨o3, o4, h⟩ := h
      refine zi_icmp_ne (x := 30) (pc' := 18) rfl rfl o3 o4 (fun c6 => ?_) (fun c6 => ?_)
      · replace h := h.1 c6
        refine zi_iinc (pc' := 33) [some _, some _, some _, some _] rfl rfl rfl rfl ?_
        refine zi_goto (x := 2) rfl ?_
        exact zi_wk (s_World_fillJarsAt_l2_r hd hr0 hK36 f h) (And.intro rfl (And.intro rfl (And.intro rfl (And.intro rfl trivial))))
      · replace h := h.2 c6
        refine zi_aload_n (pc' := 19) rfl rfl rfl ?_
        refine zi_getr (pc' := 22) rfl rfl hr0 (zs_f10_13 hr0).1 rfl ?_
        refine zi_iload_n (pc' := 23) rfl rfl rfl ?_
        refine zi_dup2 (pc' := 24) rfl rfl rfl rfl ?_
        refine zi_iald (pc' := 25) rfl rfl (zs_f10_13 hr0).2 o2 ?_
        refine zi_iconst (pc' := 26) rfl rfl ?_
        refine zi_iload_n (pc' := 27) rfl rfl rfl ?_
        refine zi_ishl (pc' := 28) rfl rfl ?_
        refine zi_ior (pc' := 29) rfl rfl ?_
        refine zi_iast (pc' := 30) rfl rfl (zs_f10_13 hr0).2 o2 ?_
        replace h := h _ rfl
        refine zi_iinc (pc' := 33) [some _, some _, some _, some _] rfl rfl rfl rfl ?_
        refine zi_goto (x := 2) rfl ?_
        exact zi_wk (s_World_fillJarsAt_l2_r hd hr0 hK36 f h) (And.intro rfl (And.intro rfl (And.intro rfl (And.intro rfl trivial))))
set_option maxRecDepth 100000 in
theorem s_World_fillJarsAt_l2 {E : sx_E} {d : Nat} (hd : 1 ≤ d) {r0 : Nat} (hr0 : zs_sh r0 = some (10, 20)) {l1 : Int} {l2 : Int} {K36 : zi_M → Prop} {Q : Int → zi_M → Prop} {l3 : Int} {g : zi_M} (h : ∃ f, w_World_fillJarsAt_l2 r0 l1 l2 K36 Q f l3 g) (hK36 : ∀ (g : zi_M), K36 g → zi_W E d 50 36 [some (.ref r0), some (zi_i l1), some (zi_i l2), none] [] g (zi_Qv Q)) : zi_W E d 50 2 [some (.ref r0), some (zi_i l1), some (zi_i l2), some (zi_i l3)] [] g (zi_Qv Q) := by
  obtain ⟨f, h⟩ := h
  exact s_World_fillJarsAt_l2_r hd hr0 hK36 f h
set_option maxRecDepth 100000 in
theorem s_World_fillJarsAt {E : sx_E} {d : Nat} (hd : 1 ≤ d) {r0 : Nat} (hr0 : zs_sh r0 = some (10, 20)) {l1 : Int} {l2 : Int} {g : zi_M} {Q : Int → zi_M → Prop} (h : w_World_fillJarsAt r0 l1 l2 g Q) : zi_S E d 50 [.ref r0, zi_i l1, zi_i l2] g (zi_Qv Q) := by
  refine zi_Sof jf_50 [some (.ref r0), some (zi_i l1), some (zi_i l2), none] rfl (And.intro rfl (And.intro rfl (And.intro rfl trivial))) ?_
  unfold w_World_fillJarsAt at h
  refine zi_iconst (pc' := 1) rfl rfl ?_
  refine zi_istore_n (pc' := 2) [some _, some _, some _, some _] rfl rfl rfl ?_
  refine zi_wk (s_World_fillJarsAt_l2 hd hr0 h (fun g8 h => ?_)) (And.intro rfl (And.intro rfl (And.intro rfl (And.intro rfl trivial))))
  exact zi_vret rfl rfl h
-- SpoutNews$Book.write(LSpoutNews$World;III)V
noncomputable def w_Book_write (r1 : Nat) (l2 : Int) (l3 : Int) (l4 : Int) (g : zi_M) (Q : Int → zi_M → Prop) : Prop := (zi_r (g r1 0) ∧ ((¬ (g r1 0) = 0 → Q 0 g) ∧ ((g r1 0) = 0 → (zi_r (g r1 19) ∧ (((g r1 19) < 150 → ((0 ≤ (g r1 19) ∧ (g r1 19) < 150) ∧ (∀ g4, g4 = zi_u g 15 (g r1 19) (g r1 17) → (∀ g5, g5 = zi_u g4 16 (g r1 19) l2 → (∀ g6, g6 = zi_u g5 17 (g r1 19) l3 → (∀ g7, g7 = zi_u g6 18 (g r1 19) l4 → (∀ g8, g8 = zi_u g7 r1 19 ((g r1 19) + 1) → Q 0 g8))))))) ∧ (150 ≤ (g r1 19) → Q 0 g))))))
set_option maxRecDepth 100000 in
theorem s_Book_write {E : sx_E} {d : Nat} (hd : 1 ≤ d) {r1 : Nat} (hr1 : zs_sh r1 = some (10, 20)) {l2 : Int} {l3 : Int} {l4 : Int} {g : zi_M} {Q : Int → zi_M → Prop} (h : w_Book_write r1 l2 l3 l4 g Q) : zi_S E d 45 [.ref 14, .ref r1, zi_i l2, zi_i l3, zi_i l4] g (zi_Qv Q) := by
  refine zi_Sof jf_45 [some (.ref 14), some (.ref r1), some (zi_i l2), some (zi_i l3), some (zi_i l4), none] rfl (And.intro rfl (And.intro rfl (And.intro rfl (And.intro rfl (And.intro rfl trivial))))) ?_
  unfold w_Book_write at h
  refine zi_aload_n (pc' := 1) rfl rfl rfl ?_
  refine zi_geti (pc' := 4) 19 rfl rfl rfl hr1 rfl rfl ?_
  refine zi_istore (pc' := 6) [some _, some _, some _, some _, some _, some _] rfl rfl rfl ?_
  refine zi_aload_n (pc' := 7) rfl rfl rfl ?_
  refine zi_geti (pc' := 10) 0 rfl rfl rfl hr1 rfl rfl ?_
  obtain ⟨o1, h⟩ := h
  refine zi_if_ne (x := 21) (pc' := 13) rfl rfl o1  (fun c10 => ?_) (fun c10 => ?_)
  · replace h := h.1 c10
    exact zi_vret rfl rfl h
  · replace h := h.2 c10
    refine zi_iload (pc' := 15) rfl rfl rfl ?_
    refine zi_sipush (pc' := 18) rfl rfl (by decide) ?_
    obtain ⟨o2, h⟩ := h
    refine zi_icmp_lt (x := 22) (pc' := 21) rfl rfl o2 (by decide) (fun c9 => ?_) (fun c9 => ?_)
    · replace h := h.1 c9
      refine zi_aload_n (pc' := 23) rfl rfl rfl ?_
      refine zi_getr (pc' := 26) rfl rfl rfl rfl rfl ?_
      refine zi_iload (pc' := 28) rfl rfl rfl ?_
      refine zi_aload_n (pc' := 29) rfl rfl rfl ?_
      refine zi_geti (pc' := 32) 17 rfl rfl rfl hr1 rfl rfl ?_
      obtain ⟨o3, h⟩ := h
      refine zi_iast (pc' := 33) rfl rfl rfl o3 ?_
      replace h := h _ rfl
      refine zi_aload_n (pc' := 34) rfl rfl rfl ?_
      refine zi_getr (pc' := 37) rfl rfl rfl rfl rfl ?_
      refine zi_iload (pc' := 39) rfl rfl rfl ?_
      refine zi_iload_n (pc' := 40) rfl rfl rfl ?_
      refine zi_iast (pc' := 41) rfl rfl rfl o3 ?_
      replace h := h _ rfl
      refine zi_aload_n (pc' := 42) rfl rfl rfl ?_
      refine zi_getr (pc' := 45) rfl rfl rfl rfl rfl ?_
      refine zi_iload (pc' := 47) rfl rfl rfl ?_
      refine zi_iload_n (pc' := 48) rfl rfl rfl ?_
      refine zi_iast (pc' := 49) rfl rfl rfl o3 ?_
      replace h := h _ rfl
      refine zi_aload_n (pc' := 50) rfl rfl rfl ?_
      refine zi_getr (pc' := 53) rfl rfl rfl rfl rfl ?_
      refine zi_iload (pc' := 55) rfl rfl rfl ?_
      refine zi_iload (pc' := 57) rfl rfl rfl ?_
      refine zi_iast (pc' := 58) rfl rfl rfl o3 ?_
      replace h := h _ rfl
      refine zi_aload_n (pc' := 59) rfl rfl rfl ?_
      refine zi_iload (pc' := 61) rfl rfl rfl ?_
      refine zi_iconst (pc' := 62) rfl rfl ?_
      refine zi_iadd (pc' := 63) rfl rfl ?_
      refine zi_puti (pc' := 66) 19 rfl rfl rfl hr1 rfl  ?_
      replace h := h _ rfl
      exact zi_vret rfl rfl h
    · replace h := h.2 c9
      exact zi_vret rfl rfl h
-- SpoutNews$Texts.gutterOf(I)I
noncomputable def w_Texts_gutterOf (l1 : Int) (g : zi_M) (Q : Int → zi_M → Prop) : Prop := (zi_r l1 ∧ ((l1 < 0 → Q (-1) g) ∧ (0 ≤ l1 → ((10 ≤ l1 → Q (-1) g) ∧ (l1 < 10 → ((0 ≤ l1 ∧ l1 < 10) ∧ Q (g 29 l1) g))))))
set_option maxRecDepth 100000 in
theorem s_Texts_gutterOf {E : sx_E} {d : Nat} (hd : 1 ≤ d) {l1 : Int} {g : zi_M} {Q : Int → zi_M → Prop} (h : w_Texts_gutterOf l1 g Q) : zi_S E d 51 [.ref 19, zi_i l1] g (zi_Q Q) := by
  refine zi_Sof jf_51 [some (.ref 19), some (zi_i l1)] rfl (And.intro rfl (And.intro rfl trivial)) ?_
  unfold w_Texts_gutterOf at h
  refine zi_iload_n (pc' := 1) rfl rfl rfl ?_
  obtain ⟨o1, h⟩ := h
  refine zi_if_lt (x := 19) (pc' := 4) rfl rfl o1  (fun c4 => ?_) (fun c4 => ?_)
  · replace h := h.1 c4
    refine zi_iconst (pc' := 20) rfl rfl ?_
    exact zi_iret rfl rfl h
  · replace h := h.2 c4
    refine zi_iload_n (pc' := 5) rfl rfl rfl ?_
    refine zi_bipush (pc' := 7) rfl rfl (by decide) ?_
    refine zi_icmp_ge (x := 19) (pc' := 10) rfl rfl o1 (by decide) (fun c3 => ?_) (fun c3 => ?_)
    · replace h := h.1 c3
      refine zi_iconst (pc' := 20) rfl rfl ?_
      exact zi_iret rfl rfl h
    · replace h := h.2 c3
      refine zi_aload_n (pc' := 11) rfl rfl rfl ?_
      refine zi_getr (pc' := 14) rfl rfl rfl rfl rfl ?_
      refine zi_iload_n (pc' := 15) rfl rfl rfl ?_
      obtain ⟨o2, h⟩ := h
      refine zi_iald (pc' := 16) rfl rfl rfl o2 ?_
      refine zi_goto (x := 20) rfl ?_
      exact zi_iret rfl rfl h
-- SpoutNews$World.dropFirst(I)V
noncomputable def w_World_dropFirst (r0 : Nat) (l1 : Int) (g : zi_M) (Q : Int → zi_M → Prop) : Prop := ((0 ≤ l1 ∧ l1 < 10) ∧ (zi_r (g (r0 + 6) l1) ∧ ((1 ≤ (g (r0 + 6) l1) → ((((0 : Int) ≤ ((l1 * 20) + 1) ∧ (0 : Int) ≤ (l1 * 20) ∧ (0 : Int) ≤ ((g (r0 + 6) l1) - 1)) ∧ ((l1 * 20) + 1) + ((g (r0 + 6) l1) - 1) ≤ 200 ∧ (l1 * 20) + ((g (r0 + 6) l1) - 1) ≤ 200) ∧ (∀ g4, g4 = zi_cp g (r0 + 7) ((l1 * 20) + 1) (r0 + 7) (l1 * 20) ((g (r0 + 6) l1) - 1) → (∀ g5, g5 = zi_u g4 (r0 + 6) l1 ((g (r0 + 6) l1) - 1) → Q 0 g5)))) ∧ ((g (r0 + 6) l1) < 1 → Q 0 g))))
set_option maxRecDepth 100000 in
theorem s_World_dropFirst {E : sx_E} {d : Nat} (hd : 1 ≤ d) {r0 : Nat} (hr0 : zs_sh r0 = some (10, 20)) {l1 : Int} {g : zi_M} {Q : Int → zi_M → Prop} (h : w_World_dropFirst r0 l1 g Q) : zi_S E d 52 [.ref r0, zi_i l1] g (zi_Qv Q) := by
  refine zi_Sof jf_52 [some (.ref r0), some (zi_i l1), none, none] rfl (And.intro rfl (And.intro rfl trivial)) ?_
  unfold w_World_dropFirst at h
  refine zi_aload_n (pc' := 1) rfl rfl rfl ?_
  refine zi_getr (pc' := 4) rfl rfl hr0 (zs_f10_6 hr0).1 rfl ?_
  refine zi_iload_n (pc' := 5) rfl rfl rfl ?_
  obtain ⟨o1, h⟩ := h
  refine zi_iald (pc' := 6) rfl rfl (zs_f10_6 hr0).2 o1 ?_
  refine zi_istore_n (pc' := 7) [some _, some _, some _, none] rfl rfl rfl ?_
  refine zi_iload_n (pc' := 8) rfl rfl rfl ?_
  refine zi_iconst (pc' := 9) rfl rfl ?_
  obtain ⟨o2, h⟩ := h
  refine zi_icmp_ge (x := 13) (pc' := 12) rfl rfl o2 (by decide) (fun c6 => ?_) (fun c6 => ?_)
  · replace h := h.1 c6
    refine zi_iload_n (pc' := 14) rfl rfl rfl ?_
    refine zi_bipush (pc' := 16) rfl rfl (by decide) ?_
    refine zi_imul (pc' := 17) rfl rfl ?_
    refine zi_istore_n (pc' := 18) [some _, some _, some _, some _] rfl rfl rfl ?_
    refine zi_aload_n (pc' := 19) rfl rfl rfl ?_
    refine zi_getr (pc' := 22) rfl rfl hr0 (zs_f10_7 hr0).1 rfl ?_
    refine zi_iload_n (pc' := 23) rfl rfl rfl ?_
    refine zi_iconst (pc' := 24) rfl rfl ?_
    refine zi_iadd (pc' := 25) rfl rfl ?_
    refine zi_aload_n (pc' := 26) rfl rfl rfl ?_
    refine zi_getr (pc' := 29) rfl rfl hr0 (zs_f10_7 hr0).1 rfl ?_
    refine zi_iload_n (pc' := 30) rfl rfl rfl ?_
    refine zi_iload_n (pc' := 31) rfl rfl rfl ?_
    refine zi_iconst (pc' := 32) rfl rfl ?_
    refine zi_isub (pc' := 33) rfl rfl ?_
    obtain ⟨o3, h⟩ := h
    refine zi_copy (pc' := 36) rfl rfl (Nat.le_trans (by decide) hd) rfl (zs_f10_7 hr0).2 (zs_f10_7 hr0).2 o3 ?_
    replace h := h _ rfl
    refine zi_aload_n (pc' := 37) rfl rfl rfl ?_
    refine zi_getr (pc' := 40) rfl rfl hr0 (zs_f10_6 hr0).1 rfl ?_
    refine zi_iload_n (pc' := 41) rfl rfl rfl ?_
    refine zi_iload_n (pc' := 42) rfl rfl rfl ?_
    refine zi_iconst (pc' := 43) rfl rfl ?_
    refine zi_isub (pc' := 44) rfl rfl ?_
    refine zi_iast (pc' := 45) rfl rfl (zs_f10_6 hr0).2 o1 ?_
    replace h := h _ rfl
    exact zi_vret rfl rfl h
  · replace h := h.2 c6
    exact zi_vret rfl rfl h
-- SpoutNews$DayRun.sayFirst(LSpoutNews$World;LSpoutNews$Texts;LSpoutNews$Book;I)V
noncomputable def w_DayRun_sayFirst_b48 (r1 : Nat) (l4 : Int) (l5 : Int) (g : zi_M) (Q : Int → zi_M → Prop) : Prop := (∀ g10, g10 = zi_u g r1 15 (zi_w ((g r1 15) + 1)) → w_World_fillJarsAt r1 l4 l5 g10 (fun _ g12 => w_Book_write r1 1 l4 l5 g12 (fun _ g15 => w_Texts_gutterOf l4 g15 (fun v17 g18 => (zi_r v17 ∧ ((v17 = (-1) → w_World_dropFirst r1 l4 g18 (fun _ g22 => Q 0 g22)) ∧ (¬ v17 = (-1) → (zi_r (g18 177 2) ∧ ((90 ≤ (g18 177 2) → w_World_dropFirst r1 l4 g18 (fun _ g26 => Q 0 g26)) ∧ ((g18 177 2) < 90 → ((0 ≤ (g18 177 2) ∧ (g18 177 2) < 90) ∧ (∀ g29, g29 = zi_u g18 178 (g18 177 2) l5 → ((0 ≤ (g29 177 2) ∧ (g29 177 2) < 90) ∧ (∀ g31, g31 = zi_u g29 179 (g29 177 2) v17 → (∀ g32, g32 = zi_u g31 177 2 ((g31 177 2) + 1) → w_World_dropFirst r1 l4 g32 (fun _ g34 => Q 0 g34))))))))))))))))
noncomputable def w_DayRun_sayFirst (r1 : Nat) (l4 : Int) (g : zi_M) (Q : Int → zi_M → Prop) : Prop := w_World_wordAt r1 l4 0 g (fun v1 g2 => w_Law_tells r1 2 l4 v1 g2 (fun v4 g5 => w_World_slips r1 v4 g5 (fun v7 g8 => ((v7 = 0 → w_DayRun_sayFirst_b48 r1 l4 v1 g8 Q) ∧ (¬ v7 = 0 → (zi_r (v1 + 1) ∧ (∀ g39, g39 = zi_u g8 r1 16 (zi_w ((g8 r1 16) + 1)) → w_DayRun_sayFirst_b48 r1 l4 (Int.tmod (v1 + 1) 16) g39 Q)))))))
set_option maxRecDepth 100000 in
theorem s_DayRun_sayFirst_b48 {E : sx_E} {d : Nat} (hd : 4 ≤ d) {r1 : Nat} (hr1 : zs_sh r1 = some (10, 20)) {l4 : Int} {l5 : Int} {Q : Int → zi_M → Prop} {g : zi_M} (h : w_DayRun_sayFirst_b48 r1 l4 l5 g Q) : zi_W E d 48 48 [some (.ref 177), some (.ref r1), some (.ref 19), some (.ref 14), some (zi_i l4), some (zi_i l5), none] [] g (zi_Qv Q) := by
  unfold w_DayRun_sayFirst_b48 at h
  refine zi_aload_n (pc' := 49) rfl rfl rfl ?_
  refine zi_dup (pc' := 50) rfl rfl rfl ?_
  refine zi_geti (pc' := 53) 15 rfl rfl rfl hr1 rfl rfl ?_
  refine zi_iconst (pc' := 54) rfl rfl ?_
  refine zi_iadd (pc' := 55) rfl rfl ?_
  refine zi_wrap ?_
  refine zi_puti (pc' := 58) 15 rfl rfl rfl hr1 rfl  ?_
  replace h := h _ rfl
  refine zi_aload_n (pc' := 59) rfl rfl rfl ?_
  refine zi_iload (pc' := 61) rfl rfl rfl ?_
  refine zi_iload (pc' := 63) rfl rfl rfl ?_
  refine zi_callV (d' := 1) (as := [_, _]) (pc' := 66) rfl rfl rfl hr1 (Nat.lt_of_lt_of_le (by decide) hd) (s_World_fillJarsAt (Nat.le_refl _) hr1 h) (zi_kv (fun g12 h => ?_))
  refine zi_aload_n (pc' := 67) rfl rfl rfl ?_
  refine zi_aload_n (pc' := 68) rfl rfl rfl ?_
  refine zi_iconst (pc' := 69) rfl rfl ?_
  refine zi_iload (pc' := 71) rfl rfl rfl ?_
  refine zi_iload (pc' := 73) rfl rfl rfl ?_
  refine zi_callV (d' := 1) (as := [_, _, _, _]) (pc' := 76) rfl rfl rfl rfl (Nat.lt_of_lt_of_le (by decide) hd) (s_Book_write (Nat.le_refl _) hr1 h) (zi_kv (fun g15 h => ?_))
  refine zi_aload_n (pc' := 77) rfl rfl rfl ?_
  refine zi_iload (pc' := 79) rfl rfl rfl ?_
  refine zi_callV (d' := 1) (as := [_]) (pc' := 82) rfl rfl rfl rfl (Nat.lt_of_lt_of_le (by decide) hd) (s_Texts_gutterOf (Nat.le_refl _) h) (zi_ki (fun v17 g18 h => ?_))
  refine zi_istore (pc' := 84) [some _, some _, some _, some _, some _, some _, some _] rfl rfl rfl ?_
  refine zi_iload (pc' := 86) rfl rfl rfl ?_
  refine zi_iconst (pc' := 87) rfl rfl ?_
  obtain ⟨o20, h⟩ := h
  refine zi_icmp_eq (x := 131) (pc' := 90) rfl rfl o20 (by decide) (fun c37 => ?_) (fun c37 => ?_)
  · replace h := h.1 c37
    refine zi_aload_n (pc' := 132) rfl rfl rfl ?_
    refine zi_iload (pc' := 134) rfl rfl rfl ?_
    refine zi_callV (d' := 1) (as := [_]) (pc' := 137) rfl rfl rfl hr1 (Nat.lt_of_lt_of_le (by decide) hd) (s_World_dropFirst (Nat.le_refl _) hr1 h) (zi_kv (fun g22 h => ?_))
    exact zi_vret rfl rfl h
  · replace h := h.2 c37
    refine zi_aload_n (pc' := 91) rfl rfl rfl ?_
    refine zi_geti (pc' := 94) 2 rfl rfl rfl rfl rfl rfl ?_
    refine zi_bipush (pc' := 96) rfl rfl (by decide) ?_
    obtain ⟨o24, h⟩ := h
    refine zi_icmp_ge (x := 131) (pc' := 99) rfl rfl o24 (by decide) (fun c36 => ?_) (fun c36 => ?_)
    · replace h := h.1 c36
      refine zi_aload_n (pc' := 132) rfl rfl rfl ?_
      refine zi_iload (pc' := 134) rfl rfl rfl ?_
      refine zi_callV (d' := 1) (as := [_]) (pc' := 137) rfl rfl rfl hr1 (Nat.lt_of_lt_of_le (by decide) hd) (s_World_dropFirst (Nat.le_refl _) hr1 h) (zi_kv (fun g26 h => ?_))
      exact zi_vret rfl rfl h
    · replace h := h.2 c36
      refine zi_aload_n (pc' := 100) rfl rfl rfl ?_
      refine zi_getr (pc' := 103) rfl rfl rfl rfl rfl ?_
      refine zi_aload_n (pc' := 104) rfl rfl rfl ?_
      refine zi_geti (pc' := 107) 2 rfl rfl rfl rfl rfl rfl ?_
      refine zi_iload (pc' := 109) rfl rfl rfl ?_
      obtain ⟨o28, h⟩ := h
      refine zi_iast (pc' := 110) rfl rfl rfl o28 ?_
      replace h := h _ rfl
      refine zi_aload_n (pc' := 111) rfl rfl rfl ?_
      refine zi_getr (pc' := 114) rfl rfl rfl rfl rfl ?_
      refine zi_aload_n (pc' := 115) rfl rfl rfl ?_
      refine zi_geti (pc' := 118) 2 rfl rfl rfl rfl rfl rfl ?_
      refine zi_iload (pc' := 120) rfl rfl rfl ?_
      obtain ⟨o30, h⟩ := h
      refine zi_iast (pc' := 121) rfl rfl rfl o30 ?_
      replace h := h _ rfl
      refine zi_aload_n (pc' := 122) rfl rfl rfl ?_
      refine zi_dup (pc' := 123) rfl rfl rfl ?_
      refine zi_geti (pc' := 126) 2 rfl rfl rfl rfl rfl rfl ?_
      refine zi_iconst (pc' := 127) rfl rfl ?_
      refine zi_iadd (pc' := 128) rfl rfl ?_
      refine zi_puti (pc' := 131) 2 rfl rfl rfl rfl rfl  ?_
      replace h := h _ rfl
      refine zi_aload_n (pc' := 132) rfl rfl rfl ?_
      refine zi_iload (pc' := 134) rfl rfl rfl ?_
      refine zi_callV (d' := 1) (as := [_]) (pc' := 137) rfl rfl rfl hr1 (Nat.lt_of_lt_of_le (by decide) hd) (s_World_dropFirst (Nat.le_refl _) hr1 h) (zi_kv (fun g34 h => ?_))
      exact zi_vret rfl rfl h
set_option maxRecDepth 100000 in
theorem s_DayRun_sayFirst {E : sx_E} {d : Nat} (hd : 4 ≤ d) {r1 : Nat} (hr1 : zs_sh r1 = some (10, 20)) {l4 : Int} {g : zi_M} {Q : Int → zi_M → Prop} (h : w_DayRun_sayFirst r1 l4 g Q) : zi_S E d 48 [.ref 177, .ref r1, .ref 19, .ref 14, zi_i l4] g (zi_Qv Q) := by
  refine zi_Sof jf_48 [some (.ref 177), some (.ref r1), some (.ref 19), some (.ref 14), some (zi_i l4), none, none] rfl (And.intro rfl (And.intro rfl (And.intro rfl (And.intro rfl (And.intro rfl trivial))))) ?_
  unfold w_DayRun_sayFirst at h
  refine zi_aload_n (pc' := 1) rfl rfl rfl ?_
  refine zi_iload (pc' := 3) rfl rfl rfl ?_
  refine zi_iconst (pc' := 4) rfl rfl ?_
  refine zi_callV (d' := 2) (as := [_, _]) (pc' := 7) rfl rfl rfl hr1 (Nat.lt_of_lt_of_le (by decide) hd) (s_World_wordAt (Nat.le_refl _) hr1 h) (zi_ki (fun v1 g2 h => ?_))
  refine zi_istore (pc' := 9) [some _, some _, some _, some _, some _, some _, none] rfl rfl rfl ?_
  refine zi_aload_n (pc' := 10) rfl rfl rfl ?_
  refine zi_aload_n (pc' := 11) rfl rfl rfl ?_
  refine zi_getr (pc' := 14) rfl rfl rfl rfl rfl ?_
  refine zi_iconst (pc' := 15) rfl rfl ?_
  refine zi_aload_n (pc' := 16) rfl rfl rfl ?_
  refine zi_iload (pc' := 18) rfl rfl rfl ?_
  refine zi_iload (pc' := 20) rfl rfl rfl ?_
  refine zi_callV (d' := 3) (as := [_, _, _, _]) (pc' := 23) rfl rfl rfl rfl (Nat.lt_of_lt_of_le (by decide) hd) (s_Law_tells (Nat.le_refl _) hr1 h) (zi_ki (fun v4 g5 h => ?_))
  refine zi_callV (d' := 1) (as := [_]) (pc' := 26) rfl rfl rfl hr1 (Nat.lt_of_lt_of_le (by decide) hd) (s_World_slips (Nat.le_refl _) hr1 h) (zi_kb (fun v7 g8 b9 h => ?_))
  refine zi_if_eq (x := 48) (pc' := 29) rfl rfl (zi_r_bit b9)  (fun c40 => ?_) (fun c40 => ?_)
  · replace h := h.1 c40
    exact zi_wk (s_DayRun_sayFirst_b48 hd hr1 h) (And.intro rfl (And.intro rfl (And.intro rfl (And.intro rfl (And.intro rfl (And.intro rfl trivial))))))
  · replace h := h.2 c40
    refine zi_iload (pc' := 31) rfl rfl rfl ?_
    refine zi_iconst (pc' := 32) rfl rfl ?_
    refine zi_iadd (pc' := 33) rfl rfl ?_
    refine zi_bipush (pc' := 35) rfl rfl (by decide) ?_
    obtain ⟨o38, h⟩ := h
    refine zi_irem (pc' := 36) rfl rfl o38 (by decide) (by decide) ?_
    refine zi_istore (pc' := 38) [some _, some _, some _, some _, some _, some _, none] rfl rfl rfl ?_
    refine zi_aload_n (pc' := 39) rfl rfl rfl ?_
    refine zi_dup (pc' := 40) rfl rfl rfl ?_
    refine zi_geti (pc' := 43) 16 rfl rfl rfl hr1 rfl rfl ?_
    refine zi_iconst (pc' := 44) rfl rfl ?_
    refine zi_iadd (pc' := 45) rfl rfl ?_
    refine zi_wrap ?_
    refine zi_puti (pc' := 48) 16 rfl rfl rfl hr1 rfl  ?_
    replace h := h _ rfl
    exact zi_wk (s_DayRun_sayFirst_b48 hd hr1 h) (And.intro rfl (And.intro rfl (And.intro rfl (And.intro rfl (And.intro rfl (And.intro rfl trivial))))))
-- SpoutNews$World.heardSet(I)I
noncomputable def w_World_heardSet_l4 (r0 : Nat) (l1 : Int) (K31 : Int → zi_M → Prop) (Q : Int → zi_M → Prop) : Nat → Int → Int → zi_M → Prop
  | 0, _, _, _ => False
  | f + 1, l2, l3, g => ((0 ≤ l1 ∧ l1 < 10) ∧ (zi_r l3 ∧ zi_r (g (r0 + 6) l1) ∧ (((g (r0 + 6) l1) ≤ l3 → K31 l2 g) ∧ (l3 < (g (r0 + 6) l1) → w_World_wordAt r0 l1 l3 g (fun v4 g5 => w_World_heardSet_l4 r0 l1 K31 Q f (zi_or l2 (zi_shl 1 v4)) (l3 + 1) g5)))))
noncomputable def w_World_heardSet (r0 : Nat) (l1 : Int) (g : zi_M) (Q : Int → zi_M → Prop) : Prop := (∃ f10, w_World_heardSet_l4 r0 l1 (fun k8 g9 => Q k8 g9) Q f10 0 0 g)
set_option maxRecDepth 100000 in
theorem s_World_heardSet_l4_r {E : sx_E} {d : Nat} (hd : 3 ≤ d) {r0 : Nat} (hr0 : zs_sh r0 = some (10, 20)) {l1 : Int} {K31 : Int → zi_M → Prop} {Q : Int → zi_M → Prop} (hK31 : ∀ (k2 : Int) (g : zi_M), K31 k2 g → zi_W E d 43 31 [some (.ref r0), some (zi_i l1), some (zi_i k2), none] [] g (zi_Q Q)) : ∀ (f : Nat) {l2 : Int} {l3 : Int} {g : zi_M}, w_World_heardSet_l4 r0 l1 K31 Q f l2 l3 g → zi_W E d 43 4 [some (.ref r0), some (zi_i l1), some (zi_i l2), some (zi_i l3)] [] g (zi_Q Q)
  | 0, _, _, _, h => False.elim h
  | f + 1, l2, l3, g, h => by
    refine zi_iload_n (pc' := 5) rfl rfl rfl ?_
    refine zi_aload_n (pc' := 6) rfl rfl rfl ?_
    refine zi_getr (pc' := 9) rfl rfl hr0 (zs_f10_6 hr0).1 rfl ?_
    refine zi_iload_n (pc' := 10) rfl rfl rfl ?_
    obtain ⟨o1, h⟩ := h
    refine zi_iald (pc' := 11) rfl rfl (zs_f10_6 hr0).2 o1 ?_
    obtain ⟨o2, o3, h⟩ := h
    refine zi_icmp_ge (x := 31) (pc' := 14) rfl rfl o2 o3 (fun c7 => ?_) (fun c7 => ?_)
    · replace h := h.1 c7
      exact zi_wk (hK31 _ _ h) (And.intro rfl (And.intro rfl (And.intro rfl trivial)))
    · replace h := h.2 c7
      refine zi_iload_n (pc' := 15) rfl rfl rfl ?_
      refine zi_iconst (pc' := 16) rfl rfl ?_
      refine zi_aload_n (pc' := 17) rfl rfl rfl ?_
      refine zi_iload_n (pc' := 18) rfl rfl rfl ?_
      refine zi_iload_n (pc' := 19) rfl rfl rfl ?_
      refine zi_callV (d' := 2) (as := [_, _]) (pc' := 22) rfl rfl rfl hr0 (Nat.lt_of_lt_of_le (by decide) hd) (s_World_wordAt (Nat.le_refl _) hr0 h) (zi_ki (fun v4 g5 h => ?_))
      refine zi_ishl (pc' := 23) rfl rfl ?_
      refine zi_ior (pc' := 24) rfl rfl ?_
      refine zi_istore_n (pc' := 25) [some _, some _, some _, some _] rfl rfl rfl ?_
      refine zi_iinc (pc' := 28) [some _, some _, some _, some _] rfl rfl rfl rfl ?_
      refine zi_goto (x := 4) rfl ?_
      exact zi_wk (s_World_heardSet_l4_r hd hr0 hK31 f h) (And.intro rfl (And.intro rfl (And.intro rfl (And.intro rfl trivial))))
set_option maxRecDepth 100000 in
theorem s_World_heardSet_l4 {E : sx_E} {d : Nat} (hd : 3 ≤ d) {r0 : Nat} (hr0 : zs_sh r0 = some (10, 20)) {l1 : Int} {K31 : Int → zi_M → Prop} {Q : Int → zi_M → Prop} {l2 : Int} {l3 : Int} {g : zi_M} (h : ∃ f, w_World_heardSet_l4 r0 l1 K31 Q f l2 l3 g) (hK31 : ∀ (k2 : Int) (g : zi_M), K31 k2 g → zi_W E d 43 31 [some (.ref r0), some (zi_i l1), some (zi_i k2), none] [] g (zi_Q Q)) : zi_W E d 43 4 [some (.ref r0), some (zi_i l1), some (zi_i l2), some (zi_i l3)] [] g (zi_Q Q) := by
  obtain ⟨f, h⟩ := h
  exact s_World_heardSet_l4_r hd hr0 hK31 f h
set_option maxRecDepth 100000 in
theorem s_World_heardSet {E : sx_E} {d : Nat} (hd : 3 ≤ d) {r0 : Nat} (hr0 : zs_sh r0 = some (10, 20)) {l1 : Int} {g : zi_M} {Q : Int → zi_M → Prop} (h : w_World_heardSet r0 l1 g Q) : zi_S E d 43 [.ref r0, zi_i l1] g (zi_Q Q) := by
  refine zi_Sof jf_43 [some (.ref r0), some (zi_i l1), none, none] rfl (And.intro rfl (And.intro rfl trivial)) ?_
  unfold w_World_heardSet at h
  refine zi_iconst (pc' := 1) rfl rfl ?_
  refine zi_istore_n (pc' := 2) [some _, some _, some _, none] rfl rfl rfl ?_
  refine zi_iconst (pc' := 3) rfl rfl ?_
  refine zi_istore_n (pc' := 4) [some _, some _, some _, some _] rfl rfl rfl ?_
  refine zi_wk (s_World_heardSet_l4 hd hr0 h (fun k8 g9 h => ?_)) (And.intro rfl (And.intro rfl (And.intro rfl (And.intro rfl trivial))))
  refine zi_iload_n (pc' := 32) rfl rfl rfl ?_
  exact zi_iret rfl rfl h
-- SpoutNews$World.takeIn(II)Z
noncomputable def w_World_takeIn (r0 : Nat) (l1 : Int) (l2 : Int) (g : zi_M) (Q : Int → zi_M → Prop) : Prop := ((0 ≤ l1 ∧ l1 < 10) ∧ (zi_r (g (r0 + 6) l1) ∧ ((20 ≤ (g (r0 + 6) l1) → Q 0 g) ∧ ((g (r0 + 6) l1) < 20 → w_World_heardSet r0 l1 g (fun v3 g4 => ((¬ (zi_and (zi_shr v3 l2) 1) = 1 → ((0 ≤ ((l1 * 20) + (g (r0 + 6) l1)) ∧ ((l1 * 20) + (g (r0 + 6) l1)) < 200) ∧ (∀ g7, g7 = zi_u g4 (r0 + 7) ((l1 * 20) + (g (r0 + 6) l1)) l2 → (∀ g8, g8 = zi_u g7 (r0 + 6) l1 ((g (r0 + 6) l1) + 1) → Q 1 g8)))) ∧ ((zi_and (zi_shr v3 l2) 1) = 1 → Q 0 g4)))))))
set_option maxRecDepth 100000 in
theorem s_World_takeIn {E : sx_E} {d : Nat} (hd : 4 ≤ d) {r0 : Nat} (hr0 : zs_sh r0 = some (10, 20)) {l1 : Int} {l2 : Int} {g : zi_M} {Q : Int → zi_M → Prop} (h : w_World_takeIn r0 l1 l2 g Q) : zi_S E d 42 [.ref r0, zi_i l1, zi_i l2] g (zi_Qb Q) := by
  refine zi_Sof jf_42 [some (.ref r0), some (zi_i l1), some (zi_i l2), none] rfl (And.intro rfl (And.intro rfl (And.intro rfl trivial))) ?_
  unfold w_World_takeIn at h
  refine zi_aload_n (pc' := 1) rfl rfl rfl ?_
  refine zi_getr (pc' := 4) rfl rfl hr0 (zs_f10_6 hr0).1 rfl ?_
  refine zi_iload_n (pc' := 5) rfl rfl rfl ?_
  obtain ⟨o1, h⟩ := h
  refine zi_iald (pc' := 6) rfl rfl (zs_f10_6 hr0).2 o1 ?_
  refine zi_istore_n (pc' := 7) [some _, some _, some _, some _] rfl rfl rfl ?_
  refine zi_iload_n (pc' := 8) rfl rfl rfl ?_
  refine zi_bipush (pc' := 10) rfl rfl (by decide) ?_
  obtain ⟨o2, h⟩ := h
  refine zi_icmp_ge (x := 26) (pc' := 13) rfl rfl o2 (by decide) (fun c10 => ?_) (fun c10 => ?_)
  · replace h := h.1 c10
    refine zi_iconst (pc' := 27) rfl rfl ?_
    exact zi_zret rfl rfl (Or.inl rfl) h
  · replace h := h.2 c10
    refine zi_aload_n (pc' := 14) rfl rfl rfl ?_
    refine zi_iload_n (pc' := 15) rfl rfl rfl ?_
    refine zi_callV (d' := 3) (as := [_]) (pc' := 18) rfl rfl rfl hr0 (Nat.lt_of_lt_of_le (by decide) hd) (s_World_heardSet (Nat.le_refl _) hr0 h) (zi_ki (fun v3 g4 h => ?_))
    refine zi_iload_n (pc' := 19) rfl rfl rfl ?_
    refine zi_ishr (pc' := 20) rfl rfl ?_
    refine zi_iconst (pc' := 21) rfl rfl ?_
    refine zi_iand (pc' := 22) rfl rfl ?_
    refine zi_iconst (pc' := 23) rfl rfl ?_
    refine zi_icmp_ne (x := 28) (pc' := 26) rfl rfl (zi_r_and _ _) (by decide) (fun c9 => ?_) (fun c9 => ?_)
    · replace h := h.1 c9
      refine zi_aload_n (pc' := 29) rfl rfl rfl ?_
      refine zi_getr (pc' := 32) rfl rfl hr0 (zs_f10_7 hr0).1 rfl ?_
      refine zi_iload_n (pc' := 33) rfl rfl rfl ?_
      refine zi_bipush (pc' := 35) rfl rfl (by decide) ?_
      refine zi_imul (pc' := 36) rfl rfl ?_
      refine zi_iload_n (pc' := 37) rfl rfl rfl ?_
      refine zi_iadd (pc' := 38) rfl rfl ?_
      refine zi_iload_n (pc' := 39) rfl rfl rfl ?_
      obtain ⟨o6, h⟩ := h
      refine zi_iast (pc' := 40) rfl rfl (zs_f10_7 hr0).2 o6 ?_
      replace h := h _ rfl
      refine zi_aload_n (pc' := 41) rfl rfl rfl ?_
      refine zi_getr (pc' := 44) rfl rfl hr0 (zs_f10_6 hr0).1 rfl ?_
      refine zi_iload_n (pc' := 45) rfl rfl rfl ?_
      refine zi_iload_n (pc' := 46) rfl rfl rfl ?_
      refine zi_iconst (pc' := 47) rfl rfl ?_
      refine zi_iadd (pc' := 48) rfl rfl ?_
      refine zi_iast (pc' := 49) rfl rfl (zs_f10_6 hr0).2 o1 ?_
      replace h := h _ rfl
      refine zi_iconst (pc' := 50) rfl rfl ?_
      exact zi_zret rfl rfl (Or.inr rfl) h
    · replace h := h.2 c9
      refine zi_iconst (pc' := 27) rfl rfl ?_
      exact zi_zret rfl rfl (Or.inl rfl) h
-- SpoutNews$DayRun.leadOn(LSpoutNews$World;LSpoutNews$Book;)V
noncomputable def w_DayRun_leadOn_l2 (r1 : Nat) (K64 : zi_M → Prop) (Q : Int → zi_M → Prop) : Nat → Int → zi_M → Prop
  | 0, _, _ => False
  | f + 1, l3, g => (zi_r l3 ∧ zi_r (g 177 2) ∧ (((g 177 2) ≤ l3 → K64 g) ∧ (l3 < (g 177 2) → ((0 ≤ l3 ∧ l3 < 90) ∧ ((0 ≤ (g 179 l3) ∧ (g 179 l3) < 10) ∧ (zi_r (g (r1 + 4) (g 179 l3)) ∧ (((g (r1 + 4) (g 179 l3)) = 2 → w_DayRun_leadOn_l2 r1 K64 Q f (l3 + 1) g) ∧ (¬ (g (r1 + 4) (g 179 l3)) = 2 → w_World_takeIn r1 (g 179 l3) (g 178 l3) g (fun v6 g7 => ((v6 = 0 → w_DayRun_leadOn_l2 r1 K64 Q f (l3 + 1) g7) ∧ (¬ v6 = 0 → w_Book_write r1 2 (g 179 l3) (g7 178 l3) g7 (fun _ g10 => w_DayRun_leadOn_l2 r1 K64 Q f (l3 + 1) g10))))))))))))
noncomputable def w_DayRun_leadOn (r1 : Nat) (g : zi_M) (Q : Int → zi_M → Prop) : Prop := (∃ f16, w_DayRun_leadOn_l2 r1 (fun g15 => Q 0 g15) Q f16 0 g)
set_option maxRecDepth 100000 in
theorem s_DayRun_leadOn_l2_r {E : sx_E} {d : Nat} (hd : 5 ≤ d) {r1 : Nat} (hr1 : zs_sh r1 = some (10, 20)) {K64 : zi_M → Prop} {Q : Int → zi_M → Prop} (hK64 : ∀ (g : zi_M), K64 g → zi_W E d 53 64 [some (.ref 177), some (.ref r1), some (.ref 14), none, none] [] g (zi_Qv Q)) : ∀ (f : Nat) {l3 : Int} {g : zi_M}, w_DayRun_leadOn_l2 r1 K64 Q f l3 g → zi_W E d 53 2 [some (.ref 177), some (.ref r1), some (.ref 14), some (zi_i l3), none] [] g (zi_Qv Q)
  | 0, _, _, h => False.elim h
  | f + 1, l3, g, h => by
    refine zi_iload_n (pc' := 3) rfl rfl rfl ?_
    refine zi_aload_n (pc' := 4) rfl rfl rfl ?_
    refine zi_geti (pc' := 7) 2 rfl rfl rfl rfl rfl rfl ?_
    obtain ⟨o1, o2, h⟩ := h
    refine zi_icmp_ge (x := 64) (pc' := 10) rfl rfl o1 o2 (fun c14 => ?_) (fun c14 => ?_)
    · replace h := h.1 c14
      exact zi_wk (hK64 _ h) (And.intro rfl (And.intro rfl (And.intro rfl trivial)))
    · replace h := h.2 c14
      refine zi_aload_n (pc' := 11) rfl rfl rfl ?_
      refine zi_getr (pc' := 14) rfl rfl rfl rfl rfl ?_
      refine zi_iload_n (pc' := 15) rfl rfl rfl ?_
      obtain ⟨o3, h⟩ := h
      refine zi_iald (pc' := 16) rfl rfl rfl o3 ?_
      refine zi_istore (pc' := 18) [some _, some _, some _, some _, some _] rfl rfl rfl ?_
      refine zi_aload_n (pc' := 19) rfl rfl rfl ?_
      refine zi_getr (pc' := 22) rfl rfl hr1 (zs_f10_4 hr1).1 rfl ?_
      refine zi_iload (pc' := 24) rfl rfl rfl ?_
      obtain ⟨o4, h⟩ := h
      refine zi_iald (pc' := 25) rfl rfl (zs_f10_4 hr1).2 o4 ?_
      refine zi_iconst (pc' := 26) rfl rfl ?_
      obtain ⟨o5, h⟩ := h
      refine zi_icmp_eq (x := 58) (pc' := 29) rfl rfl o5 (by decide) (fun c13 => ?_) (fun c13 => ?_)
      · replace h := h.1 c13
        refine zi_iinc (pc' := 61) [some _, some _, some _, some _, some _] rfl rfl rfl rfl ?_
        refine zi_goto (x := 2) rfl ?_
        exact zi_wk (s_DayRun_leadOn_l2_r hd hr1 hK64 f h) (And.intro rfl (And.intro rfl (And.intro rfl (And.intro rfl trivial))))
      · replace h := h.2 c13
        refine zi_aload_n (pc' := 30) rfl rfl rfl ?_
        refine zi_iload (pc' := 32) rfl rfl rfl ?_
        refine zi_aload_n (pc' := 33) rfl rfl rfl ?_
        refine zi_getr (pc' := 36) rfl rfl rfl rfl rfl ?_
        refine zi_iload_n (pc' := 37) rfl rfl rfl ?_
        refine zi_iald (pc' := 38) rfl rfl rfl o3 ?_
        refine zi_callV (d' := 4) (as := [_, _]) (pc' := 41) rfl rfl rfl hr1 (Nat.lt_of_lt_of_le (by decide) hd) (s_World_takeIn (Nat.le_refl _) hr1 h) (zi_kb (fun v6 g7 b8 h => ?_))
        refine zi_if_eq (x := 58) (pc' := 44) rfl rfl (zi_r_bit b8)  (fun c12 => ?_) (fun c12 => ?_)
        · replace h := h.1 c12
          refine zi_iinc (pc' := 61) [some _, some _, some _, some _, some _] rfl rfl rfl rfl ?_
          refine zi_goto (x := 2) rfl ?_
          exact zi_wk (s_DayRun_leadOn_l2_r hd hr1 hK64 f h) (And.intro rfl (And.intro rfl (And.intro rfl (And.intro rfl trivial))))
        · replace h := h.2 c12
          refine zi_aload_n (pc' := 45) rfl rfl rfl ?_
          refine zi_aload_n (pc' := 46) rfl rfl rfl ?_
          refine zi_iconst (pc' := 47) rfl rfl ?_
          refine zi_iload (pc' := 49) rfl rfl rfl ?_
          refine zi_aload_n (pc' := 50) rfl rfl rfl ?_
          refine zi_getr (pc' := 53) rfl rfl rfl rfl rfl ?_
          refine zi_iload_n (pc' := 54) rfl rfl rfl ?_
          refine zi_iald (pc' := 55) rfl rfl rfl o3 ?_
          refine zi_callV (d' := 1) (as := [_, _, _, _]) (pc' := 58) rfl rfl rfl rfl (Nat.lt_of_lt_of_le (by decide) hd) (s_Book_write (Nat.le_refl _) hr1 h) (zi_kv (fun g10 h => ?_))
          refine zi_iinc (pc' := 61) [some _, some _, some _, some _, some _] rfl rfl rfl rfl ?_
          refine zi_goto (x := 2) rfl ?_
          exact zi_wk (s_DayRun_leadOn_l2_r hd hr1 hK64 f h) (And.intro rfl (And.intro rfl (And.intro rfl (And.intro rfl trivial))))
set_option maxRecDepth 100000 in
theorem s_DayRun_leadOn_l2 {E : sx_E} {d : Nat} (hd : 5 ≤ d) {r1 : Nat} (hr1 : zs_sh r1 = some (10, 20)) {K64 : zi_M → Prop} {Q : Int → zi_M → Prop} {l3 : Int} {g : zi_M} (h : ∃ f, w_DayRun_leadOn_l2 r1 K64 Q f l3 g) (hK64 : ∀ (g : zi_M), K64 g → zi_W E d 53 64 [some (.ref 177), some (.ref r1), some (.ref 14), none, none] [] g (zi_Qv Q)) : zi_W E d 53 2 [some (.ref 177), some (.ref r1), some (.ref 14), some (zi_i l3), none] [] g (zi_Qv Q) := by
  obtain ⟨f, h⟩ := h
  exact s_DayRun_leadOn_l2_r hd hr1 hK64 f h
set_option maxRecDepth 100000 in
theorem s_DayRun_leadOn {E : sx_E} {d : Nat} (hd : 5 ≤ d) {r1 : Nat} (hr1 : zs_sh r1 = some (10, 20)) {g : zi_M} {Q : Int → zi_M → Prop} (h : w_DayRun_leadOn r1 g Q) : zi_S E d 53 [.ref 177, .ref r1, .ref 14] g (zi_Qv Q) := by
  refine zi_Sof jf_53 [some (.ref 177), some (.ref r1), some (.ref 14), none, none] rfl (And.intro rfl (And.intro rfl (And.intro rfl trivial))) ?_
  unfold w_DayRun_leadOn at h
  refine zi_iconst (pc' := 1) rfl rfl ?_
  refine zi_istore_n (pc' := 2) [some _, some _, some _, some _, none] rfl rfl rfl ?_
  refine zi_wk (s_DayRun_leadOn_l2 hd hr1 h (fun g15 h => ?_)) (And.intro rfl (And.intro rfl (And.intro rfl (And.intro rfl trivial))))
  exact zi_vret rfl rfl h
-- SpoutNews$DayRun.passWet(LSpoutNews$World;LSpoutNews$Texts;LSpoutNews$Book;)V
noncomputable def w_DayRun_passWet_l53 (r1 : Nat) (l4 : Int) (l5 : Int) (K75 : zi_M → Prop) (Q : Int → zi_M → Prop) : Nat → Int → zi_M → Prop
  | 0, _, _ => False
  | f + 1, l6, g => (zi_r l6 ∧ zi_r l5 ∧ ((l5 ≤ l6 → K75 g) ∧ (l6 < l5 → w_DayRun_sayFirst r1 l4 g (fun _ g16 => w_DayRun_passWet_l53 r1 l4 l5 K75 Q f (l6 + 1) g16))))
noncomputable def w_DayRun_passWet_l8 (r1 : Nat) (K81 : zi_M → Prop) (Q : Int → zi_M → Prop) : Nat → Int → zi_M → Prop
  | 0, _, _ => False
  | f + 1, l4, g => (zi_r l4 ∧ zi_r (g r1 8) ∧ (((g r1 8) ≤ l4 → K81 g) ∧ (l4 < (g r1 8) → w_World_speaks r1 l4 g (fun v4 g5 => ((v4 = 0 → w_DayRun_passWet_l8 r1 K81 Q f (l4 + 1) g5) ∧ (¬ v4 = 0 → w_Law_tells r1 1 l4 0 g5 (fun v7 g8 => ((0 ≤ l4 ∧ l4 < 10) ∧ (zi_r v7 ∧ zi_r (g8 (r1 + 6) l4) ∧ (∃ f20, w_DayRun_passWet_l53 r1 l4 (min v7 (g8 (r1 + 6) l4)) (fun g19 => w_DayRun_passWet_l8 r1 K81 Q f (l4 + 1) g19) Q f20 0 g8))))))))))
noncomputable def w_DayRun_passWet_l90 (r1 : Nat) (K113 : zi_M → Prop) (Q : Int → zi_M → Prop) : Nat → Int → zi_M → Prop
  | 0, _, _ => False
  | f + 1, l4, g => (zi_r l4 ∧ zi_r (g r1 8) ∧ (((g r1 8) ≤ l4 → K113 g) ∧ (l4 < (g r1 8) → ((0 ≤ l4 ∧ l4 < 10) ∧ (∀ g30, g30 = zi_u g (r1 + 5) l4 0 → w_DayRun_passWet_l90 r1 K113 Q f (l4 + 1) g30)))))
noncomputable def w_DayRun_passWet (r1 : Nat) (g : zi_M) (Q : Int → zi_M → Prop) : Prop := (∀ g1, g1 = zi_u g 177 2 0 → (∃ f34, w_DayRun_passWet_l8 r1 (fun g23 => w_DayRun_leadOn r1 g23 (fun _ g25 => (∃ f33, w_DayRun_passWet_l90 r1 (fun g32 => Q 0 g32) Q f33 0 g25))) Q f34 0 g1))
set_option maxRecDepth 100000 in
theorem s_DayRun_passWet_l53_r {E : sx_E} {d : Nat} (hd : 6 ≤ d) {r1 : Nat} (hr1 : zs_sh r1 = some (10, 20)) {l4 : Int} {l5 : Int} {K75 : zi_M → Prop} {Q : Int → zi_M → Prop} (hK75 : ∀ (g : zi_M), K75 g → zi_W E d 46 75 [some (.ref 177), some (.ref r1), some (.ref 19), some (.ref 14), some (zi_i l4), some (zi_i l5), none] [] g (zi_Qv Q)) : ∀ (f : Nat) {l6 : Int} {g : zi_M}, w_DayRun_passWet_l53 r1 l4 l5 K75 Q f l6 g → zi_W E d 46 53 [some (.ref 177), some (.ref r1), some (.ref 19), some (.ref 14), some (zi_i l4), some (zi_i l5), some (zi_i l6)] [] g (zi_Qv Q)
  | 0, _, _, h => False.elim h
  | f + 1, l6, g, h => by
    refine zi_iload (pc' := 55) rfl rfl rfl ?_
    refine zi_iload (pc' := 57) rfl rfl rfl ?_
    obtain ⟨o13, o14, h⟩ := h
    refine zi_icmp_ge (x := 75) (pc' := 60) rfl rfl o13 o14 (fun c18 => ?_) (fun c18 => ?_)
    · replace h := h.1 c18
      exact zi_wk (hK75 _ h) (And.intro rfl (And.intro rfl (And.intro rfl (And.intro rfl (And.intro rfl (And.intro rfl trivial))))))
    · replace h := h.2 c18
      refine zi_aload_n (pc' := 61) rfl rfl rfl ?_
      refine zi_aload_n (pc' := 62) rfl rfl rfl ?_
      refine zi_aload_n (pc' := 63) rfl rfl rfl ?_
      refine zi_aload_n (pc' := 64) rfl rfl rfl ?_
      refine zi_iload (pc' := 66) rfl rfl rfl ?_
      refine zi_callV (d' := 4) (as := [_, _, _, _]) (pc' := 69) rfl rfl rfl rfl (Nat.lt_of_lt_of_le (by decide) hd) (s_DayRun_sayFirst (Nat.le_refl _) hr1 h) (zi_kv (fun g16 h => ?_))
      refine zi_iinc (pc' := 72) [some _, some _, some _, some _, some _, some _, some _] rfl rfl rfl rfl ?_
      refine zi_goto (x := 53) rfl ?_
      exact zi_wk (s_DayRun_passWet_l53_r hd hr1 hK75 f h) (And.intro rfl (And.intro rfl (And.intro rfl (And.intro rfl (And.intro rfl (And.intro rfl (And.intro rfl trivial)))))))
set_option maxRecDepth 100000 in
theorem s_DayRun_passWet_l53 {E : sx_E} {d : Nat} (hd : 6 ≤ d) {r1 : Nat} (hr1 : zs_sh r1 = some (10, 20)) {l4 : Int} {l5 : Int} {K75 : zi_M → Prop} {Q : Int → zi_M → Prop} {l6 : Int} {g : zi_M} (h : ∃ f, w_DayRun_passWet_l53 r1 l4 l5 K75 Q f l6 g) (hK75 : ∀ (g : zi_M), K75 g → zi_W E d 46 75 [some (.ref 177), some (.ref r1), some (.ref 19), some (.ref 14), some (zi_i l4), some (zi_i l5), none] [] g (zi_Qv Q)) : zi_W E d 46 53 [some (.ref 177), some (.ref r1), some (.ref 19), some (.ref 14), some (zi_i l4), some (zi_i l5), some (zi_i l6)] [] g (zi_Qv Q) := by
  obtain ⟨f, h⟩ := h
  exact s_DayRun_passWet_l53_r hd hr1 hK75 f h
set_option maxRecDepth 100000 in
theorem s_DayRun_passWet_l8_r {E : sx_E} {d : Nat} (hd : 6 ≤ d) {r1 : Nat} (hr1 : zs_sh r1 = some (10, 20)) {K81 : zi_M → Prop} {Q : Int → zi_M → Prop} (hK81 : ∀ (g : zi_M), K81 g → zi_W E d 46 81 [some (.ref 177), some (.ref r1), some (.ref 19), some (.ref 14), none, none, none] [] g (zi_Qv Q)) : ∀ (f : Nat) {l4 : Int} {g : zi_M}, w_DayRun_passWet_l8 r1 K81 Q f l4 g → zi_W E d 46 8 [some (.ref 177), some (.ref r1), some (.ref 19), some (.ref 14), some (zi_i l4), none, none] [] g (zi_Qv Q)
  | 0, _, _, h => False.elim h
  | f + 1, l4, g, h => by
    refine zi_iload (pc' := 10) rfl rfl rfl ?_
    refine zi_aload_n (pc' := 11) rfl rfl rfl ?_
    refine zi_geti (pc' := 14) 8 rfl rfl rfl hr1 rfl rfl ?_
    obtain ⟨o2, o3, h⟩ := h
    refine zi_icmp_ge (x := 81) (pc' := 17) rfl rfl o2 o3 (fun c22 => ?_) (fun c22 => ?_)
    · replace h := h.1 c22
      exact zi_wk (hK81 _ h) (And.intro rfl (And.intro rfl (And.intro rfl (And.intro rfl trivial))))
    · replace h := h.2 c22
      refine zi_aload_n (pc' := 18) rfl rfl rfl ?_
      refine zi_iload (pc' := 20) rfl rfl rfl ?_
      refine zi_callV (d' := 1) (as := [_]) (pc' := 23) rfl rfl rfl hr1 (Nat.lt_of_lt_of_le (by decide) hd) (s_World_speaks (Nat.le_refl _) hr1 h) (zi_kb (fun v4 g5 b6 h => ?_))
      refine zi_if_eq (x := 75) (pc' := 26) rfl rfl (zi_r_bit b6)  (fun c21 => ?_) (fun c21 => ?_)
      · replace h := h.1 c21
        refine zi_iinc (pc' := 78) [some _, some _, some _, some _, some _, none, none] rfl rfl rfl rfl ?_
        refine zi_goto (x := 8) rfl ?_
        exact zi_wk (s_DayRun_passWet_l8_r hd hr1 hK81 f h) (And.intro rfl (And.intro rfl (And.intro rfl (And.intro rfl (And.intro rfl trivial)))))
      · replace h := h.2 c21
        refine zi_aload_n (pc' := 27) rfl rfl rfl ?_
        refine zi_getr (pc' := 30) rfl rfl rfl rfl rfl ?_
        refine zi_iconst (pc' := 31) rfl rfl ?_
        refine zi_aload_n (pc' := 32) rfl rfl rfl ?_
        refine zi_iload (pc' := 34) rfl rfl rfl ?_
        refine zi_iconst (pc' := 35) rfl rfl ?_
        refine zi_callV (d' := 3) (as := [_, _, _, _]) (pc' := 38) rfl rfl rfl rfl (Nat.lt_of_lt_of_le (by decide) hd) (s_Law_tells (Nat.le_refl _) hr1 h) (zi_ki (fun v7 g8 h => ?_))
        refine zi_aload_n (pc' := 39) rfl rfl rfl ?_
        refine zi_getr (pc' := 42) rfl rfl hr1 (zs_f10_6 hr1).1 rfl ?_
        refine zi_iload (pc' := 44) rfl rfl rfl ?_
        obtain ⟨o10, h⟩ := h
        refine zi_iald (pc' := 45) rfl rfl (zs_f10_6 hr1).2 o10 ?_
        obtain ⟨o11, o12, h⟩ := h
        refine zi_min (pc' := 48) rfl rfl o11 o12 (Nat.le_trans (by decide) hd) rfl ?_
        refine zi_istore (pc' := 50) [some _, some _, some _, some _, some _, some _, none] rfl rfl rfl ?_
        refine zi_iconst (pc' := 51) rfl rfl ?_
        refine zi_istore (pc' := 53) [some _, some _, some _, some _, some _, some _, some _] rfl rfl rfl ?_
        refine zi_wk (s_DayRun_passWet_l53 hd hr1 h (fun g19 h => ?_)) (And.intro rfl (And.intro rfl (And.intro rfl (And.intro rfl (And.intro rfl (And.intro rfl (And.intro rfl trivial)))))))
        refine zi_iinc (pc' := 78) [some _, some _, some _, some _, some _, some _, none] rfl rfl rfl rfl ?_
        refine zi_goto (x := 8) rfl ?_
        exact zi_wk (s_DayRun_passWet_l8_r hd hr1 hK81 f h) (And.intro rfl (And.intro rfl (And.intro rfl (And.intro rfl (And.intro rfl trivial)))))
set_option maxRecDepth 100000 in
theorem s_DayRun_passWet_l8 {E : sx_E} {d : Nat} (hd : 6 ≤ d) {r1 : Nat} (hr1 : zs_sh r1 = some (10, 20)) {K81 : zi_M → Prop} {Q : Int → zi_M → Prop} {l4 : Int} {g : zi_M} (h : ∃ f, w_DayRun_passWet_l8 r1 K81 Q f l4 g) (hK81 : ∀ (g : zi_M), K81 g → zi_W E d 46 81 [some (.ref 177), some (.ref r1), some (.ref 19), some (.ref 14), none, none, none] [] g (zi_Qv Q)) : zi_W E d 46 8 [some (.ref 177), some (.ref r1), some (.ref 19), some (.ref 14), some (zi_i l4), none, none] [] g (zi_Qv Q) := by
  obtain ⟨f, h⟩ := h
  exact s_DayRun_passWet_l8_r hd hr1 hK81 f h
set_option maxRecDepth 100000 in
theorem s_DayRun_passWet_l90_r {E : sx_E} {d : Nat} (hd : 6 ≤ d) {r1 : Nat} (hr1 : zs_sh r1 = some (10, 20)) {K113 : zi_M → Prop} {Q : Int → zi_M → Prop} (hK113 : ∀ (g : zi_M), K113 g → zi_W E d 46 113 [none, some (.ref r1), none, none, none, none, none] [] g (zi_Qv Q)) : ∀ (f : Nat) {l4 : Int} {g : zi_M}, w_DayRun_passWet_l90 r1 K113 Q f l4 g → zi_W E d 46 90 [none, some (.ref r1), none, none, some (zi_i l4), none, none] [] g (zi_Qv Q)
  | 0, _, _, h => False.elim h
  | f + 1, l4, g, h => by
    refine zi_iload (pc' := 92) rfl rfl rfl ?_
    refine zi_aload_n (pc' := 93) rfl rfl rfl ?_
    refine zi_geti (pc' := 96) 8 rfl rfl rfl hr1 rfl rfl ?_
    obtain ⟨o27, o28, h⟩ := h
    refine zi_icmp_ge (x := 113) (pc' := 99) rfl rfl o27 o28 (fun c31 => ?_) (fun c31 => ?_)
    · replace h := h.1 c31
      exact zi_wk (hK113 _ h) (And.intro rfl trivial)
    · replace h := h.2 c31
      refine zi_aload_n (pc' := 100) rfl rfl rfl ?_
      refine zi_getr (pc' := 103) rfl rfl hr1 (zs_f10_5 hr1).1 rfl ?_
      refine zi_iload (pc' := 105) rfl rfl rfl ?_
      refine zi_iconst (pc' := 106) rfl rfl ?_
      obtain ⟨o29, h⟩ := h
      refine zi_iast (pc' := 107) rfl rfl (zs_f10_5 hr1).2 o29 ?_
      replace h := h _ rfl
      refine zi_iinc (pc' := 110) [none, some _, none, none, some _, none, none] rfl rfl rfl rfl ?_
      refine zi_goto (x := 90) rfl ?_
      exact zi_wk (s_DayRun_passWet_l90_r hd hr1 hK113 f h) (And.intro rfl (And.intro rfl trivial))
set_option maxRecDepth 100000 in
theorem s_DayRun_passWet_l90 {E : sx_E} {d : Nat} (hd : 6 ≤ d) {r1 : Nat} (hr1 : zs_sh r1 = some (10, 20)) {K113 : zi_M → Prop} {Q : Int → zi_M → Prop} {l4 : Int} {g : zi_M} (h : ∃ f, w_DayRun_passWet_l90 r1 K113 Q f l4 g) (hK113 : ∀ (g : zi_M), K113 g → zi_W E d 46 113 [none, some (.ref r1), none, none, none, none, none] [] g (zi_Qv Q)) : zi_W E d 46 90 [none, some (.ref r1), none, none, some (zi_i l4), none, none] [] g (zi_Qv Q) := by
  obtain ⟨f, h⟩ := h
  exact s_DayRun_passWet_l90_r hd hr1 hK113 f h
set_option maxRecDepth 100000 in
theorem s_DayRun_passWet {E : sx_E} {d : Nat} (hd : 6 ≤ d) {r1 : Nat} (hr1 : zs_sh r1 = some (10, 20)) {g : zi_M} {Q : Int → zi_M → Prop} (h : w_DayRun_passWet r1 g Q) : zi_S E d 46 [.ref 177, .ref r1, .ref 19, .ref 14] g (zi_Qv Q) := by
  refine zi_Sof jf_46 [some (.ref 177), some (.ref r1), some (.ref 19), some (.ref 14), none, none, none] rfl (And.intro rfl (And.intro rfl (And.intro rfl (And.intro rfl trivial)))) ?_
  unfold w_DayRun_passWet at h
  refine zi_aload_n (pc' := 1) rfl rfl rfl ?_
  refine zi_iconst (pc' := 2) rfl rfl ?_
  refine zi_puti (pc' := 5) 2 rfl rfl rfl rfl rfl  ?_
  replace h := h _ rfl
  refine zi_iconst (pc' := 6) rfl rfl ?_
  refine zi_istore (pc' := 8) [some _, some _, some _, some _, some _, none, none] rfl rfl rfl ?_
  refine zi_wk (s_DayRun_passWet_l8 hd hr1 h (fun g23 h => ?_)) (And.intro rfl (And.intro rfl (And.intro rfl (And.intro rfl (And.intro rfl trivial)))))
  refine zi_aload_n (pc' := 82) rfl rfl rfl ?_
  refine zi_aload_n (pc' := 83) rfl rfl rfl ?_
  refine zi_aload_n (pc' := 84) rfl rfl rfl ?_
  refine zi_callV (d' := 5) (as := [_, _]) (pc' := 87) rfl rfl rfl rfl (Nat.lt_of_lt_of_le (by decide) hd) (s_DayRun_leadOn (Nat.le_refl _) hr1 h) (zi_kv (fun g25 h => ?_))
  refine zi_iconst (pc' := 88) rfl rfl ?_
  refine zi_istore (pc' := 90) [some _, some _, some _, some _, some _, none, none] rfl rfl rfl ?_
  refine zi_wk (s_DayRun_passWet_l90 hd hr1 h (fun g32 h => ?_)) (And.intro rfl (And.intro rfl trivial))
  exact zi_vret rfl rfl h
-- SpoutNews$DayRun.listen(LSpoutNews$World;LSpoutNews$Texts;LSpoutNews$Book;II)V
noncomputable def w_DayRun_listen_l17 (r1 : Nat) (l4 : Int) (l5 : Int) (K70 : zi_M → Prop) (Q : Int → zi_M → Prop) : Nat → Int → Int → zi_M → Prop
  | 0, _, _, _ => False
  | f + 1, l6, l7, g => (zi_r l7 ∧ ((16 ≤ l7 → K70 g) ∧ (l7 < 16 → (zi_r l6 ∧ ((l6 ≤ 0 → K70 g) ∧ (0 < l6 → ((¬ (zi_and (zi_shr l5 l7) 1) = 1 → w_DayRun_listen_l17 r1 l4 l5 K70 Q f l6 (l7 + 1) g) ∧ ((zi_and (zi_shr l5 l7) 1) = 1 → w_World_takeIn r1 l4 l7 g (fun v6 g7 => ((v6 = 0 → w_DayRun_listen_l17 r1 l4 l5 K70 Q f l6 (l7 + 1) g7) ∧ (¬ v6 = 0 → w_Book_write r1 0 l4 l7 g7 (fun _ g10 => w_DayRun_listen_l17 r1 l4 l5 K70 Q f (l6 + (-1)) (l7 + 1) g10))))))))))))
noncomputable def w_DayRun_listen (r1 : Nat) (l4 : Int) (l5 : Int) (g : zi_M) (Q : Int → zi_M → Prop) : Prop := w_Law_tells r1 0 l4 0 g (fun v1 g2 => (∃ f17, w_DayRun_listen_l17 r1 l4 l5 (fun g16 => Q 0 g16) Q f17 v1 0 g2))
set_option maxRecDepth 100000 in
theorem s_DayRun_listen_l17_r {E : sx_E} {d : Nat} (hd : 5 ≤ d) {r1 : Nat} (hr1 : zs_sh r1 = some (10, 20)) {l4 : Int} {l5 : Int} {K70 : zi_M → Prop} {Q : Int → zi_M → Prop} (hK70 : ∀ (g : zi_M), K70 g → zi_W E d 36 70 [none, some (.ref r1), none, some (.ref 14), some (zi_i l4), some (zi_i l5), none, none] [] g (zi_Qv Q)) : ∀ (f : Nat) {l6 : Int} {l7 : Int} {g : zi_M}, w_DayRun_listen_l17 r1 l4 l5 K70 Q f l6 l7 g → zi_W E d 36 17 [none, some (.ref r1), none, some (.ref 14), some (zi_i l4), some (zi_i l5), some (zi_i l6), some (zi_i l7)] [] g (zi_Qv Q)
  | 0, _, _, _, h => False.elim h
  | f + 1, l6, l7, g, h => by
    refine zi_iload (pc' := 19) rfl rfl rfl ?_
    refine zi_bipush (pc' := 21) rfl rfl (by decide) ?_
    obtain ⟨o4, h⟩ := h
    refine zi_icmp_ge (x := 70) (pc' := 24) rfl rfl o4 (by decide) (fun c15 => ?_) (fun c15 => ?_)
    · replace h := h.1 c15
      exact zi_wk (hK70 _ h) (And.intro rfl (And.intro rfl (And.intro rfl (And.intro rfl trivial))))
    · replace h := h.2 c15
      refine zi_iload (pc' := 26) rfl rfl rfl ?_
      obtain ⟨o5, h⟩ := h
      refine zi_if_le (x := 70) (pc' := 29) rfl rfl o5  (fun c14 => ?_) (fun c14 => ?_)
      · replace h := h.1 c14
        exact zi_wk (hK70 _ h) (And.intro rfl (And.intro rfl (And.intro rfl (And.intro rfl trivial))))
      · replace h := h.2 c14
        refine zi_iload (pc' := 31) rfl rfl rfl ?_
        refine zi_iload (pc' := 33) rfl rfl rfl ?_
        refine zi_ishr (pc' := 34) rfl rfl ?_
        refine zi_iconst (pc' := 35) rfl rfl ?_
        refine zi_iand (pc' := 36) rfl rfl ?_
        refine zi_iconst (pc' := 37) rfl rfl ?_
        refine zi_icmp_ne (x := 64) (pc' := 40) rfl rfl (zi_r_and _ _) (by decide) (fun c13 => ?_) (fun c13 => ?_)
        · replace h := h.1 c13
          refine zi_iinc (pc' := 67) [none, some _, none, some _, some _, some _, some _, some _] rfl rfl rfl rfl ?_
          refine zi_goto (x := 17) rfl ?_
          exact zi_wk (s_DayRun_listen_l17_r hd hr1 hK70 f h) (And.intro rfl (And.intro rfl (And.intro rfl (And.intro rfl (And.intro rfl (And.intro rfl trivial))))))
        · replace h := h.2 c13
          refine zi_aload_n (pc' := 41) rfl rfl rfl ?_
          refine zi_iload (pc' := 43) rfl rfl rfl ?_
          refine zi_iload (pc' := 45) rfl rfl rfl ?_
          refine zi_callV (d' := 4) (as := [_, _]) (pc' := 48) rfl rfl rfl hr1 (Nat.lt_of_lt_of_le (by decide) hd) (s_World_takeIn (Nat.le_refl _) hr1 h) (zi_kb (fun v6 g7 b8 h => ?_))
          refine zi_if_eq (x := 64) (pc' := 51) rfl rfl (zi_r_bit b8)  (fun c12 => ?_) (fun c12 => ?_)
          · replace h := h.1 c12
            refine zi_iinc (pc' := 67) [none, some _, none, some _, some _, some _, some _, some _] rfl rfl rfl rfl ?_
            refine zi_goto (x := 17) rfl ?_
            exact zi_wk (s_DayRun_listen_l17_r hd hr1 hK70 f h) (And.intro rfl (And.intro rfl (And.intro rfl (And.intro rfl (And.intro rfl (And.intro rfl trivial))))))
          · replace h := h.2 c12
            refine zi_aload_n (pc' := 52) rfl rfl rfl ?_
            refine zi_aload_n (pc' := 53) rfl rfl rfl ?_
            refine zi_iconst (pc' := 54) rfl rfl ?_
            refine zi_iload (pc' := 56) rfl rfl rfl ?_
            refine zi_iload (pc' := 58) rfl rfl rfl ?_
            refine zi_callV (d' := 1) (as := [_, _, _, _]) (pc' := 61) rfl rfl rfl rfl (Nat.lt_of_lt_of_le (by decide) hd) (s_Book_write (Nat.le_refl _) hr1 h) (zi_kv (fun g10 h => ?_))
            refine zi_iinc (pc' := 64) [none, some _, none, some _, some _, some _, some _, some _] rfl rfl rfl rfl ?_
            refine zi_iinc (pc' := 67) [none, some _, none, some _, some _, some _, some _, some _] rfl rfl rfl rfl ?_
            refine zi_goto (x := 17) rfl ?_
            exact zi_wk (s_DayRun_listen_l17_r hd hr1 hK70 f h) (And.intro rfl (And.intro rfl (And.intro rfl (And.intro rfl (And.intro rfl (And.intro rfl trivial))))))
set_option maxRecDepth 100000 in
theorem s_DayRun_listen_l17 {E : sx_E} {d : Nat} (hd : 5 ≤ d) {r1 : Nat} (hr1 : zs_sh r1 = some (10, 20)) {l4 : Int} {l5 : Int} {K70 : zi_M → Prop} {Q : Int → zi_M → Prop} {l6 : Int} {l7 : Int} {g : zi_M} (h : ∃ f, w_DayRun_listen_l17 r1 l4 l5 K70 Q f l6 l7 g) (hK70 : ∀ (g : zi_M), K70 g → zi_W E d 36 70 [none, some (.ref r1), none, some (.ref 14), some (zi_i l4), some (zi_i l5), none, none] [] g (zi_Qv Q)) : zi_W E d 36 17 [none, some (.ref r1), none, some (.ref 14), some (zi_i l4), some (zi_i l5), some (zi_i l6), some (zi_i l7)] [] g (zi_Qv Q) := by
  obtain ⟨f, h⟩ := h
  exact s_DayRun_listen_l17_r hd hr1 hK70 f h
set_option maxRecDepth 100000 in
theorem s_DayRun_listen {E : sx_E} {d : Nat} (hd : 5 ≤ d) {r1 : Nat} (hr1 : zs_sh r1 = some (10, 20)) {l4 : Int} {l5 : Int} {g : zi_M} {Q : Int → zi_M → Prop} (h : w_DayRun_listen r1 l4 l5 g Q) : zi_S E d 36 [.ref 177, .ref r1, .ref 19, .ref 14, zi_i l4, zi_i l5] g (zi_Qv Q) := by
  refine zi_Sof jf_36 [some (.ref 177), some (.ref r1), some (.ref 19), some (.ref 14), some (zi_i l4), some (zi_i l5), none, none] rfl (And.intro rfl (And.intro rfl (And.intro rfl (And.intro rfl (And.intro rfl (And.intro rfl trivial)))))) ?_
  unfold w_DayRun_listen at h
  refine zi_aload_n (pc' := 1) rfl rfl rfl ?_
  refine zi_getr (pc' := 4) rfl rfl rfl rfl rfl ?_
  refine zi_iconst (pc' := 5) rfl rfl ?_
  refine zi_aload_n (pc' := 6) rfl rfl rfl ?_
  refine zi_iload (pc' := 8) rfl rfl rfl ?_
  refine zi_iconst (pc' := 9) rfl rfl ?_
  refine zi_callV (d' := 3) (as := [_, _, _, _]) (pc' := 12) rfl rfl rfl rfl (Nat.lt_of_lt_of_le (by decide) hd) (s_Law_tells (Nat.le_refl _) hr1 h) (zi_ki (fun v1 g2 h => ?_))
  refine zi_istore (pc' := 14) [some _, some _, some _, some _, some _, some _, some _, none] rfl rfl rfl ?_
  refine zi_iconst (pc' := 15) rfl rfl ?_
  refine zi_istore (pc' := 17) [some _, some _, some _, some _, some _, some _, some _, some _] rfl rfl rfl ?_
  refine zi_wk (s_DayRun_listen_l17 hd hr1 h (fun g16 h => ?_)) (And.intro rfl (And.intro rfl (And.intro rfl (And.intro rfl (And.intro rfl (And.intro rfl trivial))))))
  exact zi_vret rfl rfl h
-- SpoutNews$DayRun.passDry(LSpoutNews$World;LSpoutNews$Texts;LSpoutNews$Book;)V
noncomputable def w_DayRun_passDry_l15 (r1 : Nat) (l4 : Int) (K69 : zi_M → Prop) (Q : Int → zi_M → Prop) : Nat → Int → zi_M → Prop
  | 0, _, _ => False
  | f + 1, l5, g => (zi_r l5 ∧ zi_r (g r1 11) ∧ (((g r1 11) ≤ l5 → K69 g) ∧ (l5 < (g r1 11) → ((0 ≤ l4 ∧ l4 < 10) ∧ (zi_r (g (r1 + 4) l4) ∧ (((g (r1 + 4) l4) = 2 → K69 g) ∧ (¬ (g (r1 + 4) l4) = 2 → ((0 ≤ l5 ∧ l5 < 8) ∧ (zi_r (g (r1 + 9) l5) ∧ ((¬ (g (r1 + 9) l5) = l4 → w_DayRun_passDry_l15 r1 l4 K69 Q f (l5 + 1) g) ∧ ((g (r1 + 9) l5) = l4 → w_DayRun_listen r1 l4 (g (r1 + 8) l5) g (fun _ g10 => w_DayRun_passDry_l15 r1 l4 K69 Q f (l5 + 1) g10))))))))))))
noncomputable def w_DayRun_passDry_b69 (r1 : Nat) (l4 : Int) (g : zi_M) (H : Int → zi_M → Prop) (K97 : zi_M → Prop) (Q : Int → zi_M → Prop) : Prop := ((0 ≤ l4 ∧ l4 < 10) ∧ (zi_r ((g (r1 + 5) l4) + 1) ∧ (∀ g18, g18 = zi_u g (r1 + 5) l4 (min ((g (r1 + 5) l4) + 1) 999) → H (l4 + 1) g18)))
noncomputable def w_DayRun_passDry_l3 (r1 : Nat) (K97 : zi_M → Prop) (Q : Int → zi_M → Prop) : Nat → Int → zi_M → Prop
  | 0, _, _ => False
  | f + 1, l4, g => (zi_r l4 ∧ zi_r (g r1 8) ∧ (((g r1 8) ≤ l4 → K97 g) ∧ (l4 < (g r1 8) → (∃ f19, w_DayRun_passDry_l15 r1 l4 (fun g15 => w_DayRun_passDry_b69 r1 l4 g15 (w_DayRun_passDry_l3 r1 K97 Q f) K97 Q) Q f19 0 g))))
noncomputable def w_DayRun_passDry (r1 : Nat) (g : zi_M) (Q : Int → zi_M → Prop) : Prop := (∃ f22, w_DayRun_passDry_l3 r1 (fun g21 => Q 0 g21) Q f22 0 g)
set_option maxRecDepth 100000 in
theorem s_DayRun_passDry_l15_r {E : sx_E} {d : Nat} (hd : 6 ≤ d) {r1 : Nat} (hr1 : zs_sh r1 = some (10, 20)) {l4 : Int} {K69 : zi_M → Prop} {Q : Int → zi_M → Prop} (hK69 : ∀ (g : zi_M), K69 g → zi_W E d 35 69 [some (.ref 177), some (.ref r1), some (.ref 19), some (.ref 14), some (zi_i l4), none] [] g (zi_Qv Q)) : ∀ (f : Nat) {l5 : Int} {g : zi_M}, w_DayRun_passDry_l15 r1 l4 K69 Q f l5 g → zi_W E d 35 15 [some (.ref 177), some (.ref r1), some (.ref 19), some (.ref 14), some (zi_i l4), some (zi_i l5)] [] g (zi_Qv Q)
  | 0, _, _, h => False.elim h
  | f + 1, l5, g, h => by
    refine zi_iload (pc' := 17) rfl rfl rfl ?_
    refine zi_aload_n (pc' := 18) rfl rfl rfl ?_
    refine zi_geti (pc' := 21) 11 rfl rfl rfl hr1 rfl rfl ?_
    obtain ⟨o3, o4, h⟩ := h
    refine zi_icmp_ge (x := 69) (pc' := 24) rfl rfl o3 o4 (fun c14 => ?_) (fun c14 => ?_)
    · replace h := h.1 c14
      exact zi_wk (hK69 _ h) (And.intro rfl (And.intro rfl (And.intro rfl (And.intro rfl (And.intro rfl trivial)))))
    · replace h := h.2 c14
      refine zi_aload_n (pc' := 25) rfl rfl rfl ?_
      refine zi_getr (pc' := 28) rfl rfl hr1 (zs_f10_4 hr1).1 rfl ?_
      refine zi_iload (pc' := 30) rfl rfl rfl ?_
      obtain ⟨o5, h⟩ := h
      refine zi_iald (pc' := 31) rfl rfl (zs_f10_4 hr1).2 o5 ?_
      refine zi_iconst (pc' := 32) rfl rfl ?_
      obtain ⟨o6, h⟩ := h
      refine zi_icmp_eq (x := 69) (pc' := 35) rfl rfl o6 (by decide) (fun c13 => ?_) (fun c13 => ?_)
      · replace h := h.1 c13
        exact zi_wk (hK69 _ h) (And.intro rfl (And.intro rfl (And.intro rfl (And.intro rfl (And.intro rfl trivial)))))
      · replace h := h.2 c13
        refine zi_aload_n (pc' := 36) rfl rfl rfl ?_
        refine zi_getr (pc' := 39) rfl rfl hr1 (zs_f10_10 hr1).1 rfl ?_
        refine zi_iload (pc' := 41) rfl rfl rfl ?_
        obtain ⟨o7, h⟩ := h
        refine zi_iald (pc' := 42) rfl rfl (zs_f10_10 hr1).2 o7 ?_
        refine zi_iload (pc' := 44) rfl rfl rfl ?_
        obtain ⟨o8, h⟩ := h
        refine zi_icmp_ne (x := 63) (pc' := 47) rfl rfl o8 ⟨by omega, by omega⟩ (fun c12 => ?_) (fun c12 => ?_)
        · replace h := h.1 c12
          refine zi_iinc (pc' := 66) [some _, some _, some _, some _, some _, some _] rfl rfl rfl rfl ?_
          refine zi_goto (x := 15) rfl ?_
          exact zi_wk (s_DayRun_passDry_l15_r hd hr1 hK69 f h) (And.intro rfl (And.intro rfl (And.intro rfl (And.intro rfl (And.intro rfl (And.intro rfl trivial))))))
        · replace h := h.2 c12
          refine zi_aload_n (pc' := 48) rfl rfl rfl ?_
          refine zi_aload_n (pc' := 49) rfl rfl rfl ?_
          refine zi_aload_n (pc' := 50) rfl rfl rfl ?_
          refine zi_aload_n (pc' := 51) rfl rfl rfl ?_
          refine zi_iload (pc' := 53) rfl rfl rfl ?_
          refine zi_aload_n (pc' := 54) rfl rfl rfl ?_
          refine zi_getr (pc' := 57) rfl rfl hr1 (zs_f10_9 hr1).1 rfl ?_
          refine zi_iload (pc' := 59) rfl rfl rfl ?_
          refine zi_iald (pc' := 60) rfl rfl (zs_f10_9 hr1).2 o7 ?_
          refine zi_callV (d' := 5) (as := [_, _, _, _, _]) (pc' := 63) rfl rfl rfl rfl (Nat.lt_of_lt_of_le (by decide) hd) (s_DayRun_listen (Nat.le_refl _) hr1 h) (zi_kv (fun g10 h => ?_))
          refine zi_iinc (pc' := 66) [some _, some _, some _, some _, some _, some _] rfl rfl rfl rfl ?_
          refine zi_goto (x := 15) rfl ?_
          exact zi_wk (s_DayRun_passDry_l15_r hd hr1 hK69 f h) (And.intro rfl (And.intro rfl (And.intro rfl (And.intro rfl (And.intro rfl (And.intro rfl trivial))))))
set_option maxRecDepth 100000 in
theorem s_DayRun_passDry_l15 {E : sx_E} {d : Nat} (hd : 6 ≤ d) {r1 : Nat} (hr1 : zs_sh r1 = some (10, 20)) {l4 : Int} {K69 : zi_M → Prop} {Q : Int → zi_M → Prop} {l5 : Int} {g : zi_M} (h : ∃ f, w_DayRun_passDry_l15 r1 l4 K69 Q f l5 g) (hK69 : ∀ (g : zi_M), K69 g → zi_W E d 35 69 [some (.ref 177), some (.ref r1), some (.ref 19), some (.ref 14), some (zi_i l4), none] [] g (zi_Qv Q)) : zi_W E d 35 15 [some (.ref 177), some (.ref r1), some (.ref 19), some (.ref 14), some (zi_i l4), some (zi_i l5)] [] g (zi_Qv Q) := by
  obtain ⟨f, h⟩ := h
  exact s_DayRun_passDry_l15_r hd hr1 hK69 f h
set_option maxRecDepth 100000 in
theorem s_DayRun_passDry_b69 {E : sx_E} {d : Nat} (hd : 6 ≤ d) {r1 : Nat} (hr1 : zs_sh r1 = some (10, 20)) {l4 : Int} {H : Int → zi_M → Prop} {K97 : zi_M → Prop} {Q : Int → zi_M → Prop} {g : zi_M} (h : w_DayRun_passDry_b69 r1 l4 g H K97 Q) (hH : ∀ (m4 : Int) (g : zi_M), H m4 g → zi_W E d 35 3 [some (.ref 177), some (.ref r1), some (.ref 19), some (.ref 14), some (zi_i m4), none] [] g (zi_Qv Q)) (hK97 : ∀ (g : zi_M), K97 g → zi_W E d 35 97 [some (.ref 177), some (.ref r1), some (.ref 19), some (.ref 14), none, none] [] g (zi_Qv Q)) : zi_W E d 35 69 [some (.ref 177), some (.ref r1), some (.ref 19), some (.ref 14), some (zi_i l4), none] [] g (zi_Qv Q) := by
  unfold w_DayRun_passDry_b69 at h
  refine zi_aload_n (pc' := 70) rfl rfl rfl ?_
  refine zi_getr (pc' := 73) rfl rfl hr1 (zs_f10_5 hr1).1 rfl ?_
  refine zi_iload (pc' := 75) rfl rfl rfl ?_
  refine zi_aload_n (pc' := 76) rfl rfl rfl ?_
  refine zi_getr (pc' := 79) rfl rfl hr1 (zs_f10_5 hr1).1 rfl ?_
  refine zi_iload (pc' := 81) rfl rfl rfl ?_
  obtain ⟨o16, h⟩ := h
  refine zi_iald (pc' := 82) rfl rfl (zs_f10_5 hr1).2 o16 ?_
  refine zi_iconst (pc' := 83) rfl rfl ?_
  refine zi_iadd (pc' := 84) rfl rfl ?_
  refine zi_sipush (pc' := 87) rfl rfl (by decide) ?_
  obtain ⟨o17, h⟩ := h
  refine zi_min (pc' := 90) rfl rfl o17 (by decide) (Nat.le_trans (by decide) hd) rfl ?_
  refine zi_iast (pc' := 91) rfl rfl (zs_f10_5 hr1).2 o16 ?_
  replace h := h _ rfl
  refine zi_iinc (pc' := 94) [some _, some _, some _, some _, some _, none] rfl rfl rfl rfl ?_
  refine zi_goto (x := 3) rfl ?_
  exact zi_wk (hH _ _ h) (And.intro rfl (And.intro rfl (And.intro rfl (And.intro rfl (And.intro rfl trivial)))))
set_option maxRecDepth 100000 in
theorem s_DayRun_passDry_l3_r {E : sx_E} {d : Nat} (hd : 6 ≤ d) {r1 : Nat} (hr1 : zs_sh r1 = some (10, 20)) {K97 : zi_M → Prop} {Q : Int → zi_M → Prop} (hK97 : ∀ (g : zi_M), K97 g → zi_W E d 35 97 [some (.ref 177), some (.ref r1), some (.ref 19), some (.ref 14), none, none] [] g (zi_Qv Q)) : ∀ (f : Nat) {l4 : Int} {g : zi_M}, w_DayRun_passDry_l3 r1 K97 Q f l4 g → zi_W E d 35 3 [some (.ref 177), some (.ref r1), some (.ref 19), some (.ref 14), some (zi_i l4), none] [] g (zi_Qv Q)
  | 0, _, _, h => False.elim h
  | f + 1, l4, g, h => by
    refine zi_iload (pc' := 5) rfl rfl rfl ?_
    refine zi_aload_n (pc' := 6) rfl rfl rfl ?_
    refine zi_geti (pc' := 9) 8 rfl rfl rfl hr1 rfl rfl ?_
    obtain ⟨o1, o2, h⟩ := h
    refine zi_icmp_ge (x := 97) (pc' := 12) rfl rfl o1 o2 (fun c20 => ?_) (fun c20 => ?_)
    · replace h := h.1 c20
      exact zi_wk (hK97 _ h) (And.intro rfl (And.intro rfl (And.intro rfl (And.intro rfl trivial))))
    · replace h := h.2 c20
      refine zi_iconst (pc' := 13) rfl rfl ?_
      refine zi_istore (pc' := 15) [some _, some _, some _, some _, some _, some _] rfl rfl rfl ?_
      refine zi_wk (s_DayRun_passDry_l15 hd hr1 h (fun g15 h => ?_)) (And.intro rfl (And.intro rfl (And.intro rfl (And.intro rfl (And.intro rfl (And.intro rfl trivial))))))
      exact zi_wk (s_DayRun_passDry_b69 hd hr1 h (fun _ _ h => s_DayRun_passDry_l3_r hd hr1 hK97 f h) hK97) (And.intro rfl (And.intro rfl (And.intro rfl (And.intro rfl (And.intro rfl trivial)))))
set_option maxRecDepth 100000 in
theorem s_DayRun_passDry_l3 {E : sx_E} {d : Nat} (hd : 6 ≤ d) {r1 : Nat} (hr1 : zs_sh r1 = some (10, 20)) {K97 : zi_M → Prop} {Q : Int → zi_M → Prop} {l4 : Int} {g : zi_M} (h : ∃ f, w_DayRun_passDry_l3 r1 K97 Q f l4 g) (hK97 : ∀ (g : zi_M), K97 g → zi_W E d 35 97 [some (.ref 177), some (.ref r1), some (.ref 19), some (.ref 14), none, none] [] g (zi_Qv Q)) : zi_W E d 35 3 [some (.ref 177), some (.ref r1), some (.ref 19), some (.ref 14), some (zi_i l4), none] [] g (zi_Qv Q) := by
  obtain ⟨f, h⟩ := h
  exact s_DayRun_passDry_l3_r hd hr1 hK97 f h
set_option maxRecDepth 100000 in
theorem s_DayRun_passDry {E : sx_E} {d : Nat} (hd : 6 ≤ d) {r1 : Nat} (hr1 : zs_sh r1 = some (10, 20)) {g : zi_M} {Q : Int → zi_M → Prop} (h : w_DayRun_passDry r1 g Q) : zi_S E d 35 [.ref 177, .ref r1, .ref 19, .ref 14] g (zi_Qv Q) := by
  refine zi_Sof jf_35 [some (.ref 177), some (.ref r1), some (.ref 19), some (.ref 14), none, none] rfl (And.intro rfl (And.intro rfl (And.intro rfl (And.intro rfl trivial)))) ?_
  unfold w_DayRun_passDry at h
  refine zi_iconst (pc' := 1) rfl rfl ?_
  refine zi_istore (pc' := 3) [some _, some _, some _, some _, some _, none] rfl rfl rfl ?_
  refine zi_wk (s_DayRun_passDry_l3 hd hr1 h (fun g21 h => ?_)) (And.intro rfl (And.intro rfl (And.intro rfl (And.intro rfl (And.intro rfl trivial)))))
  exact zi_vret rfl rfl h
-- SpoutNews$DayRun.pass(LSpoutNews$World;LSpoutNews$Texts;LSpoutNews$Book;)V
noncomputable def w_DayRun_pass_l3 (r1 : Nat) (K57 : zi_M → Prop) (Q : Int → zi_M → Prop) : Nat → Int → zi_M → Prop
  | 0, _, _ => False
  | f + 1, l4, g => (zi_r l4 ∧ zi_r (g 19 10) ∧ (((g 19 10) ≤ l4 → K57 g) ∧ (l4 < (g 19 10) → ((0 ≤ l4 ∧ l4 < 16) ∧ (zi_r (g 32 l4) ∧ zi_r (g r1 17) ∧ ((¬ (g 32 l4) = (g r1 17) → w_DayRun_pass_l3 r1 K57 Q f (l4 + 1) g) ∧ ((g 32 l4) = (g r1 17) → w_World_carryOut r1 (g 33 l4) (g 34 l4) (g 35 l4) g (fun _ g7 => w_DayRun_pass_l3 r1 K57 Q f (l4 + 1) g7))))))))
noncomputable def w_DayRun_pass_b79 (r1 : Nat) (g : zi_M) (Q : Int → zi_M → Prop) : Prop := (zi_r (g r1 14) ∧ ((¬ (g r1 14) = 0 → w_DayRun_passWet r1 g (fun _ g18 => (∀ g20, g20 = zi_u g18 r1 17 (zi_w ((g18 r1 17) + 1)) → Q 0 g20))) ∧ ((g r1 14) = 0 → w_DayRun_passDry r1 g (fun _ g22 => (∀ g24, g24 = zi_u g22 r1 17 (zi_w ((g22 r1 17) + 1)) → Q 0 g24)))))
noncomputable def w_DayRun_pass (r1 : Nat) (g : zi_M) (Q : Int → zi_M → Prop) : Prop := (∃ f28, w_DayRun_pass_l3 r1 (fun g11 => w_Texts_rainOn (g11 r1 17) g11 (fun v12 g13 => (zi_r v12 ∧ ((v12 = (-1) → w_DayRun_pass_b79 r1 g13 Q) ∧ (¬ v12 = (-1) → (∀ g26, g26 = zi_u g13 r1 14 v12 → w_DayRun_pass_b79 r1 g26 Q)))))) Q f28 0 g)
set_option maxRecDepth 100000 in
theorem s_DayRun_pass_l3_r {E : sx_E} {d : Nat} (hd : 7 ≤ d) {r1 : Nat} (hr1 : zs_sh r1 = some (10, 20)) {K57 : zi_M → Prop} {Q : Int → zi_M → Prop} (hK57 : ∀ (g : zi_M), K57 g → zi_W E d 33 57 [some (.ref 177), some (.ref r1), some (.ref 19), some (.ref 14), none] [] g (zi_Qv Q)) : ∀ (f : Nat) {l4 : Int} {g : zi_M}, w_DayRun_pass_l3 r1 K57 Q f l4 g → zi_W E d 33 3 [some (.ref 177), some (.ref r1), some (.ref 19), some (.ref 14), some (zi_i l4)] [] g (zi_Qv Q)
  | 0, _, _, h => False.elim h
  | f + 1, l4, g, h => by
    refine zi_iload (pc' := 5) rfl rfl rfl ?_
    refine zi_aload_n (pc' := 6) rfl rfl rfl ?_
    refine zi_geti (pc' := 9) 10 rfl rfl rfl rfl rfl rfl ?_
    obtain ⟨o1, o2, h⟩ := h
    refine zi_icmp_ge (x := 57) (pc' := 12) rfl rfl o1 o2 (fun c10 => ?_) (fun c10 => ?_)
    · replace h := h.1 c10
      exact zi_wk (hK57 _ h) (And.intro rfl (And.intro rfl (And.intro rfl (And.intro rfl trivial))))
    · replace h := h.2 c10
      refine zi_aload_n (pc' := 13) rfl rfl rfl ?_
      refine zi_getr (pc' := 16) rfl rfl rfl rfl rfl ?_
      refine zi_iload (pc' := 18) rfl rfl rfl ?_
      obtain ⟨o3, h⟩ := h
      refine zi_iald (pc' := 19) rfl rfl rfl o3 ?_
      refine zi_aload_n (pc' := 20) rfl rfl rfl ?_
      refine zi_geti (pc' := 23) 17 rfl rfl rfl hr1 rfl rfl ?_
      obtain ⟨o4, o5, h⟩ := h
      refine zi_icmp_ne (x := 51) (pc' := 26) rfl rfl o4 o5 (fun c9 => ?_) (fun c9 => ?_)
      · replace h := h.1 c9
        refine zi_iinc (pc' := 54) [some _, some _, some _, some _, some _] rfl rfl rfl rfl ?_
        refine zi_goto (x := 3) rfl ?_
        exact zi_wk (s_DayRun_pass_l3_r hd hr1 hK57 f h) (And.intro rfl (And.intro rfl (And.intro rfl (And.intro rfl (And.intro rfl trivial)))))
      · replace h := h.2 c9
        refine zi_aload_n (pc' := 27) rfl rfl rfl ?_
        refine zi_aload_n (pc' := 28) rfl rfl rfl ?_
        refine zi_getr (pc' := 31) rfl rfl rfl rfl rfl ?_
        refine zi_iload (pc' := 33) rfl rfl rfl ?_
        refine zi_iald (pc' := 34) rfl rfl rfl o3 ?_
        refine zi_aload_n (pc' := 35) rfl rfl rfl ?_
        refine zi_getr (pc' := 38) rfl rfl rfl rfl rfl ?_
        refine zi_iload (pc' := 40) rfl rfl rfl ?_
        refine zi_iald (pc' := 41) rfl rfl rfl o3 ?_
        refine zi_aload_n (pc' := 42) rfl rfl rfl ?_
        refine zi_getr (pc' := 45) rfl rfl rfl rfl rfl ?_
        refine zi_iload (pc' := 47) rfl rfl rfl ?_
        refine zi_iald (pc' := 48) rfl rfl rfl o3 ?_
        refine zi_callV (d' := 3) (as := [_, _, _]) (pc' := 51) rfl rfl rfl hr1 (Nat.lt_of_lt_of_le (by decide) hd) (s_World_carryOut (Nat.le_refl _) hr1 h) (zi_kv (fun g7 h => ?_))
        refine zi_iinc (pc' := 54) [some _, some _, some _, some _, some _] rfl rfl rfl rfl ?_
        refine zi_goto (x := 3) rfl ?_
        exact zi_wk (s_DayRun_pass_l3_r hd hr1 hK57 f h) (And.intro rfl (And.intro rfl (And.intro rfl (And.intro rfl (And.intro rfl trivial)))))
set_option maxRecDepth 100000 in
theorem s_DayRun_pass_l3 {E : sx_E} {d : Nat} (hd : 7 ≤ d) {r1 : Nat} (hr1 : zs_sh r1 = some (10, 20)) {K57 : zi_M → Prop} {Q : Int → zi_M → Prop} {l4 : Int} {g : zi_M} (h : ∃ f, w_DayRun_pass_l3 r1 K57 Q f l4 g) (hK57 : ∀ (g : zi_M), K57 g → zi_W E d 33 57 [some (.ref 177), some (.ref r1), some (.ref 19), some (.ref 14), none] [] g (zi_Qv Q)) : zi_W E d 33 3 [some (.ref 177), some (.ref r1), some (.ref 19), some (.ref 14), some (zi_i l4)] [] g (zi_Qv Q) := by
  obtain ⟨f, h⟩ := h
  exact s_DayRun_pass_l3_r hd hr1 hK57 f h
set_option maxRecDepth 100000 in
theorem s_DayRun_pass_b79 {E : sx_E} {d : Nat} (hd : 7 ≤ d) {r1 : Nat} (hr1 : zs_sh r1 = some (10, 20)) {Q : Int → zi_M → Prop} {g : zi_M} (h : w_DayRun_pass_b79 r1 g Q) : zi_W E d 33 79 [some (.ref 177), some (.ref r1), some (.ref 19), some (.ref 14), none] [] g (zi_Qv Q) := by
  unfold w_DayRun_pass_b79 at h
  refine zi_aload_n (pc' := 80) rfl rfl rfl ?_
  refine zi_geti (pc' := 83) 14 rfl rfl rfl hr1 rfl rfl ?_
  obtain ⟨o16, h⟩ := h
  refine zi_if_ne (x := 96) (pc' := 86) rfl rfl o16  (fun c25 => ?_) (fun c25 => ?_)
  · replace h := h.1 c25
    refine zi_aload_n (pc' := 97) rfl rfl rfl ?_
    refine zi_aload_n (pc' := 98) rfl rfl rfl ?_
    refine zi_aload_n (pc' := 99) rfl rfl rfl ?_
    refine zi_aload_n (pc' := 100) rfl rfl rfl ?_
    refine zi_callV (d' := 6) (as := [_, _, _]) (pc' := 103) rfl rfl rfl rfl (Nat.lt_of_lt_of_le (by decide) hd) (s_DayRun_passWet (Nat.le_refl _) hr1 h) (zi_kv (fun g18 h => ?_))
    refine zi_aload_n (pc' := 104) rfl rfl rfl ?_
    refine zi_dup (pc' := 105) rfl rfl rfl ?_
    refine zi_geti (pc' := 108) 17 rfl rfl rfl hr1 rfl rfl ?_
    refine zi_iconst (pc' := 109) rfl rfl ?_
    refine zi_iadd (pc' := 110) rfl rfl ?_
    refine zi_wrap ?_
    refine zi_puti (pc' := 113) 17 rfl rfl rfl hr1 rfl  ?_
    replace h := h _ rfl
    exact zi_vret rfl rfl h
  · replace h := h.2 c25
    refine zi_aload_n (pc' := 87) rfl rfl rfl ?_
    refine zi_aload_n (pc' := 88) rfl rfl rfl ?_
    refine zi_aload_n (pc' := 89) rfl rfl rfl ?_
    refine zi_aload_n (pc' := 90) rfl rfl rfl ?_
    refine zi_callV (d' := 6) (as := [_, _, _]) (pc' := 93) rfl rfl rfl rfl (Nat.lt_of_lt_of_le (by decide) hd) (s_DayRun_passDry (Nat.le_refl _) hr1 h) (zi_kv (fun g22 h => ?_))
    refine zi_goto (x := 103) rfl ?_
    refine zi_aload_n (pc' := 104) rfl rfl rfl ?_
    refine zi_dup (pc' := 105) rfl rfl rfl ?_
    refine zi_geti (pc' := 108) 17 rfl rfl rfl hr1 rfl rfl ?_
    refine zi_iconst (pc' := 109) rfl rfl ?_
    refine zi_iadd (pc' := 110) rfl rfl ?_
    refine zi_wrap ?_
    refine zi_puti (pc' := 113) 17 rfl rfl rfl hr1 rfl  ?_
    replace h := h _ rfl
    exact zi_vret rfl rfl h
set_option maxRecDepth 100000 in
theorem s_DayRun_pass {E : sx_E} {d : Nat} (hd : 7 ≤ d) {r1 : Nat} (hr1 : zs_sh r1 = some (10, 20)) {g : zi_M} {Q : Int → zi_M → Prop} (h : w_DayRun_pass r1 g Q) : zi_S E d 33 [.ref 177, .ref r1, .ref 19, .ref 14] g (zi_Qv Q) := by
  refine zi_Sof jf_33 [some (.ref 177), some (.ref r1), some (.ref 19), some (.ref 14), none] rfl (And.intro rfl (And.intro rfl (And.intro rfl (And.intro rfl trivial)))) ?_
  unfold w_DayRun_pass at h
  refine zi_iconst (pc' := 1) rfl rfl ?_
  refine zi_istore (pc' := 3) [some _, some _, some _, some _, some _] rfl rfl rfl ?_
  refine zi_wk (s_DayRun_pass_l3 hd hr1 h (fun g11 h => ?_)) (And.intro rfl (And.intro rfl (And.intro rfl (And.intro rfl (And.intro rfl trivial)))))
  refine zi_aload_n (pc' := 58) rfl rfl rfl ?_
  refine zi_aload_n (pc' := 59) rfl rfl rfl ?_
  refine zi_geti (pc' := 62) 17 rfl rfl rfl hr1 rfl rfl ?_
  refine zi_callV (d' := 1) (as := [_]) (pc' := 65) rfl rfl rfl rfl (Nat.lt_of_lt_of_le (by decide) hd) (s_Texts_rainOn (Nat.le_refl _) h) (zi_ki (fun v12 g13 h => ?_))
  refine zi_istore (pc' := 67) [some _, some _, some _, some _, some _] rfl rfl rfl ?_
  refine zi_iload (pc' := 69) rfl rfl rfl ?_
  refine zi_iconst (pc' := 70) rfl rfl ?_
  obtain ⟨o15, h⟩ := h
  refine zi_icmp_eq (x := 79) (pc' := 73) rfl rfl o15 (by decide) (fun c27 => ?_) (fun c27 => ?_)
  · replace h := h.1 c27
    exact zi_wk (s_DayRun_pass_b79 hd hr1 h) (And.intro rfl (And.intro rfl (And.intro rfl (And.intro rfl trivial))))
  · replace h := h.2 c27
    refine zi_aload_n (pc' := 74) rfl rfl rfl ?_
    refine zi_iload (pc' := 76) rfl rfl rfl ?_
    refine zi_puti (pc' := 79) 14 rfl rfl rfl hr1 rfl  ?_
    replace h := h _ rfl
    exact zi_wk (s_DayRun_pass_b79 hd hr1 h) (And.intro rfl (And.intro rfl (And.intro rfl (And.intro rfl trivial))))
-- SpoutNews.days(I)I
noncomputable def w_S_days_b64 (l1 : Int) (l4 : Int) (g : zi_M) (H : Int → zi_M → Prop) (K92 : zi_M → Prop) (Q : Int → zi_M → Prop) : Prop := w_DayRun_pass 2 g (fun _ g6 => H (l4 + 1) g6)
noncomputable def w_S_days_l41 (l1 : Int) (K92 : zi_M → Prop) (Q : Int → zi_M → Prop) : Nat → Int → zi_M → Prop
  | 0, _, _ => False
  | f + 1, l4, g => (zi_r l4 ∧ zi_r l1 ∧ ((l1 ≤ l4 → K92 g) ∧ (l4 < l1 → (zi_r (l1 - l4) ∧ ((6 < (l1 - l4) → w_S_days_b64 l1 l4 g (w_S_days_l41 l1 K92 Q f) K92 Q) ∧ ((l1 - l4) ≤ 6 → w_Past_keep g (fun _ g9 => w_S_days_b64 l1 l4 g9 (w_S_days_l41 l1 K92 Q f) K92 Q)))))))
noncomputable def w_S_days (l1 : Int) (g : zi_M) (Q : Int → zi_M → Prop) : Prop := (zi_r l1 ∧ ((l1 < 1 → Q (-1) g) ∧ (1 ≤ l1 → ((60 < l1 → Q (-1) g) ∧ (l1 ≤ 60 → (((zi_w ((g 2 17) + l1)) ≤ 9999 → (∃ f14, w_S_days_l41 l1 (fun g13 => Q (zi_w ((g13 2 15) - (g 2 15))) g13) Q f14 0 g)) ∧ (9999 < (zi_w ((g 2 17) + l1)) → Q (-1) g)))))))
set_option maxRecDepth 100000 in
theorem s_S_days_b64 {E : sx_E} {d : Nat} (hd : 8 ≤ d) {l1 : Int} {l4 : Int} {x3 : Int} {H : Int → zi_M → Prop} {K92 : zi_M → Prop} {Q : Int → zi_M → Prop} {g : zi_M} (h : w_S_days_b64 l1 l4 g H K92 Q) (hH : ∀ (m4 : Int) (g : zi_M), H m4 g → zi_W E d 32 41 [some (.ref 0), some (zi_i l1), some (.ref 2), some (zi_i x3), some (zi_i m4)] [] g (zi_Q Q)) (hK92 : ∀ (g : zi_M), K92 g → zi_W E d 32 92 [some (.ref 0), some (zi_i l1), some (.ref 2), some (zi_i x3), none] [] g (zi_Q Q)) : zi_W E d 32 64 [some (.ref 0), some (zi_i l1), some (.ref 2), some (zi_i x3), some (zi_i l4)] [] g (zi_Q Q) := by
  unfold w_S_days_b64 at h
  refine zi_aload_n (pc' := 65) rfl rfl rfl ?_
  refine zi_getr (pc' := 68) rfl rfl rfl rfl rfl ?_
  refine zi_aload_n (pc' := 69) rfl rfl rfl ?_
  refine zi_aload_n (pc' := 70) rfl rfl rfl ?_
  refine zi_getr (pc' := 73) rfl rfl rfl rfl rfl ?_
  refine zi_getr (pc' := 76) rfl rfl rfl rfl rfl ?_
  refine zi_aload_n (pc' := 77) rfl rfl rfl ?_
  refine zi_getr (pc' := 80) rfl rfl rfl rfl rfl ?_
  refine zi_getr (pc' := 83) rfl rfl rfl rfl rfl ?_
  refine zi_callV (d' := 7) (as := [_, _, _]) (pc' := 86) rfl rfl rfl rfl (Nat.lt_of_lt_of_le (by decide) hd) (s_DayRun_pass (Nat.le_refl _) rfl h) (zi_kv (fun g6 h => ?_))
  refine zi_iinc (pc' := 89) [some _, some _, some _, some _, some _] rfl rfl rfl rfl ?_
  refine zi_goto (x := 41) rfl ?_
  exact zi_wk (hH _ _ h) (And.intro rfl (And.intro rfl (And.intro rfl (And.intro rfl (And.intro rfl trivial)))))
set_option maxRecDepth 100000 in
theorem s_S_days_l41_r {E : sx_E} {d : Nat} (hd : 8 ≤ d) {l1 : Int} {x3 : Int} {K92 : zi_M → Prop} {Q : Int → zi_M → Prop} (hK92 : ∀ (g : zi_M), K92 g → zi_W E d 32 92 [some (.ref 0), some (zi_i l1), some (.ref 2), some (zi_i x3), none] [] g (zi_Q Q)) : ∀ (f : Nat) {l4 : Int} {g : zi_M}, w_S_days_l41 l1 K92 Q f l4 g → zi_W E d 32 41 [some (.ref 0), some (zi_i l1), some (.ref 2), some (zi_i x3), some (zi_i l4)] [] g (zi_Q Q)
  | 0, _, _, h => False.elim h
  | f + 1, l4, g, h => by
    refine zi_iload (pc' := 43) rfl rfl rfl ?_
    refine zi_iload_n (pc' := 44) rfl rfl rfl ?_
    obtain ⟨o2, o3, h⟩ := h
    refine zi_icmp_ge (x := 92) (pc' := 47) rfl rfl o2 o3 (fun c12 => ?_) (fun c12 => ?_)
    · replace h := h.1 c12
      exact zi_wk (hK92 _ h) (And.intro rfl (And.intro rfl (And.intro rfl (And.intro rfl trivial))))
    · replace h := h.2 c12
      refine zi_iload_n (pc' := 48) rfl rfl rfl ?_
      refine zi_iload (pc' := 50) rfl rfl rfl ?_
      refine zi_isub (pc' := 51) rfl rfl ?_
      refine zi_bipush (pc' := 53) rfl rfl (by decide) ?_
      obtain ⟨o4, h⟩ := h
      refine zi_icmp_gt (x := 64) (pc' := 56) rfl rfl o4 (by decide) (fun c11 => ?_) (fun c11 => ?_)
      · replace h := h.1 c11
        exact zi_wk (s_S_days_b64 hd h (fun _ _ h => s_S_days_l41_r hd hK92 f h) hK92) (And.intro rfl (And.intro rfl (And.intro rfl (And.intro rfl (And.intro rfl trivial)))))
      · replace h := h.2 c11
        refine zi_aload_n (pc' := 57) rfl rfl rfl ?_
        refine zi_getr (pc' := 60) rfl rfl rfl rfl rfl ?_
        refine zi_aload_n (pc' := 61) rfl rfl rfl ?_
        refine zi_callV (d' := 2) (as := [_]) (pc' := 64) rfl rfl rfl rfl (Nat.lt_of_lt_of_le (by decide) hd) (s_Past_keep (Nat.le_refl _) h) (zi_kv (fun g9 h => ?_))
        exact zi_wk (s_S_days_b64 hd h (fun _ _ h => s_S_days_l41_r hd hK92 f h) hK92) (And.intro rfl (And.intro rfl (And.intro rfl (And.intro rfl (And.intro rfl trivial)))))
set_option maxRecDepth 100000 in
theorem s_S_days_l41 {E : sx_E} {d : Nat} (hd : 8 ≤ d) {l1 : Int} {x3 : Int} {K92 : zi_M → Prop} {Q : Int → zi_M → Prop} {l4 : Int} {g : zi_M} (h : ∃ f, w_S_days_l41 l1 K92 Q f l4 g) (hK92 : ∀ (g : zi_M), K92 g → zi_W E d 32 92 [some (.ref 0), some (zi_i l1), some (.ref 2), some (zi_i x3), none] [] g (zi_Q Q)) : zi_W E d 32 41 [some (.ref 0), some (zi_i l1), some (.ref 2), some (zi_i x3), some (zi_i l4)] [] g (zi_Q Q) := by
  obtain ⟨f, h⟩ := h
  exact s_S_days_l41_r hd hK92 f h
set_option maxRecDepth 100000 in
theorem s_S_days {E : sx_E} {d : Nat} (hd : 8 ≤ d) {l1 : Int} {g : zi_M} {Q : Int → zi_M → Prop} (h : w_S_days l1 g Q) : zi_S E d 32 [.ref 0, zi_i l1] g (zi_Q Q) := by
  refine zi_Sof jf_32 [some (.ref 0), some (zi_i l1), none, none, none] rfl (And.intro rfl (And.intro rfl trivial)) ?_
  unfold w_S_days at h
  refine zi_aload_n (pc' := 1) rfl rfl rfl ?_
  refine zi_getr (pc' := 4) rfl rfl rfl rfl rfl ?_
  refine zi_getr (pc' := 7) rfl rfl rfl rfl rfl ?_
  refine zi_astore_n (pc' := 8) [some _, some _, some _, none, none] rfl rfl rfl ?_
  refine zi_iload_n (pc' := 9) rfl rfl rfl ?_
  refine zi_iconst (pc' := 10) rfl rfl ?_
  obtain ⟨o1, h⟩ := h
  refine zi_icmp_lt (x := 31) (pc' := 13) rfl rfl o1 (by decide) (fun c17 => ?_) (fun c17 => ?_)
  · replace h := h.1 c17
    refine zi_iconst (pc' := 32) rfl rfl ?_
    exact zi_iret rfl rfl h
  · replace h := h.2 c17
    refine zi_iload_n (pc' := 14) rfl rfl rfl ?_
    refine zi_bipush (pc' := 16) rfl rfl (by decide) ?_
    refine zi_icmp_gt (x := 31) (pc' := 19) rfl rfl o1 (by decide) (fun c16 => ?_) (fun c16 => ?_)
    · replace h := h.1 c16
      refine zi_iconst (pc' := 32) rfl rfl ?_
      exact zi_iret rfl rfl h
    · replace h := h.2 c16
      refine zi_aload_n (pc' := 20) rfl rfl rfl ?_
      refine zi_geti (pc' := 23) 17 rfl rfl rfl rfl rfl rfl ?_
      refine zi_iload_n (pc' := 24) rfl rfl rfl ?_
      refine zi_iadd (pc' := 25) rfl rfl ?_
      refine zi_wrap ?_
      refine zi_sipush (pc' := 28) rfl rfl (by decide) ?_
      refine zi_icmp_le (x := 33) (pc' := 31) rfl rfl (zi_r_w _) (by decide) (fun c15 => ?_) (fun c15 => ?_)
      · replace h := h.1 c15
        refine zi_aload_n (pc' := 34) rfl rfl rfl ?_
        refine zi_geti (pc' := 37) 15 rfl rfl rfl rfl rfl rfl ?_
        refine zi_istore_n (pc' := 38) [some _, some _, some _, some _, none] rfl rfl rfl ?_
        refine zi_iconst (pc' := 39) rfl rfl ?_
        refine zi_istore (pc' := 41) [some _, some _, some _, some _, some _] rfl rfl rfl ?_
        refine zi_wk (s_S_days_l41 hd h (fun g13 h => ?_)) (And.intro rfl (And.intro rfl (And.intro rfl (And.intro rfl (And.intro rfl trivial)))))
        refine zi_aload_n (pc' := 93) rfl rfl rfl ?_
        refine zi_geti (pc' := 96) 15 rfl rfl rfl rfl rfl rfl ?_
        refine zi_iload_n (pc' := 97) rfl rfl rfl ?_
        refine zi_isub (pc' := 98) rfl rfl ?_
        refine zi_wrap ?_
        exact zi_iret rfl rfl h
      · replace h := h.2 c15
        refine zi_iconst (pc' := 32) rfl rfl ?_
        exact zi_iret rfl rfl h
-- SpoutNewsModel.weatherOf(I)I
noncomputable def w_M_weatherOf_l2 (l1 : Int) (K22 : Int → zi_M → Prop) (K39 : zi_M → Prop) (Q : Int → zi_M → Prop) : Nat → Int → zi_M → Prop
  | 0, _, _ => False
  | f + 1, l2, g => (zi_r l2 ∧ zi_r (g 214 37) ∧ (((g 214 37) ≤ l2 → K39 g) ∧ (l2 < (g 214 37) → ((0 ≤ (2 * l2) ∧ (2 * l2) < 64) ∧ (zi_r (g 233 (2 * l2)) ∧ zi_r l1 ∧ ((¬ (g 233 (2 * l2)) = l1 → w_M_weatherOf_l2 l1 K22 K39 Q f (l2 + 1) g) ∧ ((g 233 (2 * l2)) = l1 → K22 l2 g)))))))
noncomputable def w_M_weatherOf (l1 : Int) (g : zi_M) (Q : Int → zi_M → Prop) : Prop := (∃ f12, w_M_weatherOf_l2 l1 (fun k8 g9 => ((0 ≤ ((2 * k8) + 1) ∧ ((2 * k8) + 1) < 64) ∧ Q (g9 233 ((2 * k8) + 1)) g9)) (fun g11 => Q (-1) g11) Q f12 0 g)
set_option maxRecDepth 100000 in
theorem s_M_weatherOf_l2_r {E : sx_E} {d : Nat} (hd : 1 ≤ d) {l1 : Int} {K22 : Int → zi_M → Prop} {K39 : zi_M → Prop} {Q : Int → zi_M → Prop} (hK22 : ∀ (k2 : Int) (g : zi_M), K22 k2 g → zi_W E d 242 22 [some (.ref 214), some (zi_i l1), some (zi_i k2)] [] g (zi_Q Q)) (hK39 : ∀ (g : zi_M), K39 g → zi_W E d 242 39 [some (.ref 214), some (zi_i l1), none] [] g (zi_Q Q)) : ∀ (f : Nat) {l2 : Int} {g : zi_M}, w_M_weatherOf_l2 l1 K22 K39 Q f l2 g → zi_W E d 242 2 [some (.ref 214), some (zi_i l1), some (zi_i l2)] [] g (zi_Q Q)
  | 0, _, _, h => False.elim h
  | f + 1, l2, g, h => by
    refine zi_iload_n (pc' := 3) rfl rfl rfl ?_
    refine zi_aload_n (pc' := 4) rfl rfl rfl ?_
    refine zi_geti (pc' := 7) 37 rfl rfl rfl rfl rfl rfl ?_
    obtain ⟨o1, o2, h⟩ := h
    refine zi_icmp_ge (x := 39) (pc' := 10) rfl rfl o1 o2 (fun c7 => ?_) (fun c7 => ?_)
    · replace h := h.1 c7
      exact zi_wk (hK39 _ h) (And.intro rfl (And.intro rfl trivial))
    · replace h := h.2 c7
      refine zi_aload_n (pc' := 11) rfl rfl rfl ?_
      refine zi_getr (pc' := 14) rfl rfl rfl rfl rfl ?_
      refine zi_iconst (pc' := 15) rfl rfl ?_
      refine zi_iload_n (pc' := 16) rfl rfl rfl ?_
      refine zi_imul (pc' := 17) rfl rfl ?_
      obtain ⟨o3, h⟩ := h
      refine zi_iald (pc' := 18) rfl rfl rfl o3 ?_
      refine zi_iload_n (pc' := 19) rfl rfl rfl ?_
      obtain ⟨o4, o5, h⟩ := h
      refine zi_icmp_ne (x := 33) (pc' := 22) rfl rfl o4 o5 (fun c6 => ?_) (fun c6 => ?_)
      · replace h := h.1 c6
        refine zi_iinc (pc' := 36) [some _, some _, some _] rfl rfl rfl rfl ?_
        refine zi_goto (x := 2) rfl ?_
        exact zi_wk (s_M_weatherOf_l2_r hd hK22 hK39 f h) (And.intro rfl (And.intro rfl (And.intro rfl trivial)))
      · replace h := h.2 c6
        exact zi_wk (hK22 _ _ h) (And.intro rfl (And.intro rfl (And.intro rfl trivial)))
set_option maxRecDepth 100000 in
theorem s_M_weatherOf_l2 {E : sx_E} {d : Nat} (hd : 1 ≤ d) {l1 : Int} {K22 : Int → zi_M → Prop} {K39 : zi_M → Prop} {Q : Int → zi_M → Prop} {l2 : Int} {g : zi_M} (h : ∃ f, w_M_weatherOf_l2 l1 K22 K39 Q f l2 g) (hK22 : ∀ (k2 : Int) (g : zi_M), K22 k2 g → zi_W E d 242 22 [some (.ref 214), some (zi_i l1), some (zi_i k2)] [] g (zi_Q Q)) (hK39 : ∀ (g : zi_M), K39 g → zi_W E d 242 39 [some (.ref 214), some (zi_i l1), none] [] g (zi_Q Q)) : zi_W E d 242 2 [some (.ref 214), some (zi_i l1), some (zi_i l2)] [] g (zi_Q Q) := by
  obtain ⟨f, h⟩ := h
  exact s_M_weatherOf_l2_r hd hK22 hK39 f h
set_option maxRecDepth 100000 in
theorem s_M_weatherOf {E : sx_E} {d : Nat} (hd : 1 ≤ d) {l1 : Int} {g : zi_M} {Q : Int → zi_M → Prop} (h : w_M_weatherOf l1 g Q) : zi_S E d 242 [.ref 214, zi_i l1] g (zi_Q Q) := by
  refine zi_Sof jf_242 [some (.ref 214), some (zi_i l1), none] rfl (And.intro rfl (And.intro rfl trivial)) ?_
  unfold w_M_weatherOf at h
  refine zi_iconst (pc' := 1) rfl rfl ?_
  refine zi_istore_n (pc' := 2) [some _, some _, some _] rfl rfl rfl ?_
  refine zi_wk (s_M_weatherOf_l2 hd h (fun k8 g9 h => ?_) (fun g11 h => ?_)) (And.intro rfl (And.intro rfl (And.intro rfl trivial)))
  · refine zi_aload_n (pc' := 23) rfl rfl rfl ?_
    refine zi_getr (pc' := 26) rfl rfl rfl rfl rfl ?_
    refine zi_iconst (pc' := 27) rfl rfl ?_
    refine zi_iload_n (pc' := 28) rfl rfl rfl ?_
    refine zi_imul (pc' := 29) rfl rfl ?_
    refine zi_iconst (pc' := 30) rfl rfl ?_
    refine zi_iadd (pc' := 31) rfl rfl ?_
    obtain ⟨o10, h⟩ := h
    refine zi_iald (pc' := 32) rfl rfl rfl o10 ?_
    exact zi_iret rfl rfl h
  · refine zi_iconst (pc' := 40) rfl rfl ?_
    exact zi_iret rfl rfl h
-- SpoutNewsModel.asks(II)V
noncomputable def w_M_asks (l1 : Int) (l2 : Int) (g : zi_M) (Q : Int → zi_M → Prop) : Prop := ((0 ≤ l1 ∧ l1 < 10) ∧ (∀ g2, g2 = zi_u g 235 0 (g 218 l1) → (∀ g3, g3 = zi_u g2 235 1 (g2 219 l1) → (∀ g4, g4 = zi_u g3 235 2 (g3 220 l1) → ((0 ≤ (6 + l1) ∧ (6 + l1) < 264) ∧ (∀ g6, g6 = zi_u g4 235 3 (g4 215 (6 + l1)) → (∀ g7, g7 = zi_u g6 235 4 (g6 215 3) → ((0 ≤ (26 + l1) ∧ (26 + l1) < 264) ∧ (∀ g9, g9 = zi_u g7 235 5 (g7 215 (26 + l1)) → ((0 ≤ (16 + l1) ∧ (16 + l1) < 264) ∧ (∀ g11, g11 = zi_u g9 235 6 (g9 215 (16 + l1)) → (∀ g12, g12 = zi_u g11 235 7 l2 → (∀ g13, g13 = zi_u g12 235 8 (g12 215 0) → Q 0 g13)))))))))))))
set_option maxRecDepth 100000 in
theorem s_M_asks {E : sx_E} {d : Nat} (hd : 1 ≤ d) {l1 : Int} {l2 : Int} {g : zi_M} {Q : Int → zi_M → Prop} (h : w_M_asks l1 l2 g Q) : zi_S E d 246 [.ref 214, zi_i l1, zi_i l2] g (zi_Qv Q) := by
  refine zi_Sof jf_246 [some (.ref 214), some (zi_i l1), some (zi_i l2)] rfl (And.intro rfl (And.intro rfl (And.intro rfl trivial))) ?_
  unfold w_M_asks at h
  refine zi_aload_n (pc' := 1) rfl rfl rfl ?_
  refine zi_getr (pc' := 4) rfl rfl rfl rfl rfl ?_
  refine zi_iconst (pc' := 5) rfl rfl ?_
  refine zi_aload_n (pc' := 6) rfl rfl rfl ?_
  refine zi_getr (pc' := 9) rfl rfl rfl rfl rfl ?_
  refine zi_iload_n (pc' := 10) rfl rfl rfl ?_
  obtain ⟨o1, h⟩ := h
  refine zi_iald (pc' := 11) rfl rfl rfl o1 ?_
  refine zi_iast (pc' := 12) rfl rfl rfl (by decide) ?_
  replace h := h _ rfl
  refine zi_aload_n (pc' := 13) rfl rfl rfl ?_
  refine zi_getr (pc' := 16) rfl rfl rfl rfl rfl ?_
  refine zi_iconst (pc' := 17) rfl rfl ?_
  refine zi_aload_n (pc' := 18) rfl rfl rfl ?_
  refine zi_getr (pc' := 21) rfl rfl rfl rfl rfl ?_
  refine zi_iload_n (pc' := 22) rfl rfl rfl ?_
  refine zi_iald (pc' := 23) rfl rfl rfl o1 ?_
  refine zi_iast (pc' := 24) rfl rfl rfl (by decide) ?_
  replace h := h _ rfl
  refine zi_aload_n (pc' := 25) rfl rfl rfl ?_
  refine zi_getr (pc' := 28) rfl rfl rfl rfl rfl ?_
  refine zi_iconst (pc' := 29) rfl rfl ?_
  refine zi_aload_n (pc' := 30) rfl rfl rfl ?_
  refine zi_getr (pc' := 33) rfl rfl rfl rfl rfl ?_
  refine zi_iload_n (pc' := 34) rfl rfl rfl ?_
  refine zi_iald (pc' := 35) rfl rfl rfl o1 ?_
  refine zi_iast (pc' := 36) rfl rfl rfl (by decide) ?_
  replace h := h _ rfl
  refine zi_aload_n (pc' := 37) rfl rfl rfl ?_
  refine zi_getr (pc' := 40) rfl rfl rfl rfl rfl ?_
  refine zi_iconst (pc' := 41) rfl rfl ?_
  refine zi_aload_n (pc' := 42) rfl rfl rfl ?_
  refine zi_getr (pc' := 45) rfl rfl rfl rfl rfl ?_
  refine zi_bipush (pc' := 47) rfl rfl (by decide) ?_
  refine zi_iload_n (pc' := 48) rfl rfl rfl ?_
  refine zi_iadd (pc' := 49) rfl rfl ?_
  obtain ⟨o5, h⟩ := h
  refine zi_iald (pc' := 50) rfl rfl rfl o5 ?_
  refine zi_iast (pc' := 51) rfl rfl rfl (by decide) ?_
  replace h := h _ rfl
  refine zi_aload_n (pc' := 52) rfl rfl rfl ?_
  refine zi_getr (pc' := 55) rfl rfl rfl rfl rfl ?_
  refine zi_iconst (pc' := 56) rfl rfl ?_
  refine zi_aload_n (pc' := 57) rfl rfl rfl ?_
  refine zi_getr (pc' := 60) rfl rfl rfl rfl rfl ?_
  refine zi_iconst (pc' := 61) rfl rfl ?_
  refine zi_iald (pc' := 62) rfl rfl rfl (by decide) ?_
  refine zi_iast (pc' := 63) rfl rfl rfl (by decide) ?_
  replace h := h _ rfl
  refine zi_aload_n (pc' := 64) rfl rfl rfl ?_
  refine zi_getr (pc' := 67) rfl rfl rfl rfl rfl ?_
  refine zi_iconst (pc' := 68) rfl rfl ?_
  refine zi_aload_n (pc' := 69) rfl rfl rfl ?_
  refine zi_getr (pc' := 72) rfl rfl rfl rfl rfl ?_
  refine zi_bipush (pc' := 74) rfl rfl (by decide) ?_
  refine zi_iload_n (pc' := 75) rfl rfl rfl ?_
  refine zi_iadd (pc' := 76) rfl rfl ?_
  obtain ⟨o8, h⟩ := h
  refine zi_iald (pc' := 77) rfl rfl rfl o8 ?_
  refine zi_iast (pc' := 78) rfl rfl rfl (by decide) ?_
  replace h := h _ rfl
  refine zi_aload_n (pc' := 79) rfl rfl rfl ?_
  refine zi_getr (pc' := 82) rfl rfl rfl rfl rfl ?_
  refine zi_bipush (pc' := 84) rfl rfl (by decide) ?_
  refine zi_aload_n (pc' := 85) rfl rfl rfl ?_
  refine zi_getr (pc' := 88) rfl rfl rfl rfl rfl ?_
  refine zi_bipush (pc' := 90) rfl rfl (by decide) ?_
  refine zi_iload_n (pc' := 91) rfl rfl rfl ?_
  refine zi_iadd (pc' := 92) rfl rfl ?_
  obtain ⟨o10, h⟩ := h
  refine zi_iald (pc' := 93) rfl rfl rfl o10 ?_
  refine zi_iast (pc' := 94) rfl rfl rfl (by decide) ?_
  replace h := h _ rfl
  refine zi_aload_n (pc' := 95) rfl rfl rfl ?_
  refine zi_getr (pc' := 98) rfl rfl rfl rfl rfl ?_
  refine zi_bipush (pc' := 100) rfl rfl (by decide) ?_
  refine zi_iload_n (pc' := 101) rfl rfl rfl ?_
  refine zi_iast (pc' := 102) rfl rfl rfl (by decide) ?_
  replace h := h _ rfl
  refine zi_aload_n (pc' := 103) rfl rfl rfl ?_
  refine zi_getr (pc' := 106) rfl rfl rfl rfl rfl ?_
  refine zi_bipush (pc' := 108) rfl rfl (by decide) ?_
  refine zi_aload_n (pc' := 109) rfl rfl rfl ?_
  refine zi_getr (pc' := 112) rfl rfl rfl rfl rfl ?_
  refine zi_iconst (pc' := 113) rfl rfl ?_
  refine zi_iald (pc' := 114) rfl rfl rfl (by decide) ?_
  refine zi_iast (pc' := 115) rfl rfl rfl (by decide) ?_
  replace h := h _ rfl
  exact zi_vret rfl rfl h
-- SpoutNewsModel.twoOf(III)I
noncomputable def w_M_twoOf (l1 : Int) (l2 : Int) (l3 : Int) (g : zi_M) (Q : Int → zi_M → Prop) : Prop := (zi_r l1 ∧ ((¬ l1 = 2 → ((¬ l1 = 3 → ((¬ l1 = 4 → ((¬ l1 = 5 → ((¬ l1 = 6 → ((¬ l1 = 7 → ((¬ l1 = 8 → ((¬ l1 = 10 → (((zi_w (l2 + l3)) ≤ 0 → Q 0 g) ∧ (0 < (zi_w (l2 + l3)) → Q 1 g))) ∧ (l1 = 10 → Q (zi_w (l2 * l3)) g))) ∧ (l1 = 8 → (zi_r l2 ∧ zi_r l3 ∧ ((l2 ≤ l3 → Q 0 g) ∧ (l3 < l2 → Q 1 g)))))) ∧ (l1 = 7 → (zi_r l2 ∧ zi_r l3 ∧ ((¬ l2 = l3 → Q 0 g) ∧ (l2 = l3 → Q 1 g)))))) ∧ (l1 = 6 → (zi_r l2 ∧ zi_r l3 ∧ ((l3 ≤ l2 → Q 0 g) ∧ (l2 < l3 → Q 1 g)))))) ∧ (l1 = 5 → (zi_r l2 ∧ zi_r l3 ∧ l3 ≠ 0 ∧ Q (Int.tdiv l2 l3) g)))) ∧ (l1 = 4 → Q (zi_w (l2 * l3)) g))) ∧ (l1 = 3 → Q (zi_w (l2 - l3)) g))) ∧ (l1 = 2 → Q (zi_w (l2 + l3)) g)))
set_option maxRecDepth 100000 in
theorem s_M_twoOf {E : sx_E} {d : Nat} (hd : 1 ≤ d) {l1 : Int} {l2 : Int} {l3 : Int} {g : zi_M} {Q : Int → zi_M → Prop} (h : w_M_twoOf l1 l2 l3 g Q) : zi_S E d 250 [.ref 214, zi_i l1, zi_i l2, zi_i l3] g (zi_Q Q) := by
  refine zi_Sof jf_250 [some (.ref 214), some (zi_i l1), some (zi_i l2), some (zi_i l3)] rfl (And.intro rfl (And.intro rfl (And.intro rfl (And.intro rfl trivial)))) ?_
  unfold w_M_twoOf at h
  refine zi_iload_n (pc' := 1) rfl rfl rfl ?_
  refine zi_iconst (pc' := 2) rfl rfl ?_
  obtain ⟨o1, h⟩ := h
  refine zi_icmp_ne (x := 9) (pc' := 5) rfl rfl o1 (by decide) (fun c22 => ?_) (fun c22 => ?_)
  · replace h := h.1 c22
    refine zi_iload_n (pc' := 10) rfl rfl rfl ?_
    refine zi_iconst (pc' := 11) rfl rfl ?_
    refine zi_icmp_ne (x := 18) (pc' := 14) rfl rfl o1 (by decide) (fun c21 => ?_) (fun c21 => ?_)
    · replace h := h.1 c21
      refine zi_iload_n (pc' := 19) rfl rfl rfl ?_
      refine zi_iconst (pc' := 20) rfl rfl ?_
      refine zi_icmp_ne (x := 27) (pc' := 23) rfl rfl o1 (by decide) (fun c20 => ?_) (fun c20 => ?_)
      · replace h := h.1 c20
        refine zi_iload_n (pc' := 28) rfl rfl rfl ?_
        refine zi_iconst (pc' := 29) rfl rfl ?_
        refine zi_icmp_ne (x := 36) (pc' := 32) rfl rfl o1 (by decide) (fun c19 => ?_) (fun c19 => ?_)
        · replace h := h.1 c19
          refine zi_iload_n (pc' := 37) rfl rfl rfl ?_
          refine zi_bipush (pc' := 39) rfl rfl (by decide) ?_
          refine zi_icmp_ne (x := 53) (pc' := 42) rfl rfl o1 (by decide) (fun c15 => ?_) (fun c15 => ?_)
          · replace h := h.1 c15
            refine zi_iload_n (pc' := 54) rfl rfl rfl ?_
            refine zi_bipush (pc' := 56) rfl rfl (by decide) ?_
            refine zi_icmp_ne (x := 70) (pc' := 59) rfl rfl o1 (by decide) (fun c11 => ?_) (fun c11 => ?_)
            · replace h := h.1 c11
              refine zi_iload_n (pc' := 71) rfl rfl rfl ?_
              refine zi_bipush (pc' := 73) rfl rfl (by decide) ?_
              refine zi_icmp_ne (x := 87) (pc' := 76) rfl rfl o1 (by decide) (fun c7 => ?_) (fun c7 => ?_)
              · replace h := h.1 c7
                refine zi_iload_n (pc' := 88) rfl rfl rfl ?_
                refine zi_bipush (pc' := 90) rfl rfl (by decide) ?_
                refine zi_icmp_ne (x := 99) (pc' := 93) rfl rfl o1 (by decide) (fun c3 => ?_) (fun c3 => ?_)
                · replace h := h.1 c3
                  refine zi_iload_n (pc' := 100) rfl rfl rfl ?_
                  refine zi_iload_n (pc' := 101) rfl rfl rfl ?_
                  refine zi_iadd (pc' := 102) rfl rfl ?_
                  refine zi_wrap ?_
                  refine zi_if_le (x := 109) (pc' := 105) rfl rfl (zi_r_w _)  (fun c2 => ?_) (fun c2 => ?_)
                  · replace h := h.1 c2
                    refine zi_iconst (pc' := 110) rfl rfl ?_
                    exact zi_iret rfl rfl h
                  · replace h := h.2 c2
                    refine zi_iconst (pc' := 106) rfl rfl ?_
                    refine zi_goto (x := 110) rfl ?_
                    exact zi_iret rfl rfl h
                · replace h := h.2 c3
                  refine zi_iload_n (pc' := 94) rfl rfl rfl ?_
                  refine zi_iload_n (pc' := 95) rfl rfl rfl ?_
                  refine zi_imul (pc' := 96) rfl rfl ?_
                  refine zi_wrap ?_
                  refine zi_goto (x := 110) rfl ?_
                  exact zi_iret rfl rfl h
              · replace h := h.2 c7
                refine zi_iload_n (pc' := 77) rfl rfl rfl ?_
                refine zi_iload_n (pc' := 78) rfl rfl rfl ?_
                obtain ⟨o4, o5, h⟩ := h
                refine zi_icmp_le (x := 85) (pc' := 81) rfl rfl o4 o5 (fun c6 => ?_) (fun c6 => ?_)
                · replace h := h.1 c6
                  refine zi_iconst (pc' := 86) rfl rfl ?_
                  exact zi_iret rfl rfl h
                · replace h := h.2 c6
                  refine zi_iconst (pc' := 82) rfl rfl ?_
                  refine zi_goto (x := 86) rfl ?_
                  exact zi_iret rfl rfl h
            · replace h := h.2 c11
              refine zi_iload_n (pc' := 60) rfl rfl rfl ?_
              refine zi_iload_n (pc' := 61) rfl rfl rfl ?_
              obtain ⟨o8, o9, h⟩ := h
              refine zi_icmp_ne (x := 68) (pc' := 64) rfl rfl o8 o9 (fun c10 => ?_) (fun c10 => ?_)
              · replace h := h.1 c10
                refine zi_iconst (pc' := 69) rfl rfl ?_
                exact zi_iret rfl rfl h
              · replace h := h.2 c10
                refine zi_iconst (pc' := 65) rfl rfl ?_
                refine zi_goto (x := 69) rfl ?_
                exact zi_iret rfl rfl h
          · replace h := h.2 c15
            refine zi_iload_n (pc' := 43) rfl rfl rfl ?_
            refine zi_iload_n (pc' := 44) rfl rfl rfl ?_
            obtain ⟨o12, o13, h⟩ := h
            refine zi_icmp_ge (x := 51) (pc' := 47) rfl rfl o12 o13 (fun c14 => ?_) (fun c14 => ?_)
            · replace h := h.1 c14
              refine zi_iconst (pc' := 52) rfl rfl ?_
              exact zi_iret rfl rfl h
            · replace h := h.2 c14
              refine zi_iconst (pc' := 48) rfl rfl ?_
              refine zi_goto (x := 52) rfl ?_
              exact zi_iret rfl rfl h
        · replace h := h.2 c19
          refine zi_iload_n (pc' := 33) rfl rfl rfl ?_
          refine zi_iload_n (pc' := 34) rfl rfl rfl ?_
          obtain ⟨o16, o17, o18, h⟩ := h
          refine zi_idiv (pc' := 35) rfl rfl o16 o17 o18 ?_
          exact zi_iret rfl rfl h
      · replace h := h.2 c20
        refine zi_iload_n (pc' := 24) rfl rfl rfl ?_
        refine zi_iload_n (pc' := 25) rfl rfl rfl ?_
        refine zi_imul (pc' := 26) rfl rfl ?_
        refine zi_wrap ?_
        exact zi_iret rfl rfl h
    · replace h := h.2 c21
      refine zi_iload_n (pc' := 15) rfl rfl rfl ?_
      refine zi_iload_n (pc' := 16) rfl rfl rfl ?_
      refine zi_isub (pc' := 17) rfl rfl ?_
      refine zi_wrap ?_
      exact zi_iret rfl rfl h
  · replace h := h.2 c22
    refine zi_iload_n (pc' := 6) rfl rfl rfl ?_
    refine zi_iload_n (pc' := 7) rfl rfl rfl ?_
    refine zi_iadd (pc' := 8) rfl rfl ?_
    refine zi_wrap ?_
    exact zi_iret rfl rfl h
-- SpoutNewsModel.runs(III)I
noncomputable def w_M_runs_b45 (l1 : Int) (l3 : Int) (l4 : Int) (l5 : Int) (g : zi_M) (H : Int → Int → zi_M → Prop) (K176 : zi_M → Prop) (Q : Int → zi_M → Prop) : Prop := ((0 ≤ l5 ∧ l5 < 1200) ∧ (zi_r (g 229 l5) ∧ ((¬ (g 229 l5) = 0 → ((0 ≤ (g 230 l5) ∧ (g 230 l5) < 9) ∧ ((0 ≤ l4 ∧ l4 < 420) ∧ (∀ g9, g9 = zi_u g 236 l4 (g 235 (g 230 l5)) → H (l4 + 1) (l5 + 1) g9)))) ∧ ((g 229 l5) = 0 → ((0 ≤ l4 ∧ l4 < 420) ∧ (∀ g11, g11 = zi_u g 236 l4 (g 230 l5) → H (l4 + 1) (l5 + 1) g11))))))
noncomputable def w_M_runs_l12 (l1 : Int) (l3 : Int) (K176 : zi_M → Prop) (Q : Int → zi_M → Prop) : Nat → Int → Int → zi_M → Prop
  | 0, _, _, _ => False
  | f + 1, l4, l5, g => (zi_r l5 ∧ zi_r ((400 * l1) + l3) ∧ ((((400 * l1) + l3) ≤ l5 → K176 g) ∧ (l5 < ((400 * l1) + l3) → ((0 ≤ l5 ∧ l5 < 1200) ∧ (zi_r (g 229 l5) ∧ (((g 229 l5) = 0 → w_M_runs_b45 l1 l3 l4 l5 g (w_M_runs_l12 l1 l3 K176 Q f) K176 Q) ∧ (¬ (g 229 l5) = 0 → ((¬ (g 229 l5) = 1 → ((¬ (g 229 l5) = 9 → ((0 ≤ ((l4 - 1) - 1) ∧ ((l4 - 1) - 1) < 420) ∧ ((0 ≤ (l4 - 1) ∧ (l4 - 1) < 420) ∧ w_M_twoOf (g 229 l5) (g 236 ((l4 - 1) - 1)) (g 236 (l4 - 1)) g (fun v15 g16 => (∀ g18, g18 = zi_u g16 236 ((l4 - 1) - 1) v15 → w_M_runs_l12 l1 l3 K176 Q f (l4 - 1) (l5 + 1) g18))))) ∧ ((g 229 l5) = 9 → ((0 ≤ (l4 - 1) ∧ (l4 - 1) < 420) ∧ (∀ g20, g20 = zi_u g 236 (l4 - 1) (zi_w (1 - (g 236 (l4 - 1)))) → w_M_runs_l12 l1 l3 K176 Q f l4 (l5 + 1) g20))))) ∧ ((g 229 l5) = 1 → w_M_runs_b45 l1 l3 l4 l5 g (w_M_runs_l12 l1 l3 K176 Q f) K176 Q)))))))))
noncomputable def w_M_runs (l1 : Int) (l2 : Int) (l3 : Int) (g : zi_M) (Q : Int → zi_M → Prop) : Prop := (∃ f26, w_M_runs_l12 l1 l3 (fun g25 => Q (g25 236 0) g25) Q f26 0 ((400 * l1) + l2) g)
set_option maxRecDepth 100000 in
theorem s_M_runs_b45 {E : sx_E} {d : Nat} (hd : 2 ≤ d) {l1 : Int} {l3 : Int} {l4 : Int} {l5 : Int} {H : Int → Int → zi_M → Prop} {K176 : zi_M → Prop} {Q : Int → zi_M → Prop} {g : zi_M} (h : w_M_runs_b45 l1 l3 l4 l5 g H K176 Q) (hH : ∀ (m4 : Int) (m5 : Int) (g : zi_M), H m4 m5 g → zi_W E d 249 12 [some (.ref 214), some (zi_i l1), none, some (zi_i l3), some (zi_i m4), some (zi_i m5)] [] g (zi_Q Q)) (hK176 : ∀ (g : zi_M), K176 g → zi_W E d 249 176 [some (.ref 214), some (zi_i l1), none, some (zi_i l3), none, none] [] g (zi_Q Q)) : zi_W E d 249 45 [some (.ref 214), some (zi_i l1), none, some (zi_i l3), some (zi_i l4), some (zi_i l5)] [] g (zi_Q Q) := by
  unfold w_M_runs_b45 at h
  refine zi_aload_n (pc' := 46) rfl rfl rfl ?_
  refine zi_getr (pc' := 49) rfl rfl rfl rfl rfl ?_
  refine zi_iload (pc' := 51) rfl rfl rfl ?_
  refine zi_aload_n (pc' := 52) rfl rfl rfl ?_
  refine zi_getr (pc' := 55) rfl rfl rfl rfl rfl ?_
  refine zi_iload (pc' := 57) rfl rfl rfl ?_
  obtain ⟨o5, h⟩ := h
  refine zi_iald (pc' := 58) rfl rfl rfl o5 ?_
  obtain ⟨o6, h⟩ := h
  refine zi_if_ne (x := 71) (pc' := 61) rfl rfl o6  (fun c12 => ?_) (fun c12 => ?_)
  · replace h := h.1 c12
    refine zi_aload_n (pc' := 72) rfl rfl rfl ?_
    refine zi_getr (pc' := 75) rfl rfl rfl rfl rfl ?_
    refine zi_aload_n (pc' := 76) rfl rfl rfl ?_
    refine zi_getr (pc' := 79) rfl rfl rfl rfl rfl ?_
    refine zi_iload (pc' := 81) rfl rfl rfl ?_
    refine zi_iald (pc' := 82) rfl rfl rfl o5 ?_
    obtain ⟨o7, h⟩ := h
    refine zi_iald (pc' := 83) rfl rfl rfl o7 ?_
    obtain ⟨o8, h⟩ := h
    refine zi_iast (pc' := 84) rfl rfl rfl o8 ?_
    replace h := h _ rfl
    refine zi_iload (pc' := 86) rfl rfl rfl ?_
    refine zi_iconst (pc' := 87) rfl rfl ?_
    refine zi_iadd (pc' := 88) rfl rfl ?_
    refine zi_istore (pc' := 90) [some _, some _, none, some _, some _, some _] rfl rfl rfl ?_
    refine zi_goto (x := 170) rfl ?_
    refine zi_iinc (pc' := 173) [some _, some _, none, some _, some _, some _] rfl rfl rfl rfl ?_
    refine zi_goto (x := 12) rfl ?_
    exact zi_wk (hH _ _ _ h) (And.intro rfl (And.intro rfl (And.intro rfl (And.intro rfl (And.intro rfl trivial)))))
  · replace h := h.2 c12
    refine zi_aload_n (pc' := 62) rfl rfl rfl ?_
    refine zi_getr (pc' := 65) rfl rfl rfl rfl rfl ?_
    refine zi_iload (pc' := 67) rfl rfl rfl ?_
    refine zi_iald (pc' := 68) rfl rfl rfl o5 ?_
    refine zi_goto (x := 83) rfl ?_
    obtain ⟨o10, h⟩ := h
    refine zi_iast (pc' := 84) rfl rfl rfl o10 ?_
    replace h := h _ rfl
    refine zi_iload (pc' := 86) rfl rfl rfl ?_
    refine zi_iconst (pc' := 87) rfl rfl ?_
    refine zi_iadd (pc' := 88) rfl rfl ?_
    refine zi_istore (pc' := 90) [some _, some _, none, some _, some _, some _] rfl rfl rfl ?_
    refine zi_goto (x := 170) rfl ?_
    refine zi_iinc (pc' := 173) [some _, some _, none, some _, some _, some _] rfl rfl rfl rfl ?_
    refine zi_goto (x := 12) rfl ?_
    exact zi_wk (hH _ _ _ h) (And.intro rfl (And.intro rfl (And.intro rfl (And.intro rfl (And.intro rfl trivial)))))
set_option maxRecDepth 100000 in
theorem s_M_runs_l12_r {E : sx_E} {d : Nat} (hd : 2 ≤ d) {l1 : Int} {l3 : Int} {K176 : zi_M → Prop} {Q : Int → zi_M → Prop} (hK176 : ∀ (g : zi_M), K176 g → zi_W E d 249 176 [some (.ref 214), some (zi_i l1), none, some (zi_i l3), none, none] [] g (zi_Q Q)) : ∀ (f : Nat) {l4 : Int} {l5 : Int} {g : zi_M}, w_M_runs_l12 l1 l3 K176 Q f l4 l5 g → zi_W E d 249 12 [some (.ref 214), some (zi_i l1), none, some (zi_i l3), some (zi_i l4), some (zi_i l5)] [] g (zi_Q Q)
  | 0, _, _, _, h => False.elim h
  | f + 1, l4, l5, g, h => by
    refine zi_iload (pc' := 14) rfl rfl rfl ?_
    refine zi_sipush (pc' := 17) rfl rfl (by decide) ?_
    refine zi_iload_n (pc' := 18) rfl rfl rfl ?_
    refine zi_imul (pc' := 19) rfl rfl ?_
    refine zi_iload_n (pc' := 20) rfl rfl rfl ?_
    refine zi_iadd (pc' := 21) rfl rfl ?_
    obtain ⟨o1, o2, h⟩ := h
    refine zi_icmp_ge (x := 176) (pc' := 24) rfl rfl o1 o2 (fun c24 => ?_) (fun c24 => ?_)
    · replace h := h.1 c24
      exact zi_wk (hK176 _ h) (And.intro rfl (And.intro rfl (And.intro rfl trivial)))
    · replace h := h.2 c24
      refine zi_aload_n (pc' := 25) rfl rfl rfl ?_
      refine zi_getr (pc' := 28) rfl rfl rfl rfl rfl ?_
      refine zi_iload (pc' := 30) rfl rfl rfl ?_
      obtain ⟨o3, h⟩ := h
      refine zi_iald (pc' := 31) rfl rfl rfl o3 ?_
      obtain ⟨o4, h⟩ := h
      refine zi_if_eq (x := 45) (pc' := 34) rfl rfl o4  (fun c23 => ?_) (fun c23 => ?_)
      · replace h := h.1 c23
        exact zi_wk (s_M_runs_b45 hd h (fun _ _ _ h => s_M_runs_l12_r hd hK176 f h) hK176) (And.intro rfl (And.intro rfl (And.intro rfl (And.intro rfl (And.intro rfl trivial)))))
      · replace h := h.2 c23
        refine zi_aload_n (pc' := 35) rfl rfl rfl ?_
        refine zi_getr (pc' := 38) rfl rfl rfl rfl rfl ?_
        refine zi_iload (pc' := 40) rfl rfl rfl ?_
        refine zi_iald (pc' := 41) rfl rfl rfl o3 ?_
        refine zi_iconst (pc' := 42) rfl rfl ?_
        refine zi_icmp_ne (x := 93) (pc' := 45) rfl rfl o4 (by decide) (fun c22 => ?_) (fun c22 => ?_)
        · replace h := h.1 c22
          refine zi_aload_n (pc' := 94) rfl rfl rfl ?_
          refine zi_getr (pc' := 97) rfl rfl rfl rfl rfl ?_
          refine zi_iload (pc' := 99) rfl rfl rfl ?_
          refine zi_iald (pc' := 100) rfl rfl rfl o3 ?_
          refine zi_bipush (pc' := 102) rfl rfl (by decide) ?_
          refine zi_icmp_ne (x := 128) (pc' := 105) rfl rfl o4 (by decide) (fun c21 => ?_) (fun c21 => ?_)
          · replace h := h.1 c21
            refine zi_iload (pc' := 130) rfl rfl rfl ?_
            refine zi_iconst (pc' := 131) rfl rfl ?_
            refine zi_isub (pc' := 132) rfl rfl ?_
            refine zi_istore (pc' := 134) [some _, some _, none, some _, some _, some _] rfl rfl rfl ?_
            refine zi_aload_n (pc' := 135) rfl rfl rfl ?_
            refine zi_getr (pc' := 138) rfl rfl rfl rfl rfl ?_
            refine zi_iload (pc' := 140) rfl rfl rfl ?_
            refine zi_iconst (pc' := 141) rfl rfl ?_
            refine zi_isub (pc' := 142) rfl rfl ?_
            refine zi_aload_n (pc' := 143) rfl rfl rfl ?_
            refine zi_aload_n (pc' := 144) rfl rfl rfl ?_
            refine zi_getr (pc' := 147) rfl rfl rfl rfl rfl ?_
            refine zi_iload (pc' := 149) rfl rfl rfl ?_
            refine zi_iald (pc' := 150) rfl rfl rfl o3 ?_
            refine zi_aload_n (pc' := 151) rfl rfl rfl ?_
            refine zi_getr (pc' := 154) rfl rfl rfl rfl rfl ?_
            refine zi_iload (pc' := 156) rfl rfl rfl ?_
            refine zi_iconst (pc' := 157) rfl rfl ?_
            refine zi_isub (pc' := 158) rfl rfl ?_
            obtain ⟨o13, h⟩ := h
            refine zi_iald (pc' := 159) rfl rfl rfl o13 ?_
            refine zi_aload_n (pc' := 160) rfl rfl rfl ?_
            refine zi_getr (pc' := 163) rfl rfl rfl rfl rfl ?_
            refine zi_iload (pc' := 165) rfl rfl rfl ?_
            obtain ⟨o14, h⟩ := h
            refine zi_iald (pc' := 166) rfl rfl rfl o14 ?_
            refine zi_callV (d' := 1) (as := [_, _, _]) (pc' := 169) rfl rfl rfl rfl (Nat.lt_of_lt_of_le (by decide) hd) (s_M_twoOf (Nat.le_refl _) h) (zi_ki (fun v15 g16 h => ?_))
            refine zi_iast (pc' := 170) rfl rfl rfl o13 ?_
            replace h := h _ rfl
            refine zi_iinc (pc' := 173) [some _, some _, none, some _, some _, some _] rfl rfl rfl rfl ?_
            refine zi_goto (x := 12) rfl ?_
            exact zi_wk (s_M_runs_l12_r hd hK176 f h) (And.intro rfl (And.intro rfl (And.intro rfl (And.intro rfl (And.intro rfl trivial)))))
          · replace h := h.2 c21
            refine zi_aload_n (pc' := 106) rfl rfl rfl ?_
            refine zi_getr (pc' := 109) rfl rfl rfl rfl rfl ?_
            refine zi_iload (pc' := 111) rfl rfl rfl ?_
            refine zi_iconst (pc' := 112) rfl rfl ?_
            refine zi_isub (pc' := 113) rfl rfl ?_
            refine zi_iconst (pc' := 114) rfl rfl ?_
            refine zi_aload_n (pc' := 115) rfl rfl rfl ?_
            refine zi_getr (pc' := 118) rfl rfl rfl rfl rfl ?_
            refine zi_iload (pc' := 120) rfl rfl rfl ?_
            refine zi_iconst (pc' := 121) rfl rfl ?_
            refine zi_isub (pc' := 122) rfl rfl ?_
            obtain ⟨o19, h⟩ := h
            refine zi_iald (pc' := 123) rfl rfl rfl o19 ?_
            refine zi_isub (pc' := 124) rfl rfl ?_
            refine zi_wrap ?_
            refine zi_iast (pc' := 125) rfl rfl rfl o19 ?_
            replace h := h _ rfl
            refine zi_goto (x := 170) rfl ?_
            refine zi_iinc (pc' := 173) [some _, some _, none, some _, some _, some _] rfl rfl rfl rfl ?_
            refine zi_goto (x := 12) rfl ?_
            exact zi_wk (s_M_runs_l12_r hd hK176 f h) (And.intro rfl (And.intro rfl (And.intro rfl (And.intro rfl (And.intro rfl trivial)))))
        · replace h := h.2 c22
          exact zi_wk (s_M_runs_b45 hd h (fun _ _ _ h => s_M_runs_l12_r hd hK176 f h) hK176) (And.intro rfl (And.intro rfl (And.intro rfl (And.intro rfl (And.intro rfl trivial)))))
set_option maxRecDepth 100000 in
theorem s_M_runs_l12 {E : sx_E} {d : Nat} (hd : 2 ≤ d) {l1 : Int} {l3 : Int} {K176 : zi_M → Prop} {Q : Int → zi_M → Prop} {l4 : Int} {l5 : Int} {g : zi_M} (h : ∃ f, w_M_runs_l12 l1 l3 K176 Q f l4 l5 g) (hK176 : ∀ (g : zi_M), K176 g → zi_W E d 249 176 [some (.ref 214), some (zi_i l1), none, some (zi_i l3), none, none] [] g (zi_Q Q)) : zi_W E d 249 12 [some (.ref 214), some (zi_i l1), none, some (zi_i l3), some (zi_i l4), some (zi_i l5)] [] g (zi_Q Q) := by
  obtain ⟨f, h⟩ := h
  exact s_M_runs_l12_r hd hK176 f h
set_option maxRecDepth 100000 in
theorem s_M_runs {E : sx_E} {d : Nat} (hd : 2 ≤ d) {l1 : Int} {l2 : Int} {l3 : Int} {g : zi_M} {Q : Int → zi_M → Prop} (h : w_M_runs l1 l2 l3 g Q) : zi_S E d 249 [.ref 214, zi_i l1, zi_i l2, zi_i l3] g (zi_Q Q) := by
  refine zi_Sof jf_249 [some (.ref 214), some (zi_i l1), some (zi_i l2), some (zi_i l3), none, none] rfl (And.intro rfl (And.intro rfl (And.intro rfl (And.intro rfl trivial)))) ?_
  unfold w_M_runs at h
  refine zi_iconst (pc' := 1) rfl rfl ?_
  refine zi_istore (pc' := 3) [some _, some _, some _, some _, some _, none] rfl rfl rfl ?_
  refine zi_sipush (pc' := 6) rfl rfl (by decide) ?_
  refine zi_iload_n (pc' := 7) rfl rfl rfl ?_
  refine zi_imul (pc' := 8) rfl rfl ?_
  refine zi_iload_n (pc' := 9) rfl rfl rfl ?_
  refine zi_iadd (pc' := 10) rfl rfl ?_
  refine zi_istore (pc' := 12) [some _, some _, some _, some _, some _, some _] rfl rfl rfl ?_
  refine zi_wk (s_M_runs_l12 hd h (fun g25 h => ?_)) (And.intro rfl (And.intro rfl (And.intro rfl (And.intro rfl (And.intro rfl trivial)))))
  refine zi_aload_n (pc' := 177) rfl rfl rfl ?_
  refine zi_getr (pc' := 180) rfl rfl rfl rfl rfl ?_
  refine zi_iconst (pc' := 181) rfl rfl ?_
  refine zi_iald (pc' := 182) rfl rfl rfl (by decide) ?_
  exact zi_iret rfl rfl h
-- SpoutNewsModel.lineOf(I)I
noncomputable def w_M_lineOf_l2 (l1 : Int) (K57 : Int → zi_M → Prop) (K65 : zi_M → Prop) (Q : Int → zi_M → Prop) : Nat → Int → zi_M → Prop
  | 0, _, _ => False
  | f + 1, l2, g => (zi_r l2 ∧ zi_r (g 224 0) ∧ (((g 224 0) ≤ l2 → K65 g) ∧ (l2 < (g 224 0) → ((0 ≤ l2 ∧ l2 < 48) ∧ (zi_r (g 225 l2) ∧ zi_r l1 ∧ ((¬ (g 225 l2) = l1 → w_M_lineOf_l2 l1 K57 K65 Q f (l2 + 1) g) ∧ ((g 225 l2) = l1 → (zi_r (g 227 l2) ∧ zi_r (g 228 l2) ∧ (((g 227 l2) = (g 228 l2) → K57 l2 g) ∧ (¬ (g 227 l2) = (g 228 l2) → w_M_runs 0 (g 227 l2) (g 228 l2) g (fun v8 g9 => (zi_r v8 ∧ ((v8 = 0 → w_M_lineOf_l2 l1 K57 K65 Q f (l2 + 1) g9) ∧ (¬ v8 = 0 → K57 l2 g9))))))))))))))
noncomputable def w_M_lineOf (l1 : Int) (g : zi_M) (Q : Int → zi_M → Prop) : Prop := (∃ f19, w_M_lineOf_l2 l1 (fun k16 g17 => Q k16 g17) (fun g18 => Q (-1) g18) Q f19 0 g)
set_option maxRecDepth 100000 in
theorem s_M_lineOf_l2_r {E : sx_E} {d : Nat} (hd : 3 ≤ d) {l1 : Int} {K57 : Int → zi_M → Prop} {K65 : zi_M → Prop} {Q : Int → zi_M → Prop} (hK57 : ∀ (k2 : Int) (g : zi_M), K57 k2 g → zi_W E d 248 57 [some (.ref 214), some (zi_i l1), some (zi_i k2)] [] g (zi_Q Q)) (hK65 : ∀ (g : zi_M), K65 g → zi_W E d 248 65 [some (.ref 214), some (zi_i l1), none] [] g (zi_Q Q)) : ∀ (f : Nat) {l2 : Int} {g : zi_M}, w_M_lineOf_l2 l1 K57 K65 Q f l2 g → zi_W E d 248 2 [some (.ref 214), some (zi_i l1), some (zi_i l2)] [] g (zi_Q Q)
  | 0, _, _, h => False.elim h
  | f + 1, l2, g, h => by
    refine zi_iload_n (pc' := 3) rfl rfl rfl ?_
    refine zi_aload_n (pc' := 4) rfl rfl rfl ?_
    refine zi_getr (pc' := 7) rfl rfl rfl rfl rfl ?_
    refine zi_iconst (pc' := 8) rfl rfl ?_
    refine zi_iald (pc' := 9) rfl rfl rfl (by decide) ?_
    obtain ⟨o1, o2, h⟩ := h
    refine zi_icmp_ge (x := 65) (pc' := 12) rfl rfl o1 o2 (fun c15 => ?_) (fun c15 => ?_)
    · replace h := h.1 c15
      exact zi_wk (hK65 _ h) (And.intro rfl (And.intro rfl trivial))
    · replace h := h.2 c15
      refine zi_aload_n (pc' := 13) rfl rfl rfl ?_
      refine zi_getr (pc' := 16) rfl rfl rfl rfl rfl ?_
      refine zi_iload_n (pc' := 17) rfl rfl rfl ?_
      obtain ⟨o3, h⟩ := h
      refine zi_iald (pc' := 18) rfl rfl rfl o3 ?_
      refine zi_iload_n (pc' := 19) rfl rfl rfl ?_
      obtain ⟨o4, o5, h⟩ := h
      refine zi_icmp_ne (x := 59) (pc' := 22) rfl rfl o4 o5 (fun c14 => ?_) (fun c14 => ?_)
      · replace h := h.1 c14
        refine zi_iinc (pc' := 62) [some _, some _, some _] rfl rfl rfl rfl ?_
        refine zi_goto (x := 2) rfl ?_
        exact zi_wk (s_M_lineOf_l2_r hd hK57 hK65 f h) (And.intro rfl (And.intro rfl (And.intro rfl trivial)))
      · replace h := h.2 c14
        refine zi_aload_n (pc' := 23) rfl rfl rfl ?_
        refine zi_getr (pc' := 26) rfl rfl rfl rfl rfl ?_
        refine zi_iload_n (pc' := 27) rfl rfl rfl ?_
        refine zi_iald (pc' := 28) rfl rfl rfl o3 ?_
        refine zi_aload_n (pc' := 29) rfl rfl rfl ?_
        refine zi_getr (pc' := 32) rfl rfl rfl rfl rfl ?_
        refine zi_iload_n (pc' := 33) rfl rfl rfl ?_
        refine zi_iald (pc' := 34) rfl rfl rfl o3 ?_
        obtain ⟨o6, o7, h⟩ := h
        refine zi_icmp_eq (x := 57) (pc' := 37) rfl rfl o6 o7 (fun c13 => ?_) (fun c13 => ?_)
        · replace h := h.1 c13
          exact zi_wk (hK57 _ _ h) (And.intro rfl (And.intro rfl (And.intro rfl trivial)))
        · replace h := h.2 c13
          refine zi_aload_n (pc' := 38) rfl rfl rfl ?_
          refine zi_iconst (pc' := 39) rfl rfl ?_
          refine zi_aload_n (pc' := 40) rfl rfl rfl ?_
          refine zi_getr (pc' := 43) rfl rfl rfl rfl rfl ?_
          refine zi_iload_n (pc' := 44) rfl rfl rfl ?_
          refine zi_iald (pc' := 45) rfl rfl rfl o3 ?_
          refine zi_aload_n (pc' := 46) rfl rfl rfl ?_
          refine zi_getr (pc' := 49) rfl rfl rfl rfl rfl ?_
          refine zi_iload_n (pc' := 50) rfl rfl rfl ?_
          refine zi_iald (pc' := 51) rfl rfl rfl o3 ?_
          refine zi_callV (d' := 2) (as := [_, _, _]) (pc' := 54) rfl rfl rfl rfl (Nat.lt_of_lt_of_le (by decide) hd) (s_M_runs (Nat.le_refl _) h) (zi_ki (fun v8 g9 h => ?_))
          obtain ⟨o11, h⟩ := h
          refine zi_if_eq (x := 59) (pc' := 57) rfl rfl o11  (fun c12 => ?_) (fun c12 => ?_)
          · replace h := h.1 c12
            refine zi_iinc (pc' := 62) [some _, some _, some _] rfl rfl rfl rfl ?_
            refine zi_goto (x := 2) rfl ?_
            exact zi_wk (s_M_lineOf_l2_r hd hK57 hK65 f h) (And.intro rfl (And.intro rfl (And.intro rfl trivial)))
          · replace h := h.2 c12
            exact zi_wk (hK57 _ _ h) (And.intro rfl (And.intro rfl (And.intro rfl trivial)))
set_option maxRecDepth 100000 in
theorem s_M_lineOf_l2 {E : sx_E} {d : Nat} (hd : 3 ≤ d) {l1 : Int} {K57 : Int → zi_M → Prop} {K65 : zi_M → Prop} {Q : Int → zi_M → Prop} {l2 : Int} {g : zi_M} (h : ∃ f, w_M_lineOf_l2 l1 K57 K65 Q f l2 g) (hK57 : ∀ (k2 : Int) (g : zi_M), K57 k2 g → zi_W E d 248 57 [some (.ref 214), some (zi_i l1), some (zi_i k2)] [] g (zi_Q Q)) (hK65 : ∀ (g : zi_M), K65 g → zi_W E d 248 65 [some (.ref 214), some (zi_i l1), none] [] g (zi_Q Q)) : zi_W E d 248 2 [some (.ref 214), some (zi_i l1), some (zi_i l2)] [] g (zi_Q Q) := by
  obtain ⟨f, h⟩ := h
  exact s_M_lineOf_l2_r hd hK57 hK65 f h
set_option maxRecDepth 100000 in
theorem s_M_lineOf {E : sx_E} {d : Nat} (hd : 3 ≤ d) {l1 : Int} {g : zi_M} {Q : Int → zi_M → Prop} (h : w_M_lineOf l1 g Q) : zi_S E d 248 [.ref 214, zi_i l1] g (zi_Q Q) := by
  refine zi_Sof jf_248 [some (.ref 214), some (zi_i l1), none] rfl (And.intro rfl (And.intro rfl trivial)) ?_
  unfold w_M_lineOf at h
  refine zi_iconst (pc' := 1) rfl rfl ?_
  refine zi_istore_n (pc' := 2) [some _, some _, some _] rfl rfl rfl ?_
  refine zi_wk (s_M_lineOf_l2 hd h (fun k16 g17 h => ?_) (fun g18 h => ?_)) (And.intro rfl (And.intro rfl (And.intro rfl trivial)))
  · refine zi_iload_n (pc' := 58) rfl rfl rfl ?_
    exact zi_iret rfl rfl h
  · refine zi_iconst (pc' := 66) rfl rfl ?_
    exact zi_iret rfl rfl h
-- SpoutNewsModel.held(III)I
noncomputable def w_M_held (l1 : Int) (l2 : Int) (l3 : Int) (g : zi_M) (Q : Int → zi_M → Prop) : Prop := (zi_r l1 ∧ zi_r l2 ∧ ((l2 ≤ l1 → (zi_r l3 ∧ ((l1 ≤ l3 → Q l1 g) ∧ (l3 < l1 → Q l3 g)))) ∧ (l1 < l2 → Q l2 g)))
set_option maxRecDepth 100000 in
theorem s_M_held {E : sx_E} {d : Nat} (hd : 1 ≤ d) {l1 : Int} {l2 : Int} {l3 : Int} {g : zi_M} {Q : Int → zi_M → Prop} (h : w_M_held l1 l2 l3 g Q) : zi_S E d 251 [.ref 214, zi_i l1, zi_i l2, zi_i l3] g (zi_Q Q) := by
  refine zi_Sof jf_251 [some (.ref 214), some (zi_i l1), some (zi_i l2), some (zi_i l3)] rfl (And.intro rfl (And.intro rfl (And.intro rfl (And.intro rfl trivial)))) ?_
  unfold w_M_held at h
  refine zi_iload_n (pc' := 1) rfl rfl rfl ?_
  refine zi_iload_n (pc' := 2) rfl rfl rfl ?_
  obtain ⟨o1, o2, h⟩ := h
  refine zi_icmp_ge (x := 9) (pc' := 5) rfl rfl o1 o2 (fun c5 => ?_) (fun c5 => ?_)
  · replace h := h.1 c5
    refine zi_iload_n (pc' := 10) rfl rfl rfl ?_
    refine zi_iload_n (pc' := 11) rfl rfl rfl ?_
    obtain ⟨o3, h⟩ := h
    refine zi_icmp_le (x := 18) (pc' := 14) rfl rfl o1 o3 (fun c4 => ?_) (fun c4 => ?_)
    · replace h := h.1 c4
      refine zi_iload_n (pc' := 19) rfl rfl rfl ?_
      exact zi_iret rfl rfl h
    · replace h := h.2 c4
      refine zi_iload_n (pc' := 15) rfl rfl rfl ?_
      refine zi_goto (x := 19) rfl ?_
      exact zi_iret rfl rfl h
  · replace h := h.2 c5
    refine zi_iload_n (pc' := 6) rfl rfl rfl ?_
    refine zi_goto (x := 19) rfl ?_
    exact zi_iret rfl rfl h
-- SpoutNewsModel.lawTells(III)I
noncomputable def w_M_lawTells (l1 : Int) (l2 : Int) (l3 : Int) (g : zi_M) (Q : Int → zi_M → Prop) : Prop := w_M_lineOf l1 g (fun v1 g2 => (zi_r v1 ∧ ((¬ v1 = (-1) → ((0 ≤ v1 ∧ v1 < 48) ∧ w_M_runs 0 (g2 226 v1) (g2 227 v1) g2 (fun v6 g7 => w_M_held v6 0 l3 g7 (fun v9 g10 => Q v9 g10)))) ∧ (v1 = (-1) → w_M_held l2 0 l3 g2 (fun v12 g13 => Q v12 g13)))))
set_option maxRecDepth 100000 in
theorem s_M_lawTells {E : sx_E} {d : Nat} (hd : 4 ≤ d) {l1 : Int} {l2 : Int} {l3 : Int} {g : zi_M} {Q : Int → zi_M → Prop} (h : w_M_lawTells l1 l2 l3 g Q) : zi_S E d 247 [.ref 214, zi_i l1, zi_i l2, zi_i l3] g (zi_Q Q) := by
  refine zi_Sof jf_247 [some (.ref 214), some (zi_i l1), some (zi_i l2), some (zi_i l3), none] rfl (And.intro rfl (And.intro rfl (And.intro rfl (And.intro rfl trivial)))) ?_
  unfold w_M_lawTells at h
  refine zi_aload_n (pc' := 1) rfl rfl rfl ?_
  refine zi_iload_n (pc' := 2) rfl rfl rfl ?_
  refine zi_callV (d' := 3) (as := [_]) (pc' := 5) rfl rfl rfl rfl (Nat.lt_of_lt_of_le (by decide) hd) (s_M_lineOf (Nat.le_refl _) h) (zi_ki (fun v1 g2 h => ?_))
  refine zi_istore (pc' := 7) [some _, some _, some _, some _, some _] rfl rfl rfl ?_
  refine zi_aload_n (pc' := 8) rfl rfl rfl ?_
  refine zi_iload (pc' := 10) rfl rfl rfl ?_
  refine zi_iconst (pc' := 11) rfl rfl ?_
  obtain ⟨o4, h⟩ := h
  refine zi_icmp_ne (x := 18) (pc' := 14) rfl rfl o4 (by decide) (fun c15 => ?_) (fun c15 => ?_)
  · replace h := h.1 c15
    refine zi_aload_n (pc' := 19) rfl rfl rfl ?_
    refine zi_iconst (pc' := 20) rfl rfl ?_
    refine zi_aload_n (pc' := 21) rfl rfl rfl ?_
    refine zi_getr (pc' := 24) rfl rfl rfl rfl rfl ?_
    refine zi_iload (pc' := 26) rfl rfl rfl ?_
    obtain ⟨o5, h⟩ := h
    refine zi_iald (pc' := 27) rfl rfl rfl o5 ?_
    refine zi_aload_n (pc' := 28) rfl rfl rfl ?_
    refine zi_getr (pc' := 31) rfl rfl rfl rfl rfl ?_
    refine zi_iload (pc' := 33) rfl rfl rfl ?_
    refine zi_iald (pc' := 34) rfl rfl rfl o5 ?_
    refine zi_callV (d' := 2) (as := [_, _, _]) (pc' := 37) rfl rfl rfl rfl (Nat.lt_of_lt_of_le (by decide) hd) (s_M_runs (Nat.le_refl _) h) (zi_ki (fun v6 g7 h => ?_))
    refine zi_iconst (pc' := 38) rfl rfl ?_
    refine zi_iload_n (pc' := 39) rfl rfl rfl ?_
    refine zi_callV (d' := 1) (as := [_, _, _]) (pc' := 42) rfl rfl rfl rfl (Nat.lt_of_lt_of_le (by decide) hd) (s_M_held (Nat.le_refl _) h) (zi_ki (fun v9 g10 h => ?_))
    exact zi_iret rfl rfl h
  · replace h := h.2 c15
    refine zi_iload_n (pc' := 15) rfl rfl rfl ?_
    refine zi_goto (x := 37) rfl ?_
    refine zi_iconst (pc' := 38) rfl rfl ?_
    refine zi_iload_n (pc' := 39) rfl rfl rfl ?_
    refine zi_callV (d' := 1) (as := [_, _, _]) (pc' := 42) rfl rfl rfl rfl (Nat.lt_of_lt_of_le (by decide) hd) (s_M_held (Nat.le_refl _) h) (zi_ki (fun v12 g13 h => ?_))
    exact zi_iret rfl rfl h
-- SpoutNewsModel.hearsOf(I)I
noncomputable def w_M_hearsOf (l1 : Int) (g : zi_M) (Q : Int → zi_M → Prop) : Prop := w_M_asks l1 0 g (fun _ g2 => w_M_lawTells 0 2 9 g2 (fun v4 g5 => Q v4 g5))
set_option maxRecDepth 100000 in
theorem s_M_hearsOf {E : sx_E} {d : Nat} (hd : 5 ≤ d) {l1 : Int} {g : zi_M} {Q : Int → zi_M → Prop} (h : w_M_hearsOf l1 g Q) : zi_S E d 265 [.ref 214, zi_i l1] g (zi_Q Q) := by
  refine zi_Sof jf_265 [some (.ref 214), some (zi_i l1)] rfl (And.intro rfl (And.intro rfl trivial)) ?_
  unfold w_M_hearsOf at h
  refine zi_aload_n (pc' := 1) rfl rfl rfl ?_
  refine zi_iload_n (pc' := 2) rfl rfl rfl ?_
  refine zi_iconst (pc' := 3) rfl rfl ?_
  refine zi_callV (d' := 1) (as := [_, _]) (pc' := 6) rfl rfl rfl rfl (Nat.lt_of_lt_of_le (by decide) hd) (s_M_asks (Nat.le_refl _) h) (zi_kv (fun g2 h => ?_))
  refine zi_aload_n (pc' := 7) rfl rfl rfl ?_
  refine zi_iconst (pc' := 8) rfl rfl ?_
  refine zi_iconst (pc' := 9) rfl rfl ?_
  refine zi_bipush (pc' := 11) rfl rfl (by decide) ?_
  refine zi_callV (d' := 4) (as := [_, _, _]) (pc' := 14) rfl rfl rfl rfl (Nat.lt_of_lt_of_le (by decide) hd) (s_M_lawTells (Nat.le_refl _) h) (zi_ki (fun v4 g5 h => ?_))
  exact zi_iret rfl rfl h
-- SpoutNewsModel.has(II)Z
noncomputable def w_M_has (l1 : Int) (l2 : Int) (g : zi_M) (Q : Int → zi_M → Prop) : Prop := ((¬ (zi_and (zi_shr l1 l2) 1) = 1 → Q 0 g) ∧ ((zi_and (zi_shr l1 l2) 1) = 1 → Q 1 g))
set_option maxRecDepth 100000 in
theorem s_M_has {E : sx_E} {d : Nat} (hd : 1 ≤ d) {l1 : Int} {l2 : Int} {g : zi_M} {Q : Int → zi_M → Prop} (h : w_M_has l1 l2 g Q) : zi_S E d 262 [.ref 214, zi_i l1, zi_i l2] g (zi_Qb Q) := by
  refine zi_Sof jf_262 [some (.ref 214), some (zi_i l1), some (zi_i l2)] rfl (And.intro rfl (And.intro rfl (And.intro rfl trivial))) ?_
  unfold w_M_has at h
  refine zi_iload_n (pc' := 1) rfl rfl rfl ?_
  refine zi_iload_n (pc' := 2) rfl rfl rfl ?_
  refine zi_ishr (pc' := 3) rfl rfl ?_
  refine zi_iconst (pc' := 4) rfl rfl ?_
  refine zi_iand (pc' := 5) rfl rfl ?_
  refine zi_iconst (pc' := 6) rfl rfl ?_
  refine zi_icmp_ne (x := 13) (pc' := 9) rfl rfl (zi_r_and _ _) (by decide) (fun c1 => ?_) (fun c1 => ?_)
  · replace h := h.1 c1
    refine zi_iconst (pc' := 14) rfl rfl ?_
    exact zi_zret rfl rfl (Or.inl rfl) h
  · replace h := h.2 c1
    refine zi_iconst (pc' := 10) rfl rfl ?_
    refine zi_goto (x := 14) rfl ?_
    exact zi_zret rfl rfl (Or.inr rfl) h
-- SpoutNewsModel.heardAt(II)I
noncomputable def w_M_heardAt (l1 : Int) (l2 : Int) (g : zi_M) (Q : Int → zi_M → Prop) : Prop := ((0 ≤ ((36 + (20 * l1)) + l2) ∧ ((36 + (20 * l1)) + l2) < 264) ∧ Q (g 215 ((36 + (20 * l1)) + l2)) g)
set_option maxRecDepth 100000 in
theorem s_M_heardAt {E : sx_E} {d : Nat} (hd : 1 ≤ d) {l1 : Int} {l2 : Int} {g : zi_M} {Q : Int → zi_M → Prop} (h : w_M_heardAt l1 l2 g Q) : zi_S E d 254 [.ref 214, zi_i l1, zi_i l2] g (zi_Q Q) := by
  refine zi_Sof jf_254 [some (.ref 214), some (zi_i l1), some (zi_i l2)] rfl (And.intro rfl (And.intro rfl (And.intro rfl trivial))) ?_
  unfold w_M_heardAt at h
  refine zi_aload_n (pc' := 1) rfl rfl rfl ?_
  refine zi_getr (pc' := 4) rfl rfl rfl rfl rfl ?_
  refine zi_bipush (pc' := 6) rfl rfl (by decide) ?_
  refine zi_bipush (pc' := 8) rfl rfl (by decide) ?_
  refine zi_iload_n (pc' := 9) rfl rfl rfl ?_
  refine zi_imul (pc' := 10) rfl rfl ?_
  refine zi_iadd (pc' := 11) rfl rfl ?_
  refine zi_iload_n (pc' := 12) rfl rfl rfl ?_
  refine zi_iadd (pc' := 13) rfl rfl ?_
  obtain ⟨o1, h⟩ := h
  refine zi_iald (pc' := 14) rfl rfl rfl o1 ?_
  exact zi_iret rfl rfl h
-- SpoutNewsModel.heardSet(I)I
noncomputable def w_M_heardSet_l4 (l1 : Int) (K34 : Int → zi_M → Prop) (Q : Int → zi_M → Prop) : Nat → Int → Int → zi_M → Prop
  | 0, _, _, _ => False
  | f + 1, l2, l3, g => ((0 ≤ (26 + l1) ∧ (26 + l1) < 264) ∧ (zi_r l3 ∧ zi_r (g 215 (26 + l1)) ∧ (((g 215 (26 + l1)) ≤ l3 → K34 l2 g) ∧ (l3 < (g 215 (26 + l1)) → w_M_heardAt l1 l3 g (fun v4 g5 => w_M_heardSet_l4 l1 K34 Q f (zi_or l2 (zi_shl 1 v4)) (l3 + 1) g5)))))
noncomputable def w_M_heardSet (l1 : Int) (g : zi_M) (Q : Int → zi_M → Prop) : Prop := (∃ f10, w_M_heardSet_l4 l1 (fun k8 g9 => Q k8 g9) Q f10 0 0 g)
set_option maxRecDepth 100000 in
theorem s_M_heardSet_l4_r {E : sx_E} {d : Nat} (hd : 2 ≤ d) {l1 : Int} {K34 : Int → zi_M → Prop} {Q : Int → zi_M → Prop} (hK34 : ∀ (k2 : Int) (g : zi_M), K34 k2 g → zi_W E d 261 34 [some (.ref 214), some (zi_i l1), some (zi_i k2), none] [] g (zi_Q Q)) : ∀ (f : Nat) {l2 : Int} {l3 : Int} {g : zi_M}, w_M_heardSet_l4 l1 K34 Q f l2 l3 g → zi_W E d 261 4 [some (.ref 214), some (zi_i l1), some (zi_i l2), some (zi_i l3)] [] g (zi_Q Q)
  | 0, _, _, _, h => False.elim h
  | f + 1, l2, l3, g, h => by
    refine zi_iload_n (pc' := 5) rfl rfl rfl ?_
    refine zi_aload_n (pc' := 6) rfl rfl rfl ?_
    refine zi_getr (pc' := 9) rfl rfl rfl rfl rfl ?_
    refine zi_bipush (pc' := 11) rfl rfl (by decide) ?_
    refine zi_iload_n (pc' := 12) rfl rfl rfl ?_
    refine zi_iadd (pc' := 13) rfl rfl ?_
    obtain ⟨o1, h⟩ := h
    refine zi_iald (pc' := 14) rfl rfl rfl o1 ?_
    obtain ⟨o2, o3, h⟩ := h
    refine zi_icmp_ge (x := 34) (pc' := 17) rfl rfl o2 o3 (fun c7 => ?_) (fun c7 => ?_)
    · replace h := h.1 c7
      exact zi_wk (hK34 _ _ h) (And.intro rfl (And.intro rfl (And.intro rfl trivial)))
    · replace h := h.2 c7
      refine zi_iload_n (pc' := 18) rfl rfl rfl ?_
      refine zi_iconst (pc' := 19) rfl rfl ?_
      refine zi_aload_n (pc' := 20) rfl rfl rfl ?_
      refine zi_iload_n (pc' := 21) rfl rfl rfl ?_
      refine zi_iload_n (pc' := 22) rfl rfl rfl ?_
      refine zi_callV (d' := 1) (as := [_, _]) (pc' := 25) rfl rfl rfl rfl (Nat.lt_of_lt_of_le (by decide) hd) (s_M_heardAt (Nat.le_refl _) h) (zi_ki (fun v4 g5 h => ?_))
      refine zi_ishl (pc' := 26) rfl rfl ?_
      refine zi_ior (pc' := 27) rfl rfl ?_
      refine zi_istore_n (pc' := 28) [some _, some _, some _, some _] rfl rfl rfl ?_
      refine zi_iinc (pc' := 31) [some _, some _, some _, some _] rfl rfl rfl rfl ?_
      refine zi_goto (x := 4) rfl ?_
      exact zi_wk (s_M_heardSet_l4_r hd hK34 f h) (And.intro rfl (And.intro rfl (And.intro rfl (And.intro rfl trivial))))
set_option maxRecDepth 100000 in
theorem s_M_heardSet_l4 {E : sx_E} {d : Nat} (hd : 2 ≤ d) {l1 : Int} {K34 : Int → zi_M → Prop} {Q : Int → zi_M → Prop} {l2 : Int} {l3 : Int} {g : zi_M} (h : ∃ f, w_M_heardSet_l4 l1 K34 Q f l2 l3 g) (hK34 : ∀ (k2 : Int) (g : zi_M), K34 k2 g → zi_W E d 261 34 [some (.ref 214), some (zi_i l1), some (zi_i k2), none] [] g (zi_Q Q)) : zi_W E d 261 4 [some (.ref 214), some (zi_i l1), some (zi_i l2), some (zi_i l3)] [] g (zi_Q Q) := by
  obtain ⟨f, h⟩ := h
  exact s_M_heardSet_l4_r hd hK34 f h
set_option maxRecDepth 100000 in
theorem s_M_heardSet {E : sx_E} {d : Nat} (hd : 2 ≤ d) {l1 : Int} {g : zi_M} {Q : Int → zi_M → Prop} (h : w_M_heardSet l1 g Q) : zi_S E d 261 [.ref 214, zi_i l1] g (zi_Q Q) := by
  refine zi_Sof jf_261 [some (.ref 214), some (zi_i l1), none, none] rfl (And.intro rfl (And.intro rfl trivial)) ?_
  unfold w_M_heardSet at h
  refine zi_iconst (pc' := 1) rfl rfl ?_
  refine zi_istore_n (pc' := 2) [some _, some _, some _, none] rfl rfl rfl ?_
  refine zi_iconst (pc' := 3) rfl rfl ?_
  refine zi_istore_n (pc' := 4) [some _, some _, some _, some _] rfl rfl rfl ?_
  refine zi_wk (s_M_heardSet_l4 hd h (fun k8 g9 h => ?_)) (And.intro rfl (And.intro rfl (And.intro rfl (And.intro rfl trivial))))
  refine zi_iload_n (pc' := 35) rfl rfl rfl ?_
  exact zi_iret rfl rfl h
-- SpoutNewsModel.comesTo(II)Z
noncomputable def w_M_comesTo (l1 : Int) (l2 : Int) (g : zi_M) (Q : Int → zi_M → Prop) : Prop := ((0 ≤ (26 + l1) ∧ (26 + l1) < 264) ∧ (zi_r (g 215 (26 + l1)) ∧ (((g 215 (26 + l1)) = 20 → Q 0 g) ∧ (¬ (g 215 (26 + l1)) = 20 → w_M_heardSet l1 g (fun v3 g4 => w_M_has v3 l2 g4 (fun v6 g7 => ((v6 = 0 → ((0 ≤ ((36 + (20 * l1)) + (g7 215 (26 + l1))) ∧ ((36 + (20 * l1)) + (g7 215 (26 + l1))) < 264) ∧ (∀ g10, g10 = zi_u g7 215 ((36 + (20 * l1)) + (g7 215 (26 + l1))) l2 → (∀ g11, g11 = zi_u g10 215 (26 + l1) ((g10 215 (26 + l1)) + 1) → Q 1 g11)))) ∧ (¬ v6 = 0 → Q 0 g7))))))))
set_option maxRecDepth 100000 in
theorem s_M_comesTo {E : sx_E} {d : Nat} (hd : 3 ≤ d) {l1 : Int} {l2 : Int} {g : zi_M} {Q : Int → zi_M → Prop} (h : w_M_comesTo l1 l2 g Q) : zi_S E d 260 [.ref 214, zi_i l1, zi_i l2] g (zi_Qb Q) := by
  refine zi_Sof jf_260 [some (.ref 214), some (zi_i l1), some (zi_i l2)] rfl (And.intro rfl (And.intro rfl (And.intro rfl trivial))) ?_
  unfold w_M_comesTo at h
  refine zi_aload_n (pc' := 1) rfl rfl rfl ?_
  refine zi_getr (pc' := 4) rfl rfl rfl rfl rfl ?_
  refine zi_bipush (pc' := 6) rfl rfl (by decide) ?_
  refine zi_iload_n (pc' := 7) rfl rfl rfl ?_
  refine zi_iadd (pc' := 8) rfl rfl ?_
  obtain ⟨o1, h⟩ := h
  refine zi_iald (pc' := 9) rfl rfl rfl o1 ?_
  refine zi_bipush (pc' := 11) rfl rfl (by decide) ?_
  obtain ⟨o2, h⟩ := h
  refine zi_icmp_eq (x := 27) (pc' := 14) rfl rfl o2 (by decide) (fun c13 => ?_) (fun c13 => ?_)
  · replace h := h.1 c13
    refine zi_iconst (pc' := 28) rfl rfl ?_
    exact zi_zret rfl rfl (Or.inl rfl) h
  · replace h := h.2 c13
    refine zi_aload_n (pc' := 15) rfl rfl rfl ?_
    refine zi_aload_n (pc' := 16) rfl rfl rfl ?_
    refine zi_iload_n (pc' := 17) rfl rfl rfl ?_
    refine zi_callV (d' := 2) (as := [_]) (pc' := 20) rfl rfl rfl rfl (Nat.lt_of_lt_of_le (by decide) hd) (s_M_heardSet (Nat.le_refl _) h) (zi_ki (fun v3 g4 h => ?_))
    refine zi_iload_n (pc' := 21) rfl rfl rfl ?_
    refine zi_callV (d' := 1) (as := [_, _]) (pc' := 24) rfl rfl rfl rfl (Nat.lt_of_lt_of_le (by decide) hd) (s_M_has (Nat.le_refl _) h) (zi_kb (fun v6 g7 b8 h => ?_))
    refine zi_if_eq (x := 29) (pc' := 27) rfl rfl (zi_r_bit b8)  (fun c12 => ?_) (fun c12 => ?_)
    · replace h := h.1 c12
      refine zi_aload_n (pc' := 30) rfl rfl rfl ?_
      refine zi_getr (pc' := 33) rfl rfl rfl rfl rfl ?_
      refine zi_bipush (pc' := 35) rfl rfl (by decide) ?_
      refine zi_bipush (pc' := 37) rfl rfl (by decide) ?_
      refine zi_iload_n (pc' := 38) rfl rfl rfl ?_
      refine zi_imul (pc' := 39) rfl rfl ?_
      refine zi_iadd (pc' := 40) rfl rfl ?_
      refine zi_aload_n (pc' := 41) rfl rfl rfl ?_
      refine zi_getr (pc' := 44) rfl rfl rfl rfl rfl ?_
      refine zi_bipush (pc' := 46) rfl rfl (by decide) ?_
      refine zi_iload_n (pc' := 47) rfl rfl rfl ?_
      refine zi_iadd (pc' := 48) rfl rfl ?_
      refine zi_iald (pc' := 49) rfl rfl rfl o1 ?_
      refine zi_iadd (pc' := 50) rfl rfl ?_
      refine zi_iload_n (pc' := 51) rfl rfl rfl ?_
      obtain ⟨o9, h⟩ := h
      refine zi_iast (pc' := 52) rfl rfl rfl o9 ?_
      replace h := h _ rfl
      refine zi_aload_n (pc' := 53) rfl rfl rfl ?_
      refine zi_getr (pc' := 56) rfl rfl rfl rfl rfl ?_
      refine zi_bipush (pc' := 58) rfl rfl (by decide) ?_
      refine zi_iload_n (pc' := 59) rfl rfl rfl ?_
      refine zi_iadd (pc' := 60) rfl rfl ?_
      refine zi_aload_n (pc' := 61) rfl rfl rfl ?_
      refine zi_getr (pc' := 64) rfl rfl rfl rfl rfl ?_
      refine zi_bipush (pc' := 66) rfl rfl (by decide) ?_
      refine zi_iload_n (pc' := 67) rfl rfl rfl ?_
      refine zi_iadd (pc' := 68) rfl rfl ?_
      refine zi_iald (pc' := 69) rfl rfl rfl o1 ?_
      refine zi_iconst (pc' := 70) rfl rfl ?_
      refine zi_iadd (pc' := 71) rfl rfl ?_
      refine zi_iast (pc' := 72) rfl rfl rfl o1 ?_
      replace h := h _ rfl
      refine zi_iconst (pc' := 73) rfl rfl ?_
      exact zi_zret rfl rfl (Or.inr rfl) h
    · replace h := h.2 c12
      refine zi_iconst (pc' := 28) rfl rfl ?_
      exact zi_zret rfl rfl (Or.inl rfl) h
