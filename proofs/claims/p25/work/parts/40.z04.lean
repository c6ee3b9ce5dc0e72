-- by program (wip/gen/mkz.py)
-- SpoutNewsModel.wordAt(II)I
noncomputable def w_M_wordAt_l20 (l1 : Int) (l2 : Int) (l4 : Int) (K61 : Int → zi_M → Prop) (Q : Int → zi_M → Prop) : Nat → Int → zi_M → Prop
  | 0, _, _ => False
  | f + 1, l5, g => (zi_r (l1 + l5) ∧ zi_r l2 ∧ ((l2 ≤ (l1 + l5) → K61 l5 g) ∧ ((l1 + l5) < l2 → ((0 ≤ ((l4 + 1) + l5) ∧ ((l4 + 1) + l5) < 129) ∧ ((0 ≤ (l1 + l5) ∧ (l1 + l5) < 400) ∧ (zi_r (g 223 ((l4 + 1) + l5)) ∧ zi_r (g 222 (l1 + l5)) ∧ ((¬ (g 223 ((l4 + 1) + l5)) = (g 222 (l1 + l5)) → K61 l5 g) ∧ ((g 223 ((l4 + 1) + l5)) = (g 222 (l1 + l5)) → w_M_wordAt_l20 l1 l2 l4 K61 Q f (l5 + 1) g))))))))
noncomputable def w_M_wordAt_l94 (K115 : Int → zi_M → Prop) (Q : Int → zi_M → Prop) : Nat → Int → zi_M → Prop
  | 0, _, _ => False
  | f + 1, l4, g => ((0 ≤ l4 ∧ l4 < 129) ∧ (zi_r (g 223 l4) ∧ (((g 223 l4) = 32 → K115 l4 g) ∧ (¬ (g 223 l4) = 32 → w_M_wordAt_l94 K115 Q f (l4 + 1) g))))
noncomputable def w_M_wordAt_b61 (l1 : Int) (l2 : Int) (l3 : Int) (l4 : Int) (l5 : Int) (g : zi_M) (H : Int → Int → zi_M → Prop) (K86 : Int → zi_M → Prop) (K118 : zi_M → Prop) (Q : Int → zi_M → Prop) : Prop := (zi_r (l1 + l5) ∧ zi_r l2 ∧ ((¬ (l1 + l5) = l2 → (∃ f19, w_M_wordAt_l94 (fun k17 g18 => H l3 k17 g18) Q f19 (l4 + 1) g)) ∧ ((l1 + l5) = l2 → ((0 ≤ ((l4 + 1) + l5) ∧ ((l4 + 1) + l5) < 129) ∧ (zi_r (g 223 ((l4 + 1) + l5)) ∧ ((¬ (g 223 ((l4 + 1) + l5)) = 32 → (∃ f24, w_M_wordAt_l94 (fun k22 g23 => H l3 k22 g23) Q f24 (l4 + 1) g)) ∧ ((g 223 ((l4 + 1) + l5)) = 32 → K86 l3 g)))))))
noncomputable def w_M_wordAt_l5 (l1 : Int) (l2 : Int) (K86 : Int → zi_M → Prop) (K118 : zi_M → Prop) (Q : Int → zi_M → Prop) : Nat → Int → Int → zi_M → Prop
  | 0, _, _, _ => False
  | f + 1, l3, l4, g => (zi_r l4 ∧ ((128 ≤ l4 → K118 g) ∧ (l4 < 128 → (∃ f27, w_M_wordAt_l20 l1 l2 l4 (fun k10 g11 => w_M_wordAt_b61 l1 l2 (l3 + 1) l4 k10 g11 (w_M_wordAt_l5 l1 l2 K86 K118 Q f) K86 K118 Q) Q f27 0 g))))
noncomputable def w_M_wordAt (l1 : Int) (l2 : Int) (g : zi_M) (Q : Int → zi_M → Prop) : Prop := (∃ f32, w_M_wordAt_l5 l1 l2 (fun k29 g30 => Q k29 g30) (fun g31 => Q (-1) g31) Q f32 (-1) 0 g)
set_option maxRecDepth 100000 in
theorem s_M_wordAt_l20_r {E : sx_E} {d : Nat} (hd : 1 ≤ d) {l1 : Int} {l2 : Int} {l4 : Int} {x3 : Int} {K61 : Int → zi_M → Prop} {Q : Int → zi_M → Prop} (hK61 : ∀ (k5 : Int) (g : zi_M), K61 k5 g → zi_W E d 206 61 [some (.ref 214), some (zi_i l1), some (zi_i l2), some (zi_i x3), some (zi_i l4), some (zi_i k5)] [] g (zi_Q Q)) : ∀ (f : Nat) {l5 : Int} {g : zi_M}, w_M_wordAt_l20 l1 l2 l4 K61 Q f l5 g → zi_W E d 206 20 [some (.ref 214), some (zi_i l1), some (zi_i l2), some (zi_i x3), some (zi_i l4), some (zi_i l5)] [] g (zi_Q Q)
  | 0, _, _, h => False.elim h
  | f + 1, l5, g, h => by
    refine zi_iload_n (pc' := 21) rfl rfl rfl ?_
    refine zi_iload (pc' := 23) rfl rfl rfl ?_
    refine zi_iadd (pc' := 24) rfl rfl ?_
    refine zi_iload_n (pc' := 25) rfl rfl rfl ?_
    obtain ⟨o2, o3, h⟩ := h
    refine zi_icmp_ge (x := 61) (pc' := 28) rfl rfl o2 o3 (fun c9 => ?_) (fun c9 => ?_)
    · replace h := h.1 c9
      exact zi_wk (hK61 _ _ h) (And.intro rfl (And.intro rfl (And.intro rfl (And.intro rfl (And.intro rfl (And.intro rfl trivial))))))
    · replace h := h.2 c9
      refine zi_aload_n (pc' := 29) rfl rfl rfl ?_
      refine zi_getr (pc' := 32) rfl rfl rfl rfl rfl ?_
      refine zi_iload (pc' := 34) rfl rfl rfl ?_
      refine zi_iconst (pc' := 35) rfl rfl ?_
      refine zi_iadd (pc' := 36) rfl rfl ?_
      refine zi_iload (pc' := 38) rfl rfl rfl ?_
      refine zi_iadd (pc' := 39) rfl rfl ?_
      obtain ⟨o4, h⟩ := h
      refine zi_iald (pc' := 40) rfl rfl rfl o4 ?_
      refine zi_aload_n (pc' := 41) rfl rfl rfl ?_
      refine zi_getr (pc' := 44) rfl rfl rfl rfl rfl ?_
      refine zi_iload_n (pc' := 45) rfl rfl rfl ?_
      refine zi_iload (pc' := 47) rfl rfl rfl ?_
      refine zi_iadd (pc' := 48) rfl rfl ?_
      obtain ⟨o5, h⟩ := h
      refine zi_iald (pc' := 49) rfl rfl rfl o5 ?_
      obtain ⟨o6, o7, h⟩ := h
      refine zi_icmp_ne (x := 61) (pc' := 52) rfl rfl o6 o7 (fun c8 => ?_) (fun c8 => ?_)
      · replace h := h.1 c8
        exact zi_wk (hK61 _ _ h) (And.intro rfl (And.intro rfl (And.intro rfl (And.intro rfl (And.intro rfl (And.intro rfl trivial))))))
      · replace h := h.2 c8
        refine zi_iload (pc' := 54) rfl rfl rfl ?_
        refine zi_iconst (pc' := 55) rfl rfl ?_
        refine zi_iadd (pc' := 56) rfl rfl ?_
        refine zi_istore (pc' := 58) [some _, some _, some _, some _, some _, some _] rfl rfl rfl ?_
        refine zi_goto (x := 20) rfl ?_
        exact zi_wk (s_M_wordAt_l20_r hd hK61 f h) (And.intro rfl (And.intro rfl (And.intro rfl (And.intro rfl (And.intro rfl (And.intro rfl trivial))))))
set_option maxRecDepth 100000 in
theorem s_M_wordAt_l20 {E : sx_E} {d : Nat} (hd : 1 ≤ d) {l1 : Int} {l2 : Int} {l4 : Int} {x3 : Int} {K61 : Int → zi_M → Prop} {Q : Int → zi_M → Prop} {l5 : Int} {g : zi_M} (h : ∃ f, w_M_wordAt_l20 l1 l2 l4 K61 Q f l5 g) (hK61 : ∀ (k5 : Int) (g : zi_M), K61 k5 g → zi_W E d 206 61 [some (.ref 214), some (zi_i l1), some (zi_i l2), some (zi_i x3), some (zi_i l4), some (zi_i k5)] [] g (zi_Q Q)) : zi_W E d 206 20 [some (.ref 214), some (zi_i l1), some (zi_i l2), some (zi_i x3), some (zi_i l4), some (zi_i l5)] [] g (zi_Q Q) := by
  obtain ⟨f, h⟩ := h
  exact s_M_wordAt_l20_r hd hK61 f h
set_option maxRecDepth 100000 in
theorem s_M_wordAt_l94_r {E : sx_E} {d : Nat} (hd : 1 ≤ d) {x1 : Int} {x2 : Int} {x3 : Int} {K115 : Int → zi_M → Prop} {Q : Int → zi_M → Prop} (hK115 : ∀ (k4 : Int) (g : zi_M), K115 k4 g → zi_W E d 206 115 [some (.ref 214), some (zi_i x1), some (zi_i x2), some (zi_i x3), some (zi_i k4), none] [] g (zi_Q Q)) : ∀ (f : Nat) {l4 : Int} {g : zi_M}, w_M_wordAt_l94 K115 Q f l4 g → zi_W E d 206 94 [some (.ref 214), some (zi_i x1), some (zi_i x2), some (zi_i x3), some (zi_i l4), none] [] g (zi_Q Q)
  | 0, _, _, h => False.elim h
  | f + 1, l4, g, h => by
    refine zi_aload_n (pc' := 95) rfl rfl rfl ?_
    refine zi_getr (pc' := 98) rfl rfl rfl rfl rfl ?_
    refine zi_iload (pc' := 100) rfl rfl rfl ?_
    obtain ⟨o14, h⟩ := h
    refine zi_iald (pc' := 101) rfl rfl rfl o14 ?_
    refine zi_bipush (pc' := 103) rfl rfl (by decide) ?_
    obtain ⟨o15, h⟩ := h
    refine zi_icmp_eq (x := 115) (pc' := 106) rfl rfl o15 (by decide) (fun c16 => ?_) (fun c16 => ?_)
    · replace h := h.1 c16
      exact zi_wk (hK115 _ _ h) (And.intro rfl (And.intro rfl (And.intro rfl (And.intro rfl (And.intro rfl trivial)))))
    · replace h := h.2 c16
      refine zi_iload (pc' := 108) rfl rfl rfl ?_
      refine zi_iconst (pc' := 109) rfl rfl ?_
      refine zi_iadd (pc' := 110) rfl rfl ?_
      refine zi_istore (pc' := 112) [some _, some _, some _, some _, some _, none] rfl rfl rfl ?_
      refine zi_goto (x := 94) rfl ?_
      exact zi_wk (s_M_wordAt_l94_r hd hK115 f h) (And.intro rfl (And.intro rfl (And.intro rfl (And.intro rfl (And.intro rfl trivial)))))
set_option maxRecDepth 100000 in
theorem s_M_wordAt_l94 {E : sx_E} {d : Nat} (hd : 1 ≤ d) {x1 : Int} {x2 : Int} {x3 : Int} {K115 : Int → zi_M → Prop} {Q : Int → zi_M → Prop} {l4 : Int} {g : zi_M} (h : ∃ f, w_M_wordAt_l94 K115 Q f l4 g) (hK115 : ∀ (k4 : Int) (g : zi_M), K115 k4 g → zi_W E d 206 115 [some (.ref 214), some (zi_i x1), some (zi_i x2), some (zi_i x3), some (zi_i k4), none] [] g (zi_Q Q)) : zi_W E d 206 94 [some (.ref 214), some (zi_i x1), some (zi_i x2), some (zi_i x3), some (zi_i l4), none] [] g (zi_Q Q) := by
  obtain ⟨f, h⟩ := h
  exact s_M_wordAt_l94_r hd hK115 f h
set_option maxRecDepth 100000 in
theorem s_M_wordAt_b61 {E : sx_E} {d : Nat} (hd : 1 ≤ d) {l1 : Int} {l2 : Int} {l3 : Int} {l4 : Int} {l5 : Int} {H : Int → Int → zi_M → Prop} {K86 : Int → zi_M → Prop} {K118 : zi_M → Prop} {Q : Int → zi_M → Prop} {g : zi_M} (h : w_M_wordAt_b61 l1 l2 l3 l4 l5 g H K86 K118 Q) (hH : ∀ (m3 : Int) (m4 : Int) (g : zi_M), H m3 m4 g → zi_W E d 206 5 [some (.ref 214), some (zi_i l1), some (zi_i l2), some (zi_i m3), some (zi_i m4), none] [] g (zi_Q Q)) (hK86 : ∀ (k3 : Int) (g : zi_M), K86 k3 g → zi_W E d 206 86 [some (.ref 214), some (zi_i l1), some (zi_i l2), some (zi_i k3), none, none] [] g (zi_Q Q)) (hK118 : ∀ (g : zi_M), K118 g → zi_W E d 206 118 [some (.ref 214), some (zi_i l1), some (zi_i l2), none, none, none] [] g (zi_Q Q)) : zi_W E d 206 61 [some (.ref 214), some (zi_i l1), some (zi_i l2), some (zi_i l3), some (zi_i l4), some (zi_i l5)] [] g (zi_Q Q) := by
  unfold w_M_wordAt_b61 at h
  refine zi_iload_n (pc' := 62) rfl rfl rfl ?_
  refine zi_iload (pc' := 64) rfl rfl rfl ?_
  refine zi_iadd (pc' := 65) rfl rfl ?_
  refine zi_iload_n (pc' := 66) rfl rfl rfl ?_
  obtain ⟨o12, o13, h⟩ := h
  refine zi_icmp_ne (x := 88) (pc' := 69) rfl rfl o12 o13 (fun c26 => ?_) (fun c26 => ?_)
  · replace h := h.1 c26
    refine zi_iload (pc' := 90) rfl rfl rfl ?_
    refine zi_iconst (pc' := 91) rfl rfl ?_
    refine zi_iadd (pc' := 92) rfl rfl ?_
    refine zi_istore (pc' := 94) [some _, some _, some _, some _, some _, some _] rfl rfl rfl ?_
    refine zi_wk (s_M_wordAt_l94 hd h (fun k17 g18 h => ?_)) (And.intro rfl (And.intro rfl (And.intro rfl (And.intro rfl (And.intro rfl trivial)))))
    refine zi_goto (x := 5) rfl ?_
    exact zi_wk (hH _ _ _ h) (And.intro rfl (And.intro rfl (And.intro rfl (And.intro rfl (And.intro rfl trivial)))))
  · replace h := h.2 c26
    refine zi_aload_n (pc' := 70) rfl rfl rfl ?_
    refine zi_getr (pc' := 73) rfl rfl rfl rfl rfl ?_
    refine zi_iload (pc' := 75) rfl rfl rfl ?_
    refine zi_iconst (pc' := 76) rfl rfl ?_
    refine zi_iadd (pc' := 77) rfl rfl ?_
    refine zi_iload (pc' := 79) rfl rfl rfl ?_
    refine zi_iadd (pc' := 80) rfl rfl ?_
    obtain ⟨o20, h⟩ := h
    refine zi_iald (pc' := 81) rfl rfl rfl o20 ?_
    refine zi_bipush (pc' := 83) rfl rfl (by decide) ?_
    obtain ⟨o21, h⟩ := h
    refine zi_icmp_ne (x := 88) (pc' := 86) rfl rfl o21 (by decide) (fun c25 => ?_) (fun c25 => ?_)
    · replace h := h.1 c25
      refine zi_iload (pc' := 90) rfl rfl rfl ?_
      refine zi_iconst (pc' := 91) rfl rfl ?_
      refine zi_iadd (pc' := 92) rfl rfl ?_
      refine zi_istore (pc' := 94) [some _, some _, some _, some _, some _, some _] rfl rfl rfl ?_
      refine zi_wk (s_M_wordAt_l94 hd h (fun k22 g23 h => ?_)) (And.intro rfl (And.intro rfl (And.intro rfl (And.intro rfl (And.intro rfl trivial)))))
      refine zi_goto (x := 5) rfl ?_
      exact zi_wk (hH _ _ _ h) (And.intro rfl (And.intro rfl (And.intro rfl (And.intro rfl (And.intro rfl trivial)))))
    · replace h := h.2 c25
      exact zi_wk (hK86 _ _ h) (And.intro rfl (And.intro rfl (And.intro rfl (And.intro rfl trivial))))
set_option maxRecDepth 100000 in
theorem s_M_wordAt_l5_r {E : sx_E} {d : Nat} (hd : 1 ≤ d) {l1 : Int} {l2 : Int} {K86 : Int → zi_M → Prop} {K118 : zi_M → Prop} {Q : Int → zi_M → Prop} (hK86 : ∀ (k3 : Int) (g : zi_M), K86 k3 g → zi_W E d 206 86 [some (.ref 214), some (zi_i l1), some (zi_i l2), some (zi_i k3), none, none] [] g (zi_Q Q)) (hK118 : ∀ (g : zi_M), K118 g → zi_W E d 206 118 [some (.ref 214), some (zi_i l1), some (zi_i l2), none, none, none] [] g (zi_Q Q)) : ∀ (f : Nat) {l3 : Int} {l4 : Int} {g : zi_M}, w_M_wordAt_l5 l1 l2 K86 K118 Q f l3 l4 g → zi_W E d 206 5 [some (.ref 214), some (zi_i l1), some (zi_i l2), some (zi_i l3), some (zi_i l4), none] [] g (zi_Q Q)
  | 0, _, _, _, h => False.elim h
  | f + 1, l3, l4, g, h => by
    refine zi_iload (pc' := 7) rfl rfl rfl ?_
    refine zi_sipush (pc' := 10) rfl rfl (by decide) ?_
    obtain ⟨o1, h⟩ := h
    refine zi_icmp_ge (x := 118) (pc' := 13) rfl rfl o1 (by decide) (fun c28 => ?_) (fun c28 => ?_)
    · replace h := h.1 c28
      exact zi_wk (hK118 _ h) (And.intro rfl (And.intro rfl (And.intro rfl trivial)))
    · replace h := h.2 c28
      refine zi_iconst (pc' := 14) rfl rfl ?_
      refine zi_istore (pc' := 16) [some _, some _, some _, some _, some _, some _] rfl rfl rfl ?_
      refine zi_iload_n (pc' := 17) rfl rfl rfl ?_
      refine zi_iconst (pc' := 18) rfl rfl ?_
      refine zi_iadd (pc' := 19) rfl rfl ?_
      refine zi_istore_n (pc' := 20) [some _, some _, some _, some _, some _, some _] rfl rfl rfl ?_
      refine zi_wk (s_M_wordAt_l20 hd h (fun k10 g11 h => ?_)) (And.intro rfl (And.intro rfl (And.intro rfl (And.intro rfl (And.intro rfl (And.intro rfl trivial))))))
      exact zi_wk (s_M_wordAt_b61 hd h (fun _ _ _ h => s_M_wordAt_l5_r hd hK86 hK118 f h) hK86 hK118) (And.intro rfl (And.intro rfl (And.intro rfl (And.intro rfl (And.intro rfl (And.intro rfl trivial))))))
set_option maxRecDepth 100000 in
theorem s_M_wordAt_l5 {E : sx_E} {d : Nat} (hd : 1 ≤ d) {l1 : Int} {l2 : Int} {K86 : Int → zi_M → Prop} {K118 : zi_M → Prop} {Q : Int → zi_M → Prop} {l3 : Int} {l4 : Int} {g : zi_M} (h : ∃ f, w_M_wordAt_l5 l1 l2 K86 K118 Q f l3 l4 g) (hK86 : ∀ (k3 : Int) (g : zi_M), K86 k3 g → zi_W E d 206 86 [some (.ref 214), some (zi_i l1), some (zi_i l2), some (zi_i k3), none, none] [] g (zi_Q Q)) (hK118 : ∀ (g : zi_M), K118 g → zi_W E d 206 118 [some (.ref 214), some (zi_i l1), some (zi_i l2), none, none, none] [] g (zi_Q Q)) : zi_W E d 206 5 [some (.ref 214), some (zi_i l1), some (zi_i l2), some (zi_i l3), some (zi_i l4), none] [] g (zi_Q Q) := by
  obtain ⟨f, h⟩ := h
  exact s_M_wordAt_l5_r hd hK86 hK118 f h
set_option maxRecDepth 100000 in
theorem s_M_wordAt {E : sx_E} {d : Nat} (hd : 1 ≤ d) {l1 : Int} {l2 : Int} {g : zi_M} {Q : Int → zi_M → Prop} (h : w_M_wordAt l1 l2 g Q) : zi_S E d 206 [.ref 214, zi_i l1, zi_i l2] g (zi_Q Q) := by
  refine zi_Sof jf_206 [some (.ref 214), some (zi_i l1), some (zi_i l2), none, none, none] rfl (And.intro rfl (And.intro rfl (And.intro rfl trivial))) ?_
  unfold w_M_wordAt at h
  refine zi_iconst (pc' := 1) rfl rfl ?_
  refine zi_istore_n (pc' := 2) [some _, some _, some _, some _, none, none] rfl rfl rfl ?_
  refine zi_iconst (pc' := 3) rfl rfl ?_
  refine zi_istore (pc' := 5) [some _, some _, some _, some _, some _, none] rfl rfl rfl ?_
  refine zi_wk (s_M_wordAt_l5 hd h (fun k29 g30 h => ?_) (fun g31 h => ?_)) (And.intro rfl (And.intro rfl (And.intro rfl (And.intro rfl (And.intro rfl trivial)))))
  · refine zi_iload_n (pc' := 87) rfl rfl rfl ?_
    exact zi_iret rfl rfl h
  · refine zi_iconst (pc' := 119) rfl rfl ?_
    exact zi_iret rfl rfl h
-- SpoutNewsModel.reads()V
noncomputable def w_M_reads_l0 (K39 : zi_M → Prop) (Q : Int → zi_M → Prop) : Nat → zi_M → Prop
  | 0, _ => False
  | f + 1, g => w_M_raw (g 214 14) g (fun v1 g2 => (zi_r v1 ∧ ((v1 = 32 → (∀ g5, g5 = zi_u g2 214 14 ((g2 214 14) + 1) → w_M_reads_l0 K39 Q f g5)) ∧ (¬ v1 = 32 → w_M_raw (g2 214 14) g2 (fun v6 g7 => (zi_r v6 ∧ ((¬ v6 = 10 → K39 g7) ∧ (v6 = 10 → (∀ g10, g10 = zi_u g7 214 14 ((g7 214 14) + 1) → w_M_reads_l0 K39 Q f g10)))))))))
noncomputable def w_M_reads_l171 (K239 : zi_M → Prop) (Q : Int → zi_M → Prop) : Nat → zi_M → Prop
  | 0, _ => False
  | f + 1, g => w_M_raw (g 214 14) g (fun v34 g35 => w_M_isDigit v34 g35 (fun v37 g38 => ((v37 = 0 → K239 g38) ∧ (¬ v37 = 0 → (zi_r (g38 214 17) ∧ ((10000 ≤ (g38 214 17) → (∀ g41, g41 = zi_u g38 214 17 (g38 214 17) → (∀ g42, g42 = zi_u g41 214 14 ((g41 214 14) + 1) → w_M_reads_l171 K239 Q f g42))) ∧ ((g38 214 17) < 10000 → w_M_raw (g38 214 14) g38 (fun v43 g44 => (∀ g46, g46 = zi_u g44 214 17 (((10 * (g38 214 17)) + v43) - 48) → (∀ g47, g47 = zi_u g46 214 14 ((g46 214 14) + 1) → w_M_reads_l171 K239 Q f g47))))))))))
noncomputable def w_M_reads_l95 (K123 : zi_M → Prop) (Q : Int → zi_M → Prop) : Nat → zi_M → Prop
  | 0, _ => False
  | f + 1, g => w_M_raw (g 214 14) g (fun v56 g57 => w_M_isLetter v56 g57 (fun v59 g60 => ((v59 = 0 → K123 g60) ∧ (¬ v59 = 0 → (∀ g62, g62 = zi_u g60 214 14 ((g60 214 14) + 1) → w_M_reads_l95 K123 Q f g62)))))
noncomputable def w_M_reads (g : zi_M) (Q : Int → zi_M → Prop) : Prop := (∃ f76, w_M_reads_l0 (fun g13 => (∀ g14, g14 = zi_u g13 214 15 (g13 214 14) → (∀ g15, g15 = zi_u g14 214 16 1 → w_M_raw (g15 214 14) g15 (fun v16 g17 => (zi_r v16 ∧ ((¬ v16 = (-1) → (∀ g20, g20 = zi_u g17 214 14 ((g17 214 14) + 1) → (∀ g21, g21 = zi_u g20 214 17 v16 → w_M_isLetter v16 g21 (fun v22 g23 => ((v22 = 0 → w_M_isDigit v16 g23 (fun v25 g26 => ((v25 = 0 → w_M_isMarkSign v16 g26 (fun v28 g29 => ((v28 = 0 → Q 0 g29) ∧ (¬ v28 = 0 → (∀ g31, g31 = zi_u g29 214 16 4 → Q 0 g31))))) ∧ (¬ v25 = 0 → (∀ g33, g33 = zi_u g26 214 17 (v16 - 48) → (∃ f54, w_M_reads_l171 (fun g50 => (zi_r ((g50 214 14) - (g50 214 15)) ∧ ((5 ≤ ((g50 214 14) - (g50 214 15)) → Q 0 g50) ∧ (((g50 214 14) - (g50 214 15)) < 5 → (∀ g52, g52 = zi_u g50 214 16 3 → Q 0 g52))))) Q f54 g33)))))) ∧ (¬ v22 = 0 → (∃ f72, w_M_reads_l95 (fun g64 => w_M_wordAt (g64 214 15) (g64 214 14) g64 (fun v65 g66 => (∀ g68, g68 = zi_u g66 214 17 v65 → (zi_r (g68 214 17) ∧ (((g68 214 17) = (-1) → Q 0 g68) ∧ (¬ (g68 214 17) = (-1) → (∀ g70, g70 = zi_u g68 214 16 2 → Q 0 g70))))))) Q f72 g23))))))) ∧ (v16 = (-1) → (∀ g74, g74 = zi_u g17 214 16 0 → Q 0 g74)))))))) Q f76 g)
set_option maxRecDepth 100000 in
theorem s_M_reads_l0_r {E : sx_E} {d : Nat} (hd : 3 ≤ d) {K39 : zi_M → Prop} {Q : Int → zi_M → Prop} (hK39 : ∀ (g : zi_M), K39 g → zi_W E d 203 39 [some (.ref 214), none] [] g (zi_Qv Q)) : ∀ (f : Nat) {g : zi_M}, w_M_reads_l0 K39 Q f g → zi_W E d 203 0 [some (.ref 214), none] [] g (zi_Qv Q)
  | 0, _, h => False.elim h
  | f + 1, g, h => by
    refine zi_aload_n (pc' := 1) rfl rfl rfl ?_
    refine zi_aload_n (pc' := 2) rfl rfl rfl ?_
    refine zi_geti (pc' := 5) 14 rfl rfl rfl rfl rfl rfl ?_
    refine zi_callV (d' := 1) (as := [_]) (pc' := 8) rfl rfl rfl rfl (Nat.lt_of_lt_of_le (by decide) hd) (s_M_raw (Nat.le_refl _) h) (zi_ki (fun v1 g2 h => ?_))
    refine zi_bipush (pc' := 10) rfl rfl (by decide) ?_
    obtain ⟨o4, h⟩ := h
    refine zi_icmp_eq (x := 26) (pc' := 13) rfl rfl o4 (by decide) (fun c12 => ?_) (fun c12 => ?_)
    · replace h := h.1 c12
      refine zi_aload_n (pc' := 27) rfl rfl rfl ?_
      refine zi_aload_n (pc' := 28) rfl rfl rfl ?_
      refine zi_geti (pc' := 31) 14 rfl rfl rfl rfl rfl rfl ?_
      refine zi_iconst (pc' := 32) rfl rfl ?_
      refine zi_iadd (pc' := 33) rfl rfl ?_
      refine zi_puti (pc' := 36) 14 rfl rfl rfl rfl rfl  ?_
      replace h := h _ rfl
      refine zi_goto (x := 0) rfl ?_
      exact zi_wk (s_M_reads_l0_r hd hK39 f h) (And.intro rfl trivial)
    · replace h := h.2 c12
      refine zi_aload_n (pc' := 14) rfl rfl rfl ?_
      refine zi_aload_n (pc' := 15) rfl rfl rfl ?_
      refine zi_geti (pc' := 18) 14 rfl rfl rfl rfl rfl rfl ?_
      refine zi_callV (d' := 1) (as := [_]) (pc' := 21) rfl rfl rfl rfl (Nat.lt_of_lt_of_le (by decide) hd) (s_M_raw (Nat.le_refl _) h) (zi_ki (fun v6 g7 h => ?_))
      refine zi_bipush (pc' := 23) rfl rfl (by decide) ?_
      obtain ⟨o9, h⟩ := h
      refine zi_icmp_ne (x := 39) (pc' := 26) rfl rfl o9 (by decide) (fun c11 => ?_) (fun c11 => ?_)
      · replace h := h.1 c11
        exact zi_wk (hK39 _ h) (And.intro rfl trivial)
      · replace h := h.2 c11
        refine zi_aload_n (pc' := 27) rfl rfl rfl ?_
        refine zi_aload_n (pc' := 28) rfl rfl rfl ?_
        refine zi_geti (pc' := 31) 14 rfl rfl rfl rfl rfl rfl ?_
        refine zi_iconst (pc' := 32) rfl rfl ?_
        refine zi_iadd (pc' := 33) rfl rfl ?_
        refine zi_puti (pc' := 36) 14 rfl rfl rfl rfl rfl  ?_
        replace h := h _ rfl
        refine zi_goto (x := 0) rfl ?_
        exact zi_wk (s_M_reads_l0_r hd hK39 f h) (And.intro rfl trivial)
set_option maxRecDepth 100000 in
theorem s_M_reads_l0 {E : sx_E} {d : Nat} (hd : 3 ≤ d) {K39 : zi_M → Prop} {Q : Int → zi_M → Prop} {g : zi_M} (h : ∃ f, w_M_reads_l0 K39 Q f g) (hK39 : ∀ (g : zi_M), K39 g → zi_W E d 203 39 [some (.ref 214), none] [] g (zi_Qv Q)) : zi_W E d 203 0 [some (.ref 214), none] [] g (zi_Qv Q) := by
  obtain ⟨f, h⟩ := h
  exact s_M_reads_l0_r hd hK39 f h
set_option maxRecDepth 100000 in
theorem s_M_reads_l171_r {E : sx_E} {d : Nat} (hd : 3 ≤ d) {K239 : zi_M → Prop} {Q : Int → zi_M → Prop} (hK239 : ∀ (g : zi_M), K239 g → zi_W E d 203 239 [some (.ref 214), none] [] g (zi_Qv Q)) : ∀ (f : Nat) {g : zi_M}, w_M_reads_l171 K239 Q f g → zi_W E d 203 171 [some (.ref 214), none] [] g (zi_Qv Q)
  | 0, _, h => False.elim h
  | f + 1, g, h => by
    refine zi_aload_n (pc' := 172) rfl rfl rfl ?_
    refine zi_aload_n (pc' := 173) rfl rfl rfl ?_
    refine zi_aload_n (pc' := 174) rfl rfl rfl ?_
    refine zi_geti (pc' := 177) 14 rfl rfl rfl rfl rfl rfl ?_
    refine zi_callV (d' := 1) (as := [_]) (pc' := 180) rfl rfl rfl rfl (Nat.lt_of_lt_of_le (by decide) hd) (s_M_raw (Nat.le_refl _) h) (zi_ki (fun v34 g35 h => ?_))
    refine zi_callV (d' := 2) (as := [_]) (pc' := 183) rfl rfl rfl rfl (Nat.lt_of_lt_of_le (by decide) hd) (s_M_isDigit (Nat.le_refl _) h) (zi_kb (fun v37 g38 b39 h => ?_))
    refine zi_if_eq (x := 239) (pc' := 186) rfl rfl (zi_r_bit b39)  (fun c49 => ?_) (fun c49 => ?_)
    · replace h := h.1 c49
      exact zi_wk (hK239 _ h) (And.intro rfl trivial)
    · replace h := h.2 c49
      refine zi_aload_n (pc' := 187) rfl rfl rfl ?_
      refine zi_aload_n (pc' := 188) rfl rfl rfl ?_
      refine zi_geti (pc' := 191) 17 rfl rfl rfl rfl rfl rfl ?_
      refine zi_sipush (pc' := 194) rfl rfl (by decide) ?_
      obtain ⟨o40, h⟩ := h
      refine zi_icmp_ge (x := 219) (pc' := 197) rfl rfl o40 (by decide) (fun c48 => ?_) (fun c48 => ?_)
      · replace h := h.1 c48
        refine zi_aload_n (pc' := 220) rfl rfl rfl ?_
        refine zi_geti (pc' := 223) 17 rfl rfl rfl rfl rfl rfl ?_
        refine zi_puti (pc' := 226) 17 rfl rfl rfl rfl rfl  ?_
        replace h := h _ rfl
        refine zi_aload_n (pc' := 227) rfl rfl rfl ?_
        refine zi_aload_n (pc' := 228) rfl rfl rfl ?_
        refine zi_geti (pc' := 231) 14 rfl rfl rfl rfl rfl rfl ?_
        refine zi_iconst (pc' := 232) rfl rfl ?_
        refine zi_iadd (pc' := 233) rfl rfl ?_
        refine zi_puti (pc' := 236) 14 rfl rfl rfl rfl rfl  ?_
        replace h := h _ rfl
        refine zi_goto (x := 171) rfl ?_
        exact zi_wk (s_M_reads_l171_r hd hK239 f h) (And.intro rfl trivial)
      · replace h := h.2 c48
        refine zi_bipush (pc' := 199) rfl rfl (by decide) ?_
        refine zi_aload_n (pc' := 200) rfl rfl rfl ?_
        refine zi_geti (pc' := 203) 17 rfl rfl rfl rfl rfl rfl ?_
        refine zi_imul (pc' := 204) rfl rfl ?_
        refine zi_aload_n (pc' := 205) rfl rfl rfl ?_
        refine zi_aload_n (pc' := 206) rfl rfl rfl ?_
        refine zi_geti (pc' := 209) 14 rfl rfl rfl rfl rfl rfl ?_
        refine zi_callV (d' := 1) (as := [_]) (pc' := 212) rfl rfl rfl rfl (Nat.lt_of_lt_of_le (by decide) hd) (s_M_raw (Nat.le_refl _) h) (zi_ki (fun v43 g44 h => ?_))
        refine zi_iadd (pc' := 213) rfl rfl ?_
        refine zi_bipush (pc' := 215) rfl rfl (by decide) ?_
        refine zi_isub (pc' := 216) rfl rfl ?_
        refine zi_goto (x := 223) rfl ?_
        refine zi_puti (pc' := 226) 17 rfl rfl rfl rfl rfl  ?_
        replace h := h _ rfl
        refine zi_aload_n (pc' := 227) rfl rfl rfl ?_
        refine zi_aload_n (pc' := 228) rfl rfl rfl ?_
        refine zi_geti (pc' := 231) 14 rfl rfl rfl rfl rfl rfl ?_
        refine zi_iconst (pc' := 232) rfl rfl ?_
        refine zi_iadd (pc' := 233) rfl rfl ?_
        refine zi_puti (pc' := 236) 14 rfl rfl rfl rfl rfl  ?_
        replace h := h _ rfl
        refine zi_goto (x := 171) rfl ?_
        exact zi_wk (s_M_reads_l171_r hd hK239 f h) (And.intro rfl trivial)
set_option maxRecDepth 100000 in
theorem s_M_reads_l171 {E : sx_E} {d : Nat} (hd : 3 ≤ d) {K239 : zi_M → Prop} {Q : Int → zi_M → Prop} {g : zi_M} (h : ∃ f, w_M_reads_l171 K239 Q f g) (hK239 : ∀ (g : zi_M), K239 g → zi_W E d 203 239 [some (.ref 214), none] [] g (zi_Qv Q)) : zi_W E d 203 171 [some (.ref 214), none] [] g (zi_Qv Q) := by
  obtain ⟨f, h⟩ := h
  exact s_M_reads_l171_r hd hK239 f h
set_option maxRecDepth 100000 in
theorem s_M_reads_l95_r {E : sx_E} {d : Nat} (hd : 3 ≤ d) {K123 : zi_M → Prop} {Q : Int → zi_M → Prop} (hK123 : ∀ (g : zi_M), K123 g → zi_W E d 203 123 [some (.ref 214), none] [] g (zi_Qv Q)) : ∀ (f : Nat) {g : zi_M}, w_M_reads_l95 K123 Q f g → zi_W E d 203 95 [some (.ref 214), none] [] g (zi_Qv Q)
  | 0, _, h => False.elim h
  | f + 1, g, h => by
    refine zi_aload_n (pc' := 96) rfl rfl rfl ?_
    refine zi_aload_n (pc' := 97) rfl rfl rfl ?_
    refine zi_aload_n (pc' := 98) rfl rfl rfl ?_
    refine zi_geti (pc' := 101) 14 rfl rfl rfl rfl rfl rfl ?_
    refine zi_callV (d' := 1) (as := [_]) (pc' := 104) rfl rfl rfl rfl (Nat.lt_of_lt_of_le (by decide) hd) (s_M_raw (Nat.le_refl _) h) (zi_ki (fun v56 g57 h => ?_))
    refine zi_callV (d' := 2) (as := [_]) (pc' := 107) rfl rfl rfl rfl (Nat.lt_of_lt_of_le (by decide) hd) (s_M_isLetter (Nat.le_refl _) h) (zi_kb (fun v59 g60 b61 h => ?_))
    refine zi_if_eq (x := 123) (pc' := 110) rfl rfl (zi_r_bit b61)  (fun c63 => ?_) (fun c63 => ?_)
    · replace h := h.1 c63
      exact zi_wk (hK123 _ h) (And.intro rfl trivial)
    · replace h := h.2 c63
      refine zi_aload_n (pc' := 111) rfl rfl rfl ?_
      refine zi_aload_n (pc' := 112) rfl rfl rfl ?_
      refine zi_geti (pc' := 115) 14 rfl rfl rfl rfl rfl rfl ?_
      refine zi_iconst (pc' := 116) rfl rfl ?_
      refine zi_iadd (pc' := 117) rfl rfl ?_
      refine zi_puti (pc' := 120) 14 rfl rfl rfl rfl rfl  ?_
      replace h := h _ rfl
      refine zi_goto (x := 95) rfl ?_
      exact zi_wk (s_M_reads_l95_r hd hK123 f h) (And.intro rfl trivial)
set_option maxRecDepth 100000 in
theorem s_M_reads_l95 {E : sx_E} {d : Nat} (hd : 3 ≤ d) {K123 : zi_M → Prop} {Q : Int → zi_M → Prop} {g : zi_M} (h : ∃ f, w_M_reads_l95 K123 Q f g) (hK123 : ∀ (g : zi_M), K123 g → zi_W E d 203 123 [some (.ref 214), none] [] g (zi_Qv Q)) : zi_W E d 203 95 [some (.ref 214), none] [] g (zi_Qv Q) := by
  obtain ⟨f, h⟩ := h
  exact s_M_reads_l95_r hd hK123 f h
set_option maxRecDepth 100000 in
theorem s_M_reads {E : sx_E} {d : Nat} (hd : 3 ≤ d) {g : zi_M} {Q : Int → zi_M → Prop} (h : w_M_reads g Q) : zi_S E d 203 [.ref 214] g (zi_Qv Q) := by
  refine zi_Sof jf_203 [some (.ref 214), none] rfl (And.intro rfl trivial) ?_
  unfold w_M_reads at h
  refine zi_wk (s_M_reads_l0 hd h (fun g13 h => ?_)) (And.intro rfl trivial)
  refine zi_aload_n (pc' := 40) rfl rfl rfl ?_
  refine zi_aload_n (pc' := 41) rfl rfl rfl ?_
  refine zi_geti (pc' := 44) 14 rfl rfl rfl rfl rfl rfl ?_
  refine zi_puti (pc' := 47) 15 rfl rfl rfl rfl rfl  ?_
  replace h := h _ rfl
  refine zi_aload_n (pc' := 48) rfl rfl rfl ?_
  refine zi_iconst (pc' := 49) rfl rfl ?_
  refine zi_puti (pc' := 52) 16 rfl rfl rfl rfl rfl  ?_
  replace h := h _ rfl
  refine zi_aload_n (pc' := 53) rfl rfl rfl ?_
  refine zi_aload_n (pc' := 54) rfl rfl rfl ?_
  refine zi_geti (pc' := 57) 14 rfl rfl rfl rfl rfl rfl ?_
  refine zi_callV (d' := 1) (as := [_]) (pc' := 60) rfl rfl rfl rfl (Nat.lt_of_lt_of_le (by decide) hd) (s_M_raw (Nat.le_refl _) h) (zi_ki (fun v16 g17 h => ?_))
  refine zi_istore_n (pc' := 61) [some _, some _] rfl rfl rfl ?_
  refine zi_iload_n (pc' := 62) rfl rfl rfl ?_
  refine zi_iconst (pc' := 63) rfl rfl ?_
  obtain ⟨o19, h⟩ := h
  refine zi_icmp_ne (x := 72) (pc' := 66) rfl rfl o19 (by decide) (fun c75 => ?_) (fun c75 => ?_)
  · replace h := h.1 c75
    refine zi_aload_n (pc' := 73) rfl rfl rfl ?_
    refine zi_aload_n (pc' := 74) rfl rfl rfl ?_
    refine zi_geti (pc' := 77) 14 rfl rfl rfl rfl rfl rfl ?_
    refine zi_iconst (pc' := 78) rfl rfl ?_
    refine zi_iadd (pc' := 79) rfl rfl ?_
    refine zi_puti (pc' := 82) 14 rfl rfl rfl rfl rfl  ?_
    replace h := h _ rfl
    refine zi_aload_n (pc' := 83) rfl rfl rfl ?_
    refine zi_iload_n (pc' := 84) rfl rfl rfl ?_
    refine zi_puti (pc' := 87) 17 rfl rfl rfl rfl rfl  ?_
    replace h := h _ rfl
    refine zi_aload_n (pc' := 88) rfl rfl rfl ?_
    refine zi_iload_n (pc' := 89) rfl rfl rfl ?_
    refine zi_callV (d' := 2) (as := [_]) (pc' := 92) rfl rfl rfl rfl (Nat.lt_of_lt_of_le (by decide) hd) (s_M_isLetter (Nat.le_refl _) h) (zi_kb (fun v22 g23 b24 h => ?_))
    refine zi_if_eq (x := 155) (pc' := 95) rfl rfl (zi_r_bit b24)  (fun c73 => ?_) (fun c73 => ?_)
    · replace h := h.1 c73
      refine zi_aload_n (pc' := 156) rfl rfl rfl ?_
      refine zi_iload_n (pc' := 157) rfl rfl rfl ?_
      refine zi_callV (d' := 2) (as := [_]) (pc' := 160) rfl rfl rfl rfl (Nat.lt_of_lt_of_le (by decide) hd) (s_M_isDigit (Nat.le_refl _) h) (zi_kb (fun v25 g26 b27 h => ?_))
      refine zi_if_eq (x := 260) (pc' := 163) rfl rfl (zi_r_bit b27)  (fun c55 => ?_) (fun c55 => ?_)
      · replace h := h.1 c55
        refine zi_aload_n (pc' := 261) rfl rfl rfl ?_
        refine zi_iload_n (pc' := 262) rfl rfl rfl ?_
        refine zi_callV (d' := 1) (as := [_]) (pc' := 265) rfl rfl rfl rfl (Nat.lt_of_lt_of_le (by decide) hd) (s_M_isMarkSign (Nat.le_refl _) h) (zi_kb (fun v28 g29 b30 h => ?_))
        refine zi_if_eq (x := 273) (pc' := 268) rfl rfl (zi_r_bit b30)  (fun c32 => ?_) (fun c32 => ?_)
        · replace h := h.1 c32
          exact zi_vret rfl rfl h
        · replace h := h.2 c32
          refine zi_aload_n (pc' := 269) rfl rfl rfl ?_
          refine zi_iconst (pc' := 270) rfl rfl ?_
          refine zi_puti (pc' := 273) 16 rfl rfl rfl rfl rfl  ?_
          replace h := h _ rfl
          exact zi_vret rfl rfl h
      · replace h := h.2 c55
        refine zi_aload_n (pc' := 164) rfl rfl rfl ?_
        refine zi_iload_n (pc' := 165) rfl rfl rfl ?_
        refine zi_bipush (pc' := 167) rfl rfl (by decide) ?_
        refine zi_isub (pc' := 168) rfl rfl ?_
        refine zi_puti (pc' := 171) 17 rfl rfl rfl rfl rfl  ?_
        replace h := h _ rfl
        refine zi_wk (s_M_reads_l171 hd h (fun g50 h => ?_)) (And.intro rfl trivial)
        refine zi_aload_n (pc' := 240) rfl rfl rfl ?_
        refine zi_geti (pc' := 243) 14 rfl rfl rfl rfl rfl rfl ?_
        refine zi_aload_n (pc' := 244) rfl rfl rfl ?_
        refine zi_geti (pc' := 247) 15 rfl rfl rfl rfl rfl rfl ?_
        refine zi_isub (pc' := 248) rfl rfl ?_
        refine zi_iconst (pc' := 249) rfl rfl ?_
        obtain ⟨o51, h⟩ := h
        refine zi_icmp_ge (x := 273) (pc' := 252) rfl rfl o51 (by decide) (fun c53 => ?_) (fun c53 => ?_)
        · replace h := h.1 c53
          exact zi_vret rfl rfl h
        · replace h := h.2 c53
          refine zi_aload_n (pc' := 253) rfl rfl rfl ?_
          refine zi_iconst (pc' := 254) rfl rfl ?_
          refine zi_puti (pc' := 257) 16 rfl rfl rfl rfl rfl  ?_
          replace h := h _ rfl
          refine zi_goto (x := 273) rfl ?_
          exact zi_vret rfl rfl h
    · replace h := h.2 c73
      refine zi_wk (s_M_reads_l95 hd h (fun g64 h => ?_)) (And.intro rfl trivial)
      refine zi_aload_n (pc' := 124) rfl rfl rfl ?_
      refine zi_aload_n (pc' := 125) rfl rfl rfl ?_
      refine zi_aload_n (pc' := 126) rfl rfl rfl ?_
      refine zi_geti (pc' := 129) 15 rfl rfl rfl rfl rfl rfl ?_
      refine zi_aload_n (pc' := 130) rfl rfl rfl ?_
      refine zi_geti (pc' := 133) 14 rfl rfl rfl rfl rfl rfl ?_
      refine zi_callV (d' := 1) (as := [_, _]) (pc' := 136) rfl rfl rfl rfl (Nat.lt_of_lt_of_le (by decide) hd) (s_M_wordAt (Nat.le_refl _) h) (zi_ki (fun v65 g66 h => ?_))
      refine zi_puti (pc' := 139) 17 rfl rfl rfl rfl rfl  ?_
      replace h := h _ rfl
      refine zi_aload_n (pc' := 140) rfl rfl rfl ?_
      refine zi_geti (pc' := 143) 17 rfl rfl rfl rfl rfl rfl ?_
      refine zi_iconst (pc' := 144) rfl rfl ?_
      obtain ⟨o69, h⟩ := h
      refine zi_icmp_eq (x := 273) (pc' := 147) rfl rfl o69 (by decide) (fun c71 => ?_) (fun c71 => ?_)
      · replace h := h.1 c71
        exact zi_vret rfl rfl h
      · replace h := h.2 c71
        refine zi_aload_n (pc' := 148) rfl rfl rfl ?_
        refine zi_iconst (pc' := 149) rfl rfl ?_
        refine zi_puti (pc' := 152) 16 rfl rfl rfl rfl rfl  ?_
        replace h := h _ rfl
        refine zi_goto (x := 273) rfl ?_
        exact zi_vret rfl rfl h
  · replace h := h.2 c75
    refine zi_aload_n (pc' := 67) rfl rfl rfl ?_
    refine zi_iconst (pc' := 68) rfl rfl ?_
    refine zi_puti (pc' := 71) 16 rfl rfl rfl rfl rfl  ?_
    replace h := h _ rfl
    exact zi_vret rfl rfl h
-- SpoutNewsModel.isLineWord()Z
noncomputable def w_M_isLineWord (g : zi_M) (Q : Int → zi_M → Prop) : Prop := (zi_r (g 214 16) ∧ ((¬ (g 214 16) = 2 → Q 0 g) ∧ ((g 214 16) = 2 → w_M_isIn (g 214 17) 0 2 g (fun v2 g3 => ((v2 = 0 → Q 0 g3) ∧ (¬ v2 = 0 → Q 1 g3))))))
set_option maxRecDepth 100000 in
theorem s_M_isLineWord {E : sx_E} {d : Nat} (hd : 2 ≤ d) {g : zi_M} {Q : Int → zi_M → Prop} (h : w_M_isLineWord g Q) : zi_S E d 223 [.ref 214] g (zi_Qb Q) := by
  refine zi_Sof jf_223 [some (.ref 214)] rfl (And.intro rfl trivial) ?_
  unfold w_M_isLineWord at h
  refine zi_aload_n (pc' := 1) rfl rfl rfl ?_
  refine zi_geti (pc' := 4) 16 rfl rfl rfl rfl rfl rfl ?_
  refine zi_iconst (pc' := 5) rfl rfl ?_
  obtain ⟨o1, h⟩ := h
  refine zi_icmp_ne (x := 25) (pc' := 8) rfl rfl o1 (by decide) (fun c6 => ?_) (fun c6 => ?_)
  · replace h := h.1 c6
    refine zi_iconst (pc' := 26) rfl rfl ?_
    exact zi_zret rfl rfl (Or.inl rfl) h
  · replace h := h.2 c6
    refine zi_aload_n (pc' := 9) rfl rfl rfl ?_
    refine zi_aload_n (pc' := 10) rfl rfl rfl ?_
    refine zi_geti (pc' := 13) 17 rfl rfl rfl rfl rfl rfl ?_
    refine zi_iconst (pc' := 14) rfl rfl ?_
    refine zi_iconst (pc' := 15) rfl rfl ?_
    refine zi_callV (d' := 1) (as := [_, _, _]) (pc' := 18) rfl rfl rfl rfl (Nat.lt_of_lt_of_le (by decide) hd) (s_M_isIn (Nat.le_refl _) h) (zi_kb (fun v2 g3 b4 h => ?_))
    refine zi_if_eq (x := 25) (pc' := 21) rfl rfl (zi_r_bit b4)  (fun c5 => ?_) (fun c5 => ?_)
    · replace h := h.1 c5
      refine zi_iconst (pc' := 26) rfl rfl ?_
      exact zi_zret rfl rfl (Or.inl rfl) h
    · replace h := h.2 c5
      refine zi_iconst (pc' := 22) rfl rfl ?_
      refine zi_goto (x := 26) rfl ?_
      exact zi_zret rfl rfl (Or.inr rfl) h
-- SpoutNewsModel.emits(II)V
noncomputable def w_M_emits (l1 : Int) (l2 : Int) (g : zi_M) (Q : Int → zi_M → Prop) : Prop := ((0 ≤ (800 + (g 214 27)) ∧ (800 + (g 214 27)) < 1200) ∧ (∀ g2, g2 = zi_u g 229 (800 + (g 214 27)) l1 → ((0 ≤ (800 + (g2 214 27)) ∧ (800 + (g2 214 27)) < 1200) ∧ (∀ g4, g4 = zi_u g2 230 (800 + (g2 214 27)) l2 → (∀ g5, g5 = zi_u g4 214 27 ((g4 214 27) + 1) → Q 0 g5)))))
set_option maxRecDepth 100000 in
theorem s_M_emits {E : sx_E} {d : Nat} (hd : 1 ≤ d) {l1 : Int} {l2 : Int} {g : zi_M} {Q : Int → zi_M → Prop} (h : w_M_emits l1 l2 g Q) : zi_S E d 228 [.ref 214, zi_i l1, zi_i l2] g (zi_Qv Q) := by
  refine zi_Sof jf_228 [some (.ref 214), some (zi_i l1), some (zi_i l2)] rfl (And.intro rfl (And.intro rfl (And.intro rfl trivial))) ?_
  unfold w_M_emits at h
  refine zi_aload_n (pc' := 1) rfl rfl rfl ?_
  refine zi_getr (pc' := 4) rfl rfl rfl rfl rfl ?_
  refine zi_sipush (pc' := 7) rfl rfl (by decide) ?_
  refine zi_aload_n (pc' := 8) rfl rfl rfl ?_
  refine zi_geti (pc' := 11) 27 rfl rfl rfl rfl rfl rfl ?_
  refine zi_iadd (pc' := 12) rfl rfl ?_
  refine zi_iload_n (pc' := 13) rfl rfl rfl ?_
  obtain ⟨o1, h⟩ := h
  refine zi_iast (pc' := 14) rfl rfl rfl o1 ?_
  replace h := h _ rfl
  refine zi_aload_n (pc' := 15) rfl rfl rfl ?_
  refine zi_getr (pc' := 18) rfl rfl rfl rfl rfl ?_
  refine zi_sipush (pc' := 21) rfl rfl (by decide) ?_
  refine zi_aload_n (pc' := 22) rfl rfl rfl ?_
  refine zi_geti (pc' := 25) 27 rfl rfl rfl rfl rfl rfl ?_
  refine zi_iadd (pc' := 26) rfl rfl ?_
  refine zi_iload_n (pc' := 27) rfl rfl rfl ?_
  obtain ⟨o3, h⟩ := h
  refine zi_iast (pc' := 28) rfl rfl rfl o3 ?_
  replace h := h _ rfl
  refine zi_aload_n (pc' := 29) rfl rfl rfl ?_
  refine zi_aload_n (pc' := 30) rfl rfl rfl ?_
  refine zi_geti (pc' := 33) 27 rfl rfl rfl rfl rfl rfl ?_
  refine zi_iconst (pc' := 34) rfl rfl ?_
  refine zi_iadd (pc' := 35) rfl rfl ?_
  refine zi_puti (pc' := 38) 27 rfl rfl rfl rfl rfl  ?_
  replace h := h _ rfl
  exact zi_vret rfl rfl h
-- SpoutNewsModel.errs(I)I
noncomputable def w_M_errs (l1 : Int) (g : zi_M) (Q : Int → zi_M → Prop) : Prop := (∀ g1, g1 = zi_u g 214 31 l1 → (∀ g2, g2 = zi_u g1 214 32 (g1 214 15) → Q (-1) g2))
set_option maxRecDepth 100000 in
theorem s_M_errs {E : sx_E} {d : Nat} (hd : 1 ≤ d) {l1 : Int} {g : zi_M} {Q : Int → zi_M → Prop} (h : w_M_errs l1 g Q) : zi_S E d 211 [.ref 214, zi_i l1] g (zi_Q Q) := by
  refine zi_Sof jf_211 [some (.ref 214), some (zi_i l1)] rfl (And.intro rfl (And.intro rfl trivial)) ?_
  unfold w_M_errs at h
  refine zi_aload_n (pc' := 1) rfl rfl rfl ?_
  refine zi_iload_n (pc' := 2) rfl rfl rfl ?_
  refine zi_puti (pc' := 5) 31 rfl rfl rfl rfl rfl  ?_
  replace h := h _ rfl
  refine zi_aload_n (pc' := 6) rfl rfl rfl ?_
  refine zi_aload_n (pc' := 7) rfl rfl rfl ?_
  refine zi_geti (pc' := 10) 15 rfl rfl rfl rfl rfl rfl ?_
  refine zi_puti (pc' := 13) 32 rfl rfl rfl rfl rfl  ?_
  replace h := h _ rfl
  refine zi_iconst (pc' := 14) rfl rfl ?_
  exact zi_iret rfl rfl h
-- SpoutNewsModel.canAsk(I)Z
noncomputable def w_M_canAsk (l1 : Int) (g : zi_M) (Q : Int → zi_M → Prop) : Prop := w_M_isIn l1 7 15 g (fun v1 g2 => Q v1 g2)
set_option maxRecDepth 100000 in
theorem s_M_canAsk {E : sx_E} {d : Nat} (hd : 2 ≤ d) {l1 : Int} {g : zi_M} {Q : Int → zi_M → Prop} (h : w_M_canAsk l1 g Q) : zi_S E d 227 [.ref 214, zi_i l1] g (zi_Qb Q) := by
  refine zi_Sof jf_227 [some (.ref 214), some (zi_i l1)] rfl (And.intro rfl (And.intro rfl trivial)) ?_
  unfold w_M_canAsk at h
  refine zi_aload_n (pc' := 1) rfl rfl rfl ?_
  refine zi_iload_n (pc' := 2) rfl rfl rfl ?_
  refine zi_bipush (pc' := 4) rfl rfl (by decide) ?_
  refine zi_bipush (pc' := 6) rfl rfl (by decide) ?_
  refine zi_callV (d' := 1) (as := [_, _, _]) (pc' := 9) rfl rfl rfl rfl (Nat.lt_of_lt_of_le (by decide) hd) (s_M_isIn (Nat.le_refl _) h) (zi_kb (fun v1 g2 b3 h => ?_))
  exact zi_zret rfl rfl b3 h
-- SpoutNewsModel.readUnit()I
noncomputable def w_M_readUnit_b43 (l1 : Int) (g : zi_M) (Q : Int → zi_M → Prop) : Prop := (zi_r l1 ∧ ((l1 = 0 → ((l1 = 0 → w_M_emits 0 (g 214 17) g (fun _ g5 => w_M_reads g5 (fun _ g8 => Q 0 g8))) ∧ (¬ l1 = 0 → w_M_emits 0 ((g 214 17) - 7) g (fun _ g11 => w_M_reads g11 (fun _ g14 => Q 0 g14))))) ∧ (¬ l1 = 0 → ((l1 = 0 → w_M_emits 1 (g 214 17) g (fun _ g18 => w_M_reads g18 (fun _ g21 => Q 0 g21))) ∧ (¬ l1 = 0 → w_M_emits 1 ((g 214 17) - 7) g (fun _ g24 => w_M_reads g24 (fun _ g27 => Q 0 g27)))))))
noncomputable def w_M_readUnit_b24 (s0 : Int) (g : zi_M) (Q : Int → zi_M → Prop) : Prop := (zi_r s0 ∧ ((¬ s0 = 0 → w_M_readUnit_b43 s0 g Q) ∧ (s0 = 0 → (zi_r (g 214 16) ∧ (((g 214 16) = 3 → w_M_readUnit_b43 s0 g Q) ∧ (¬ (g 214 16) = 3 → w_M_errs 1 g (fun v32 g33 => Q v32 g33)))))))
noncomputable def w_M_readUnit (g : zi_M) (Q : Int → zi_M → Prop) : Prop := (zi_r (g 214 16) ∧ ((¬ (g 214 16) = 2 → w_M_readUnit_b24 0 g Q) ∧ ((g 214 16) = 2 → w_M_canAsk (g 214 17) g (fun v37 g38 => ((v37 = 0 → w_M_readUnit_b24 0 g38 Q) ∧ (¬ v37 = 0 → w_M_readUnit_b24 1 g38 Q))))))
set_option maxRecDepth 100000 in
theorem s_M_readUnit_b43 {E : sx_E} {d : Nat} (hd : 4 ≤ d) {l1 : Int} {Q : Int → zi_M → Prop} {g : zi_M} (h : w_M_readUnit_b43 l1 g Q) : zi_W E d 226 43 [some (.ref 214), some (zi_i l1)] [] g (zi_Q Q) := by
  unfold w_M_readUnit_b43 at h
  refine zi_aload_n (pc' := 44) rfl rfl rfl ?_
  refine zi_iload_n (pc' := 45) rfl rfl rfl ?_
  obtain ⟨o3, h⟩ := h
  refine zi_if_eq (x := 52) (pc' := 48) rfl rfl o3  (fun c30 => ?_) (fun c30 => ?_)
  · replace h := h.1 c30
    refine zi_iconst (pc' := 53) rfl rfl ?_
    refine zi_iload_n (pc' := 54) rfl rfl rfl ?_
    refine zi_if_eq (x := 67) (pc' := 57) rfl rfl o3  (fun c16 => ?_) (fun c16 => ?_)
    · replace h := h.1 c16
      refine zi_aload_n (pc' := 68) rfl rfl rfl ?_
      refine zi_geti (pc' := 71) 17 rfl rfl rfl rfl rfl rfl ?_
      refine zi_callV (d' := 1) (as := [_, _]) (pc' := 74) rfl rfl rfl rfl (Nat.lt_of_lt_of_le (by decide) hd) (s_M_emits (Nat.le_refl _) h) (zi_kv (fun g5 h => ?_))
      refine zi_aload_n (pc' := 75) rfl rfl rfl ?_
      refine zi_callV (d' := 3) (as := []) (pc' := 78) rfl rfl rfl rfl (Nat.lt_of_lt_of_le (by decide) hd) (s_M_reads (Nat.le_refl _) h) (zi_kv (fun g8 h => ?_))
      refine zi_iconst (pc' := 79) rfl rfl ?_
      exact zi_iret rfl rfl h
    · replace h := h.2 c16
      refine zi_aload_n (pc' := 58) rfl rfl rfl ?_
      refine zi_geti (pc' := 61) 17 rfl rfl rfl rfl rfl rfl ?_
      refine zi_bipush (pc' := 63) rfl rfl (by decide) ?_
      refine zi_isub (pc' := 64) rfl rfl ?_
      refine zi_goto (x := 71) rfl ?_
      refine zi_callV (d' := 1) (as := [_, _]) (pc' := 74) rfl rfl rfl rfl (Nat.lt_of_lt_of_le (by decide) hd) (s_M_emits (Nat.le_refl _) h) (zi_kv (fun g11 h => ?_))
      refine zi_aload_n (pc' := 75) rfl rfl rfl ?_
      refine zi_callV (d' := 3) (as := []) (pc' := 78) rfl rfl rfl rfl (Nat.lt_of_lt_of_le (by decide) hd) (s_M_reads (Nat.le_refl _) h) (zi_kv (fun g14 h => ?_))
      refine zi_iconst (pc' := 79) rfl rfl ?_
      exact zi_iret rfl rfl h
  · replace h := h.2 c30
    refine zi_iconst (pc' := 49) rfl rfl ?_
    refine zi_goto (x := 53) rfl ?_
    refine zi_iload_n (pc' := 54) rfl rfl rfl ?_
    refine zi_if_eq (x := 67) (pc' := 57) rfl rfl o3  (fun c29 => ?_) (fun c29 => ?_)
    · replace h := h.1 c29
      refine zi_aload_n (pc' := 68) rfl rfl rfl ?_
      refine zi_geti (pc' := 71) 17 rfl rfl rfl rfl rfl rfl ?_
      refine zi_callV (d' := 1) (as := [_, _]) (pc' := 74) rfl rfl rfl rfl (Nat.lt_of_lt_of_le (by decide) hd) (s_M_emits (Nat.le_refl _) h) (zi_kv (fun g18 h => ?_))
      refine zi_aload_n (pc' := 75) rfl rfl rfl ?_
      refine zi_callV (d' := 3) (as := []) (pc' := 78) rfl rfl rfl rfl (Nat.lt_of_lt_of_le (by decide) hd) (s_M_reads (Nat.le_refl _) h) (zi_kv (fun g21 h => ?_))
      refine zi_iconst (pc' := 79) rfl rfl ?_
      exact zi_iret rfl rfl h
    · replace h := h.2 c29
      refine zi_aload_n (pc' := 58) rfl rfl rfl ?_
      refine zi_geti (pc' := 61) 17 rfl rfl rfl rfl rfl rfl ?_
      refine zi_bipush (pc' := 63) rfl rfl (by decide) ?_
      refine zi_isub (pc' := 64) rfl rfl ?_
      refine zi_goto (x := 71) rfl ?_
      refine zi_callV (d' := 1) (as := [_, _]) (pc' := 74) rfl rfl rfl rfl (Nat.lt_of_lt_of_le (by decide) hd) (s_M_emits (Nat.le_refl _) h) (zi_kv (fun g24 h => ?_))
      refine zi_aload_n (pc' := 75) rfl rfl rfl ?_
      refine zi_callV (d' := 3) (as := []) (pc' := 78) rfl rfl rfl rfl (Nat.lt_of_lt_of_le (by decide) hd) (s_M_reads (Nat.le_refl _) h) (zi_kv (fun g27 h => ?_))
      refine zi_iconst (pc' := 79) rfl rfl ?_
      exact zi_iret rfl rfl h
set_option maxRecDepth 100000 in
theorem s_M_readUnit_b24 {E : sx_E} {d : Nat} (hd : 4 ≤ d) {s0 : Int} {Q : Int → zi_M → Prop} {g : zi_M} (h : w_M_readUnit_b24 s0 g Q) : zi_W E d 226 24 [some (.ref 214), none] [zi_i s0] g (zi_Q Q) := by
  unfold w_M_readUnit_b24 at h
  refine zi_istore_n (pc' := 25) [some _, some _] rfl rfl rfl ?_
  refine zi_iload_n (pc' := 26) rfl rfl rfl ?_
  obtain ⟨o2, h⟩ := h
  refine zi_if_ne (x := 43) (pc' := 29) rfl rfl o2  (fun c36 => ?_) (fun c36 => ?_)
  · replace h := h.1 c36
    exact zi_wk (s_M_readUnit_b43 hd h) (And.intro rfl (And.intro rfl trivial))
  · replace h := h.2 c36
    refine zi_aload_n (pc' := 30) rfl rfl rfl ?_
    refine zi_geti (pc' := 33) 16 rfl rfl rfl rfl rfl rfl ?_
    refine zi_iconst (pc' := 34) rfl rfl ?_
    obtain ⟨o31, h⟩ := h
    refine zi_icmp_eq (x := 43) (pc' := 37) rfl rfl o31 (by decide) (fun c35 => ?_) (fun c35 => ?_)
    · replace h := h.1 c35
      exact zi_wk (s_M_readUnit_b43 hd h) (And.intro rfl (And.intro rfl trivial))
    · replace h := h.2 c35
      refine zi_aload_n (pc' := 38) rfl rfl rfl ?_
      refine zi_iconst (pc' := 39) rfl rfl ?_
      refine zi_callV (d' := 1) (as := [_]) (pc' := 42) rfl rfl rfl rfl (Nat.lt_of_lt_of_le (by decide) hd) (s_M_errs (Nat.le_refl _) h) (zi_ki (fun v32 g33 h => ?_))
      exact zi_iret rfl rfl h
set_option maxRecDepth 100000 in
theorem s_M_readUnit {E : sx_E} {d : Nat} (hd : 4 ≤ d) {g : zi_M} {Q : Int → zi_M → Prop} (h : w_M_readUnit g Q) : zi_S E d 226 [.ref 214] g (zi_Q Q) := by
  refine zi_Sof jf_226 [some (.ref 214), none] rfl (And.intro rfl trivial) ?_
  unfold w_M_readUnit at h
  refine zi_aload_n (pc' := 1) rfl rfl rfl ?_
  refine zi_geti (pc' := 4) 16 rfl rfl rfl rfl rfl rfl ?_
  refine zi_iconst (pc' := 5) rfl rfl ?_
  obtain ⟨o1, h⟩ := h
  refine zi_icmp_ne (x := 23) (pc' := 8) rfl rfl o1 (by decide) (fun c41 => ?_) (fun c41 => ?_)
  · replace h := h.1 c41
    refine zi_iconst (pc' := 24) rfl rfl ?_
    exact zi_wk (s_M_readUnit_b24 hd h) (And.intro rfl trivial)
  · replace h := h.2 c41
    refine zi_aload_n (pc' := 9) rfl rfl rfl ?_
    refine zi_aload_n (pc' := 10) rfl rfl rfl ?_
    refine zi_geti (pc' := 13) 17 rfl rfl rfl rfl rfl rfl ?_
    refine zi_callV (d' := 2) (as := [_]) (pc' := 16) rfl rfl rfl rfl (Nat.lt_of_lt_of_le (by decide) hd) (s_M_canAsk (Nat.le_refl _) h) (zi_kb (fun v37 g38 b39 h => ?_))
    refine zi_if_eq (x := 23) (pc' := 19) rfl rfl (zi_r_bit b39)  (fun c40 => ?_) (fun c40 => ?_)
    · replace h := h.1 c40
      refine zi_iconst (pc' := 24) rfl rfl ?_
      exact zi_wk (s_M_readUnit_b24 hd h) (And.intro rfl trivial)
    · replace h := h.2 c40
      refine zi_iconst (pc' := 20) rfl rfl ?_
      refine zi_goto (x := 24) rfl ?_
      exact zi_wk (s_M_readUnit_b24 hd h) (And.intro rfl trivial)
-- SpoutNewsModel.isSign(I)Z
noncomputable def w_M_isSign (l1 : Int) (g : zi_M) (Q : Int → zi_M → Prop) : Prop := (zi_r (g 214 16) ∧ ((¬ (g 214 16) = 4 → Q 0 g) ∧ ((g 214 16) = 4 → (zi_r (g 214 17) ∧ zi_r l1 ∧ ((¬ (g 214 17) = l1 → Q 0 g) ∧ ((g 214 17) = l1 → Q 1 g))))))
set_option maxRecDepth 100000 in
theorem s_M_isSign {E : sx_E} {d : Nat} (hd : 1 ≤ d) {l1 : Int} {g : zi_M} {Q : Int → zi_M → Prop} (h : w_M_isSign l1 g Q) : zi_S E d 216 [.ref 214, zi_i l1] g (zi_Qb Q) := by
  refine zi_Sof jf_216 [some (.ref 214), some (zi_i l1)] rfl (And.intro rfl (And.intro rfl trivial)) ?_
  unfold w_M_isSign at h
  refine zi_aload_n (pc' := 1) rfl rfl rfl ?_
  refine zi_geti (pc' := 4) 16 rfl rfl rfl rfl rfl rfl ?_
  refine zi_iconst (pc' := 5) rfl rfl ?_
  obtain ⟨o1, h⟩ := h
  refine zi_icmp_ne (x := 20) (pc' := 8) rfl rfl o1 (by decide) (fun c5 => ?_) (fun c5 => ?_)
  · replace h := h.1 c5
    refine zi_iconst (pc' := 21) rfl rfl ?_
    exact zi_zret rfl rfl (Or.inl rfl) h
  · replace h := h.2 c5
    refine zi_aload_n (pc' := 9) rfl rfl rfl ?_
    refine zi_geti (pc' := 12) 17 rfl rfl rfl rfl rfl rfl ?_
    refine zi_iload_n (pc' := 13) rfl rfl rfl ?_
    obtain ⟨o2, o3, h⟩ := h
    refine zi_icmp_ne (x := 20) (pc' := 16) rfl rfl o2 o3 (fun c4 => ?_) (fun c4 => ?_)
    · replace h := h.1 c4
      refine zi_iconst (pc' := 21) rfl rfl ?_
      exact zi_zret rfl rfl (Or.inl rfl) h
    · replace h := h.2 c4
      refine zi_iconst (pc' := 17) rfl rfl ?_
      refine zi_goto (x := 21) rfl ?_
      exact zi_zret rfl rfl (Or.inr rfl) h
-- SpoutNewsModel.readProduct()I
noncomputable def w_M_readProduct_b74 (l1 : Int) (g : zi_M) (H : zi_M → Prop) (K51 : zi_M → Prop) (K68 : zi_M → Prop) (K82 : zi_M → Prop) (K101 : zi_M → Prop) (Q : Int → zi_M → Prop) : Prop := w_M_readUnit g (fun v15 g16 => (zi_r v15 ∧ ((¬ v15 = (-1) → (zi_r l1 ∧ ((l1 = 0 → w_M_emits 5 0 g16 (fun _ g21 => H g21)) ∧ (¬ l1 = 0 → w_M_emits 4 0 g16 (fun _ g24 => H g24))))) ∧ (v15 = (-1) → K82 g16))))
noncomputable def w_M_readProduct_b57 (l1 : Int) (g : zi_M) (H : zi_M → Prop) (K51 : zi_M → Prop) (K68 : zi_M → Prop) (K82 : zi_M → Prop) (K101 : zi_M → Prop) (Q : Int → zi_M → Prop) : Prop := (zi_r l1 ∧ ((¬ l1 = 0 → w_M_readProduct_b74 l1 g H K51 K68 K82 K101 Q) ∧ (l1 = 0 → (zi_r (g 214 17) ∧ ((¬ (g 214 17) = 0 → w_M_readProduct_b74 l1 g H K51 K68 K82 K101 Q) ∧ ((g 214 17) = 0 → K68 g))))))
noncomputable def w_M_readProduct_b28 (g : zi_M) (H : zi_M → Prop) (K51 : zi_M → Prop) (K68 : zi_M → Prop) (K82 : zi_M → Prop) (K101 : zi_M → Prop) (Q : Int → zi_M → Prop) : Prop := w_M_isSign 42 g (fun v8 g9 => w_M_reads g9 (fun _ g12 => ((¬ v8 = 0 → w_M_readProduct_b57 v8 g12 H K51 K68 K82 K101 Q) ∧ (v8 = 0 → (zi_r (g12 214 16) ∧ (((g12 214 16) = 3 → w_M_readProduct_b57 v8 g12 H K51 K68 K82 K101 Q) ∧ (¬ (g12 214 16) = 3 → K51 g12)))))))
noncomputable def w_M_readProduct_l10 (K51 : zi_M → Prop) (K68 : zi_M → Prop) (K82 : zi_M → Prop) (K101 : zi_M → Prop) (Q : Int → zi_M → Prop) : Nat → zi_M → Prop
  | 0, _ => False
  | f + 1, g => w_M_isSign 42 g (fun v5 g6 => ((¬ v5 = 0 → w_M_readProduct_b28 g6 (w_M_readProduct_l10 K51 K68 K82 K101 Q f) K51 K68 K82 K101 Q) ∧ (v5 = 0 → w_M_isSign 47 g6 (fun v34 g35 => ((v34 = 0 → K101 g35) ∧ (¬ v34 = 0 → w_M_readProduct_b28 g35 (w_M_readProduct_l10 K51 K68 K82 K101 Q f) K51 K68 K82 K101 Q))))))
noncomputable def w_M_readProduct (g : zi_M) (Q : Int → zi_M → Prop) : Prop := w_M_readUnit g (fun v1 g2 => (zi_r v1 ∧ ((¬ v1 = (-1) → (∃ f49, w_M_readProduct_l10 (fun g39 => w_M_errs 1 g39 (fun v40 g41 => Q v40 g41)) (fun g43 => w_M_errs 2 g43 (fun v44 g45 => Q v44 g45)) (fun g47 => Q (-1) g47) (fun g48 => Q 0 g48) Q f49 g2)) ∧ (v1 = (-1) → Q (-1) g2))))
set_option maxRecDepth 100000 in
theorem s_M_readProduct_b74 {E : sx_E} {d : Nat} (hd : 5 ≤ d) {l1 : Int} {H : zi_M → Prop} {K51 : zi_M → Prop} {K68 : zi_M → Prop} {K82 : zi_M → Prop} {K101 : zi_M → Prop} {Q : Int → zi_M → Prop} {g : zi_M} (h : w_M_readProduct_b74 l1 g H K51 K68 K82 K101 Q) (hH : ∀ (g : zi_M), H g → zi_W E d 225 10 [some (.ref 214), none] [] g (zi_Q Q)) (hK51 : ∀ (g : zi_M), K51 g → zi_W E d 225 51 [some (.ref 214), none] [] g (zi_Q Q)) (hK68 : ∀ (g : zi_M), K68 g → zi_W E d 225 68 [some (.ref 214), none] [] g (zi_Q Q)) (hK82 : ∀ (g : zi_M), K82 g → zi_W E d 225 82 [some (.ref 214), none] [] g (zi_Q Q)) (hK101 : ∀ (g : zi_M), K101 g → zi_W E d 225 101 [some (.ref 214), none] [] g (zi_Q Q)) : zi_W E d 225 74 [some (.ref 214), some (zi_i l1)] [] g (zi_Q Q) := by
  unfold w_M_readProduct_b74 at h
  refine zi_aload_n (pc' := 75) rfl rfl rfl ?_
  refine zi_callV (d' := 4) (as := []) (pc' := 78) rfl rfl rfl rfl (Nat.lt_of_lt_of_le (by decide) hd) (s_M_readUnit (Nat.le_refl _) h) (zi_ki (fun v15 g16 h => ?_))
  refine zi_iconst (pc' := 79) rfl rfl ?_
  obtain ⟨o18, h⟩ := h
  refine zi_icmp_ne (x := 84) (pc' := 82) rfl rfl o18 (by decide) (fun c27 => ?_) (fun c27 => ?_)
  · replace h := h.1 c27
    refine zi_aload_n (pc' := 85) rfl rfl rfl ?_
    refine zi_iload_n (pc' := 86) rfl rfl rfl ?_
    obtain ⟨o19, h⟩ := h
    refine zi_if_eq (x := 93) (pc' := 89) rfl rfl o19  (fun c26 => ?_) (fun c26 => ?_)
    · replace h := h.1 c26
      refine zi_iconst (pc' := 94) rfl rfl ?_
      refine zi_iconst (pc' := 95) rfl rfl ?_
      refine zi_callV (d' := 1) (as := [_, _]) (pc' := 98) rfl rfl rfl rfl (Nat.lt_of_lt_of_le (by decide) hd) (s_M_emits (Nat.le_refl _) h) (zi_kv (fun g21 h => ?_))
      refine zi_goto (x := 10) rfl ?_
      exact zi_wk (hH _ h) (And.intro rfl trivial)
    · replace h := h.2 c26
      refine zi_iconst (pc' := 90) rfl rfl ?_
      refine zi_goto (x := 94) rfl ?_
      refine zi_iconst (pc' := 95) rfl rfl ?_
      refine zi_callV (d' := 1) (as := [_, _]) (pc' := 98) rfl rfl rfl rfl (Nat.lt_of_lt_of_le (by decide) hd) (s_M_emits (Nat.le_refl _) h) (zi_kv (fun g24 h => ?_))
      refine zi_goto (x := 10) rfl ?_
      exact zi_wk (hH _ h) (And.intro rfl trivial)
  · replace h := h.2 c27
    exact zi_wk (hK82 _ h) (And.intro rfl trivial)
set_option maxRecDepth 100000 in
theorem s_M_readProduct_b57 {E : sx_E} {d : Nat} (hd : 5 ≤ d) {l1 : Int} {H : zi_M → Prop} {K51 : zi_M → Prop} {K68 : zi_M → Prop} {K82 : zi_M → Prop} {K101 : zi_M → Prop} {Q : Int → zi_M → Prop} {g : zi_M} (h : w_M_readProduct_b57 l1 g H K51 K68 K82 K101 Q) (hH : ∀ (g : zi_M), H g → zi_W E d 225 10 [some (.ref 214), none] [] g (zi_Q Q)) (hK51 : ∀ (g : zi_M), K51 g → zi_W E d 225 51 [some (.ref 214), none] [] g (zi_Q Q)) (hK68 : ∀ (g : zi_M), K68 g → zi_W E d 225 68 [some (.ref 214), none] [] g (zi_Q Q)) (hK82 : ∀ (g : zi_M), K82 g → zi_W E d 225 82 [some (.ref 214), none] [] g (zi_Q Q)) (hK101 : ∀ (g : zi_M), K101 g → zi_W E d 225 101 [some (.ref 214), none] [] g (zi_Q Q)) : zi_W E d 225 57 [some (.ref 214), some (zi_i l1)] [] g (zi_Q Q) := by
  unfold w_M_readProduct_b57 at h
  refine zi_iload_n (pc' := 58) rfl rfl rfl ?_
  obtain ⟨o14, h⟩ := h
  refine zi_if_ne (x := 74) (pc' := 61) rfl rfl o14  (fun c30 => ?_) (fun c30 => ?_)
  · replace h := h.1 c30
    exact zi_wk (s_M_readProduct_b74 hd h hH hK51 hK68 hK82 hK101) (And.intro rfl (And.intro rfl trivial))
  · replace h := h.2 c30
    refine zi_aload_n (pc' := 62) rfl rfl rfl ?_
    refine zi_geti (pc' := 65) 17 rfl rfl rfl rfl rfl rfl ?_
    obtain ⟨o28, h⟩ := h
    refine zi_if_ne (x := 74) (pc' := 68) rfl rfl o28  (fun c29 => ?_) (fun c29 => ?_)
    · replace h := h.1 c29
      exact zi_wk (s_M_readProduct_b74 hd h hH hK51 hK68 hK82 hK101) (And.intro rfl (And.intro rfl trivial))
    · replace h := h.2 c29
      exact zi_wk (hK68 _ h) (And.intro rfl trivial)
set_option maxRecDepth 100000 in
theorem s_M_readProduct_b28 {E : sx_E} {d : Nat} (hd : 5 ≤ d) {H : zi_M → Prop} {K51 : zi_M → Prop} {K68 : zi_M → Prop} {K82 : zi_M → Prop} {K101 : zi_M → Prop} {Q : Int → zi_M → Prop} {g : zi_M} (h : w_M_readProduct_b28 g H K51 K68 K82 K101 Q) (hH : ∀ (g : zi_M), H g → zi_W E d 225 10 [some (.ref 214), none] [] g (zi_Q Q)) (hK51 : ∀ (g : zi_M), K51 g → zi_W E d 225 51 [some (.ref 214), none] [] g (zi_Q Q)) (hK68 : ∀ (g : zi_M), K68 g → zi_W E d 225 68 [some (.ref 214), none] [] g (zi_Q Q)) (hK82 : ∀ (g : zi_M), K82 g → zi_W E d 225 82 [some (.ref 214), none] [] g (zi_Q Q)) (hK101 : ∀ (g : zi_M), K101 g → zi_W E d 225 101 [some (.ref 214), none] [] g (zi_Q Q)) : zi_W E d 225 28 [some (.ref 214), none] [] g (zi_Q Q) := by
  unfold w_M_readProduct_b28 at h
  refine zi_aload_n (pc' := 29) rfl rfl rfl ?_
  refine zi_bipush (pc' := 31) rfl rfl (by decide) ?_
  refine zi_callV (d' := 1) (as := [_]) (pc' := 34) rfl rfl rfl rfl (Nat.lt_of_lt_of_le (by decide) hd) (s_M_isSign (Nat.le_refl _) h) (zi_kb (fun v8 g9 b10 h => ?_))
  refine zi_istore_n (pc' := 35) [some _, some _] rfl rfl rfl ?_
  refine zi_aload_n (pc' := 36) rfl rfl rfl ?_
  refine zi_callV (d' := 3) (as := []) (pc' := 39) rfl rfl rfl rfl (Nat.lt_of_lt_of_le (by decide) hd) (s_M_reads (Nat.le_refl _) h) (zi_kv (fun g12 h => ?_))
  refine zi_iload_n (pc' := 40) rfl rfl rfl ?_
  refine zi_if_ne (x := 57) (pc' := 43) rfl rfl (zi_r_bit b10)  (fun c33 => ?_) (fun c33 => ?_)
  · replace h := h.1 c33
    exact zi_wk (s_M_readProduct_b57 hd h hH hK51 hK68 hK82 hK101) (And.intro rfl (And.intro rfl trivial))
  · replace h := h.2 c33
    refine zi_aload_n (pc' := 44) rfl rfl rfl ?_
    refine zi_geti (pc' := 47) 16 rfl rfl rfl rfl rfl rfl ?_
    refine zi_iconst (pc' := 48) rfl rfl ?_
    obtain ⟨o31, h⟩ := h
    refine zi_icmp_eq (x := 57) (pc' := 51) rfl rfl o31 (by decide) (fun c32 => ?_) (fun c32 => ?_)
    · replace h := h.1 c32
      exact zi_wk (s_M_readProduct_b57 hd h hH hK51 hK68 hK82 hK101) (And.intro rfl (And.intro rfl trivial))
    · replace h := h.2 c32
      exact zi_wk (hK51 _ h) (And.intro rfl trivial)
set_option maxRecDepth 100000 in
theorem s_M_readProduct_l10_r {E : sx_E} {d : Nat} (hd : 5 ≤ d) {K51 : zi_M → Prop} {K68 : zi_M → Prop} {K82 : zi_M → Prop} {K101 : zi_M → Prop} {Q : Int → zi_M → Prop} (hK51 : ∀ (g : zi_M), K51 g → zi_W E d 225 51 [some (.ref 214), none] [] g (zi_Q Q)) (hK68 : ∀ (g : zi_M), K68 g → zi_W E d 225 68 [some (.ref 214), none] [] g (zi_Q Q)) (hK82 : ∀ (g : zi_M), K82 g → zi_W E d 225 82 [some (.ref 214), none] [] g (zi_Q Q)) (hK101 : ∀ (g : zi_M), K101 g → zi_W E d 225 101 [some (.ref 214), none] [] g (zi_Q Q)) : ∀ (f : Nat) {g : zi_M}, w_M_readProduct_l10 K51 K68 K82 K101 Q f g → zi_W E d 225 10 [some (.ref 214), none] [] g (zi_Q Q)
  | 0, _, h => False.elim h
  | f + 1, g, h => by
    refine zi_aload_n (pc' := 11) rfl rfl rfl ?_
    refine zi_bipush (pc' := 13) rfl rfl (by decide) ?_
    refine zi_callV (d' := 1) (as := [_]) (pc' := 16) rfl rfl rfl rfl (Nat.lt_of_lt_of_le (by decide) hd) (s_M_isSign (Nat.le_refl _) h) (zi_kb (fun v5 g6 b7 h => ?_))
    refine zi_if_ne (x := 28) (pc' := 19) rfl rfl (zi_r_bit b7)  (fun c38 => ?_) (fun c38 => ?_)
    · replace h := h.1 c38
      exact zi_wk (s_M_readProduct_b28 hd h (fun _ h => s_M_readProduct_l10_r hd hK51 hK68 hK82 hK101 f h) hK51 hK68 hK82 hK101) (And.intro rfl trivial)
    · replace h := h.2 c38
      refine zi_aload_n (pc' := 20) rfl rfl rfl ?_
      refine zi_bipush (pc' := 22) rfl rfl (by decide) ?_
      refine zi_callV (d' := 1) (as := [_]) (pc' := 25) rfl rfl rfl rfl (Nat.lt_of_lt_of_le (by decide) hd) (s_M_isSign (Nat.le_refl _) h) (zi_kb (fun v34 g35 b36 h => ?_))
      refine zi_if_eq (x := 101) (pc' := 28) rfl rfl (zi_r_bit b36)  (fun c37 => ?_) (fun c37 => ?_)
      · replace h := h.1 c37
        exact zi_wk (hK101 _ h) (And.intro rfl trivial)
      · replace h := h.2 c37
        exact zi_wk (s_M_readProduct_b28 hd h (fun _ h => s_M_readProduct_l10_r hd hK51 hK68 hK82 hK101 f h) hK51 hK68 hK82 hK101) (And.intro rfl trivial)
set_option maxRecDepth 100000 in
theorem s_M_readProduct_l10 {E : sx_E} {d : Nat} (hd : 5 ≤ d) {K51 : zi_M → Prop} {K68 : zi_M → Prop} {K82 : zi_M → Prop} {K101 : zi_M → Prop} {Q : Int → zi_M → Prop} {g : zi_M} (h : ∃ f, w_M_readProduct_l10 K51 K68 K82 K101 Q f g) (hK51 : ∀ (g : zi_M), K51 g → zi_W E d 225 51 [some (.ref 214), none] [] g (zi_Q Q)) (hK68 : ∀ (g : zi_M), K68 g → zi_W E d 225 68 [some (.ref 214), none] [] g (zi_Q Q)) (hK82 : ∀ (g : zi_M), K82 g → zi_W E d 225 82 [some (.ref 214), none] [] g (zi_Q Q)) (hK101 : ∀ (g : zi_M), K101 g → zi_W E d 225 101 [some (.ref 214), none] [] g (zi_Q Q)) : zi_W E d 225 10 [some (.ref 214), none] [] g (zi_Q Q) := by
  obtain ⟨f, h⟩ := h
  exact s_M_readProduct_l10_r hd hK51 hK68 hK82 hK101 f h
set_option maxRecDepth 100000 in
theorem s_M_readProduct {E : sx_E} {d : Nat} (hd : 5 ≤ d) {g : zi_M} {Q : Int → zi_M → Prop} (h : w_M_readProduct g Q) : zi_S E d 225 [.ref 214] g (zi_Q Q) := by
  refine zi_Sof jf_225 [some (.ref 214), none] rfl (And.intro rfl trivial) ?_
  unfold w_M_readProduct at h
  refine zi_aload_n (pc' := 1) rfl rfl rfl ?_
  refine zi_callV (d' := 4) (as := []) (pc' := 4) rfl rfl rfl rfl (Nat.lt_of_lt_of_le (by decide) hd) (s_M_readUnit (Nat.le_refl _) h) (zi_ki (fun v1 g2 h => ?_))
  refine zi_iconst (pc' := 5) rfl rfl ?_
  obtain ⟨o4, h⟩ := h
  refine zi_icmp_ne (x := 10) (pc' := 8) rfl rfl o4 (by decide) (fun c50 => ?_) (fun c50 => ?_)
  · replace h := h.1 c50
    refine zi_wk (s_M_readProduct_l10 hd h (fun g39 h => ?_) (fun g43 h => ?_) (fun g47 h => ?_) (fun g48 h => ?_)) (And.intro rfl trivial)
    · refine zi_aload_n (pc' := 52) rfl rfl rfl ?_
      refine zi_iconst (pc' := 53) rfl rfl ?_
      refine zi_callV (d' := 1) (as := [_]) (pc' := 56) rfl rfl rfl rfl (Nat.lt_of_lt_of_le (by decide) hd) (s_M_errs (Nat.le_refl _) h) (zi_ki (fun v40 g41 h => ?_))
      exact zi_iret rfl rfl h
    · refine zi_aload_n (pc' := 69) rfl rfl rfl ?_
      refine zi_iconst (pc' := 70) rfl rfl ?_
      refine zi_callV (d' := 1) (as := [_]) (pc' := 73) rfl rfl rfl rfl (Nat.lt_of_lt_of_le (by decide) hd) (s_M_errs (Nat.le_refl _) h) (zi_ki (fun v44 g45 h => ?_))
      exact zi_iret rfl rfl h
    · refine zi_iconst (pc' := 83) rfl rfl ?_
      exact zi_iret rfl rfl h
    · refine zi_iconst (pc' := 102) rfl rfl ?_
      exact zi_iret rfl rfl h
  · replace h := h.2 c50
    refine zi_iconst (pc' := 9) rfl rfl ?_
    exact zi_iret rfl rfl h
-- SpoutNewsModel.readSum()I
noncomputable def w_M_readSum_b42 (s0 : Int) (g : zi_M) (H : zi_M → Prop) (K55 : zi_M → Prop) (K66 : zi_M → Prop) (Q : Int → zi_M → Prop) : Prop := w_M_reads g (fun _ g10 => w_M_readProduct g10 (fun v12 g13 => (zi_r v12 ∧ ((¬ v12 = (-1) → w_M_emits s0 0 g13 (fun _ g17 => H g17)) ∧ (v12 = (-1) → K55 g13)))))
noncomputable def w_M_readSum_b28 (g : zi_M) (H : zi_M → Prop) (K55 : zi_M → Prop) (K66 : zi_M → Prop) (Q : Int → zi_M → Prop) : Prop := (zi_r (g 214 17) ∧ ((¬ (g 214 17) = 43 → w_M_readSum_b42 3 g H K55 K66 Q) ∧ ((g 214 17) = 43 → w_M_readSum_b42 2 g H K55 K66 Q)))
noncomputable def w_M_readSum_l10 (K55 : zi_M → Prop) (K66 : zi_M → Prop) (Q : Int → zi_M → Prop) : Nat → zi_M → Prop
  | 0, _ => False
  | f + 1, g => w_M_isSign 43 g (fun v5 g6 => ((¬ v5 = 0 → w_M_readSum_b28 g6 (w_M_readSum_l10 K55 K66 Q f) K55 K66 Q) ∧ (v5 = 0 → w_M_isSign 45 g6 (fun v21 g22 => ((v21 = 0 → K66 g22) ∧ (¬ v21 = 0 → w_M_readSum_b28 g22 (w_M_readSum_l10 K55 K66 Q f) K55 K66 Q))))))
noncomputable def w_M_readSum (g : zi_M) (Q : Int → zi_M → Prop) : Prop := w_M_readProduct g (fun v1 g2 => (zi_r v1 ∧ ((¬ v1 = (-1) → (∃ f28, w_M_readSum_l10 (fun g26 => Q (-1) g26) (fun g27 => Q 0 g27) Q f28 g2)) ∧ (v1 = (-1) → Q (-1) g2))))
set_option maxRecDepth 100000 in
theorem s_M_readSum_b42 {E : sx_E} {d : Nat} (hd : 6 ≤ d) {s0 : Int} {H : zi_M → Prop} {K55 : zi_M → Prop} {K66 : zi_M → Prop} {Q : Int → zi_M → Prop} {g : zi_M} (h : w_M_readSum_b42 s0 g H K55 K66 Q) (hH : ∀ (g : zi_M), H g → zi_W E d 224 10 [some (.ref 214), none] [] g (zi_Q Q)) (hK55 : ∀ (g : zi_M), K55 g → zi_W E d 224 55 [some (.ref 214), none] [] g (zi_Q Q)) (hK66 : ∀ (g : zi_M), K66 g → zi_W E d 224 66 [some (.ref 214), none] [] g (zi_Q Q)) : zi_W E d 224 42 [some (.ref 214), none] [zi_i s0] g (zi_Q Q) := by
  unfold w_M_readSum_b42 at h
  refine zi_istore_n (pc' := 43) [some _, some _] rfl rfl rfl ?_
  refine zi_aload_n (pc' := 44) rfl rfl rfl ?_
  refine zi_callV (d' := 3) (as := []) (pc' := 47) rfl rfl rfl rfl (Nat.lt_of_lt_of_le (by decide) hd) (s_M_reads (Nat.le_refl _) h) (zi_kv (fun g10 h => ?_))
  refine zi_aload_n (pc' := 48) rfl rfl rfl ?_
  refine zi_callV (d' := 5) (as := []) (pc' := 51) rfl rfl rfl rfl (Nat.lt_of_lt_of_le (by decide) hd) (s_M_readProduct (Nat.le_refl _) h) (zi_ki (fun v12 g13 h => ?_))
  refine zi_iconst (pc' := 52) rfl rfl ?_
  obtain ⟨o15, h⟩ := h
  refine zi_icmp_ne (x := 57) (pc' := 55) rfl rfl o15 (by decide) (fun c19 => ?_) (fun c19 => ?_)
  · replace h := h.1 c19
    refine zi_aload_n (pc' := 58) rfl rfl rfl ?_
    refine zi_iload_n (pc' := 59) rfl rfl rfl ?_
    refine zi_iconst (pc' := 60) rfl rfl ?_
    refine zi_callV (d' := 1) (as := [_, _]) (pc' := 63) rfl rfl rfl rfl (Nat.lt_of_lt_of_le (by decide) hd) (s_M_emits (Nat.le_refl _) h) (zi_kv (fun g17 h => ?_))
    refine zi_goto (x := 10) rfl ?_
    exact zi_wk (hH _ h) (And.intro rfl trivial)
  · replace h := h.2 c19
    exact zi_wk (hK55 _ h) (And.intro rfl trivial)
set_option maxRecDepth 100000 in
theorem s_M_readSum_b28 {E : sx_E} {d : Nat} (hd : 6 ≤ d) {H : zi_M → Prop} {K55 : zi_M → Prop} {K66 : zi_M → Prop} {Q : Int → zi_M → Prop} {g : zi_M} (h : w_M_readSum_b28 g H K55 K66 Q) (hH : ∀ (g : zi_M), H g → zi_W E d 224 10 [some (.ref 214), none] [] g (zi_Q Q)) (hK55 : ∀ (g : zi_M), K55 g → zi_W E d 224 55 [some (.ref 214), none] [] g (zi_Q Q)) (hK66 : ∀ (g : zi_M), K66 g → zi_W E d 224 66 [some (.ref 214), none] [] g (zi_Q Q)) : zi_W E d 224 28 [some (.ref 214), none] [] g (zi_Q Q) := by
  unfold w_M_readSum_b28 at h
  refine zi_aload_n (pc' := 29) rfl rfl rfl ?_
  refine zi_geti (pc' := 32) 17 rfl rfl rfl rfl rfl rfl ?_
  refine zi_bipush (pc' := 34) rfl rfl (by decide) ?_
  obtain ⟨o8, h⟩ := h
  refine zi_icmp_ne (x := 41) (pc' := 37) rfl rfl o8 (by decide) (fun c20 => ?_) (fun c20 => ?_)
  · replace h := h.1 c20
    refine zi_iconst (pc' := 42) rfl rfl ?_
    exact zi_wk (s_M_readSum_b42 hd h hH hK55 hK66) (And.intro rfl trivial)
  · replace h := h.2 c20
    refine zi_iconst (pc' := 38) rfl rfl ?_
    refine zi_goto (x := 42) rfl ?_
    exact zi_wk (s_M_readSum_b42 hd h hH hK55 hK66) (And.intro rfl trivial)
set_option maxRecDepth 100000 in
theorem s_M_readSum_l10_r {E : sx_E} {d : Nat} (hd : 6 ≤ d) {K55 : zi_M → Prop} {K66 : zi_M → Prop} {Q : Int → zi_M → Prop} (hK55 : ∀ (g : zi_M), K55 g → zi_W E d 224 55 [some (.ref 214), none] [] g (zi_Q Q)) (hK66 : ∀ (g : zi_M), K66 g → zi_W E d 224 66 [some (.ref 214), none] [] g (zi_Q Q)) : ∀ (f : Nat) {g : zi_M}, w_M_readSum_l10 K55 K66 Q f g → zi_W E d 224 10 [some (.ref 214), none] [] g (zi_Q Q)
  | 0, _, h => False.elim h
  | f + 1, g, h => by
    refine zi_aload_n (pc' := 11) rfl rfl rfl ?_
    refine zi_bipush (pc' := 13) rfl rfl (by decide) ?_
    refine zi_callV (d' := 1) (as := [_]) (pc' := 16) rfl rfl rfl rfl (Nat.lt_of_lt_of_le (by decide) hd) (s_M_isSign (Nat.le_refl _) h) (zi_kb (fun v5 g6 b7 h => ?_))
    refine zi_if_ne (x := 28) (pc' := 19) rfl rfl (zi_r_bit b7)  (fun c25 => ?_) (fun c25 => ?_)
    · replace h := h.1 c25
      exact zi_wk (s_M_readSum_b28 hd h (fun _ h => s_M_readSum_l10_r hd hK55 hK66 f h) hK55 hK66) (And.intro rfl trivial)
    · replace h := h.2 c25
      refine zi_aload_n (pc' := 20) rfl rfl rfl ?_
      refine zi_bipush (pc' := 22) rfl rfl (by decide) ?_
      refine zi_callV (d' := 1) (as := [_]) (pc' := 25) rfl rfl rfl rfl (Nat.lt_of_lt_of_le (by decide) hd) (s_M_isSign (Nat.le_refl _) h) (zi_kb (fun v21 g22 b23 h => ?_))
      refine zi_if_eq (x := 66) (pc' := 28) rfl rfl (zi_r_bit b23)  (fun c24 => ?_) (fun c24 => ?_)
      · replace h := h.1 c24
        exact zi_wk (hK66 _ h) (And.intro rfl trivial)
      · replace h := h.2 c24
        exact zi_wk (s_M_readSum_b28 hd h (fun _ h => s_M_readSum_l10_r hd hK55 hK66 f h) hK55 hK66) (And.intro rfl trivial)
set_option maxRecDepth 100000 in
theorem s_M_readSum_l10 {E : sx_E} {d : Nat} (hd : 6 ≤ d) {K55 : zi_M → Prop} {K66 : zi_M → Prop} {Q : Int → zi_M → Prop} {g : zi_M} (h : ∃ f, w_M_readSum_l10 K55 K66 Q f g) (hK55 : ∀ (g : zi_M), K55 g → zi_W E d 224 55 [some (.ref 214), none] [] g (zi_Q Q)) (hK66 : ∀ (g : zi_M), K66 g → zi_W E d 224 66 [some (.ref 214), none] [] g (zi_Q Q)) : zi_W E d 224 10 [some (.ref 214), none] [] g (zi_Q Q) := by
  obtain ⟨f, h⟩ := h
  exact s_M_readSum_l10_r hd hK55 hK66 f h
set_option maxRecDepth 100000 in
theorem s_M_readSum {E : sx_E} {d : Nat} (hd : 6 ≤ d) {g : zi_M} {Q : Int → zi_M → Prop} (h : w_M_readSum g Q) : zi_S E d 224 [.ref 214] g (zi_Q Q) := by
  refine zi_Sof jf_224 [some (.ref 214), none] rfl (And.intro rfl trivial) ?_
  unfold w_M_readSum at h
  refine zi_aload_n (pc' := 1) rfl rfl rfl ?_
  refine zi_callV (d' := 5) (as := []) (pc' := 4) rfl rfl rfl rfl (Nat.lt_of_lt_of_le (by decide) hd) (s_M_readProduct (Nat.le_refl _) h) (zi_ki (fun v1 g2 h => ?_))
  refine zi_iconst (pc' := 5) rfl rfl ?_
  obtain ⟨o4, h⟩ := h
  refine zi_icmp_ne (x := 10) (pc' := 8) rfl rfl o4 (by decide) (fun c29 => ?_) (fun c29 => ?_)
  · replace h := h.1 c29
    refine zi_wk (s_M_readSum_l10 hd h (fun g26 h => ?_) (fun g27 h => ?_)) (And.intro rfl trivial)
    · refine zi_iconst (pc' := 56) rfl rfl ?_
      exact zi_iret rfl rfl h
    · refine zi_iconst (pc' := 67) rfl rfl ?_
      exact zi_iret rfl rfl h
  · replace h := h.2 c29
    refine zi_iconst (pc' := 9) rfl rfl ?_
    exact zi_iret rfl rfl h
-- SpoutNewsModel.isWord(I)Z
noncomputable def w_M_isWord (l1 : Int) (g : zi_M) (Q : Int → zi_M → Prop) : Prop := (zi_r (g 214 16) ∧ ((¬ (g 214 16) = 2 → Q 0 g) ∧ ((g 214 16) = 2 → (zi_r (g 214 17) ∧ zi_r l1 ∧ ((¬ (g 214 17) = l1 → Q 0 g) ∧ ((g 214 17) = l1 → Q 1 g))))))
set_option maxRecDepth 100000 in
theorem s_M_isWord {E : sx_E} {d : Nat} (hd : 1 ≤ d) {l1 : Int} {g : zi_M} {Q : Int → zi_M → Prop} (h : w_M_isWord l1 g Q) : zi_S E d 210 [.ref 214, zi_i l1] g (zi_Qb Q) := by
  refine zi_Sof jf_210 [some (.ref 214), some (zi_i l1)] rfl (And.intro rfl (And.intro rfl trivial)) ?_
  unfold w_M_isWord at h
  refine zi_aload_n (pc' := 1) rfl rfl rfl ?_
  refine zi_geti (pc' := 4) 16 rfl rfl rfl rfl rfl rfl ?_
  refine zi_iconst (pc' := 5) rfl rfl ?_
  obtain ⟨o1, h⟩ := h
  refine zi_icmp_ne (x := 20) (pc' := 8) rfl rfl o1 (by decide) (fun c5 => ?_) (fun c5 => ?_)
  · replace h := h.1 c5
    refine zi_iconst (pc' := 21) rfl rfl ?_
    exact zi_zret rfl rfl (Or.inl rfl) h
  · replace h := h.2 c5
    refine zi_aload_n (pc' := 9) rfl rfl rfl ?_
    refine zi_geti (pc' := 12) 17 rfl rfl rfl rfl rfl rfl ?_
    refine zi_iload_n (pc' := 13) rfl rfl rfl ?_
    obtain ⟨o2, o3, h⟩ := h
    refine zi_icmp_ne (x := 20) (pc' := 16) rfl rfl o2 o3 (fun c4 => ?_) (fun c4 => ?_)
    · replace h := h.1 c4
      refine zi_iconst (pc' := 21) rfl rfl ?_
      exact zi_zret rfl rfl (Or.inl rfl) h
    · replace h := h.2 c4
      refine zi_iconst (pc' := 17) rfl rfl ?_
      refine zi_goto (x := 21) rfl ?_
      exact zi_zret rfl rfl (Or.inr rfl) h
-- SpoutNewsModel.settles(I)V
noncomputable def w_M_settles_l0 (l1 : Int) (K57 : zi_M → Prop) (Q : Int → zi_M → Prop) : Nat → zi_M → Prop
  | 0, _ => False
  | f + 1, g => (zi_r (g 214 30) ∧ (((g 214 30) ≤ 0 → K57 g) ∧ (0 < (g 214 30) → ((0 ≤ ((g 214 30) - 1) ∧ ((g 214 30) - 1) < 40) ∧ (zi_r (g 231 ((g 214 30) - 1)) ∧ zi_r l1 ∧ ((¬ (g 231 ((g 214 30) - 1)) = l1 → K57 g) ∧ ((g 231 ((g 214 30) - 1)) = l1 → (∀ g5, g5 = zi_u g 214 30 ((g 214 30) - 1) → w_M_emits l1 0 g5 (fun _ g7 => ((¬ l1 = 9 → w_M_settles_l0 l1 K57 Q f g7) ∧ (l1 = 9 → (∀ g9, g9 = zi_u g7 214 28 ((g7 214 28) - 1) → w_M_settles_l0 l1 K57 Q f g9))))))))))))
noncomputable def w_M_settles (l1 : Int) (g : zi_M) (Q : Int → zi_M → Prop) : Prop := (∃ f14, w_M_settles_l0 l1 (fun g13 => Q 0 g13) Q f14 g)
set_option maxRecDepth 100000 in
theorem s_M_settles_l0_r {E : sx_E} {d : Nat} (hd : 2 ≤ d) {l1 : Int} {K57 : zi_M → Prop} {Q : Int → zi_M → Prop} (hK57 : ∀ (g : zi_M), K57 g → zi_W E d 232 57 [some (.ref 214), some (zi_i l1)] [] g (zi_Qv Q)) : ∀ (f : Nat) {g : zi_M}, w_M_settles_l0 l1 K57 Q f g → zi_W E d 232 0 [some (.ref 214), some (zi_i l1)] [] g (zi_Qv Q)
  | 0, _, h => False.elim h
  | f + 1, g, h => by
    refine zi_aload_n (pc' := 1) rfl rfl rfl ?_
    refine zi_geti (pc' := 4) 30 rfl rfl rfl rfl rfl rfl ?_
    obtain ⟨o1, h⟩ := h
    refine zi_if_le (x := 57) (pc' := 7) rfl rfl o1  (fun c12 => ?_) (fun c12 => ?_)
    · replace h := h.1 c12
      exact zi_wk (hK57 _ h) (And.intro rfl (And.intro rfl trivial))
    · replace h := h.2 c12
      refine zi_aload_n (pc' := 8) rfl rfl rfl ?_
      refine zi_getr (pc' := 11) rfl rfl rfl rfl rfl ?_
      refine zi_aload_n (pc' := 12) rfl rfl rfl ?_
      refine zi_geti (pc' := 15) 30 rfl rfl rfl rfl rfl rfl ?_
      refine zi_iconst (pc' := 16) rfl rfl ?_
      refine zi_isub (pc' := 17) rfl rfl ?_
      obtain ⟨o2, h⟩ := h
      refine zi_iald (pc' := 18) rfl rfl rfl o2 ?_
      refine zi_iload_n (pc' := 19) rfl rfl rfl ?_
      obtain ⟨o3, o4, h⟩ := h
      refine zi_icmp_ne (x := 57) (pc' := 22) rfl rfl o3 o4 (fun c11 => ?_) (fun c11 => ?_)
      · replace h := h.1 c11
        exact zi_wk (hK57 _ h) (And.intro rfl (And.intro rfl trivial))
      · replace h := h.2 c11
        refine zi_aload_n (pc' := 23) rfl rfl rfl ?_
        refine zi_aload_n (pc' := 24) rfl rfl rfl ?_
        refine zi_geti (pc' := 27) 30 rfl rfl rfl rfl rfl rfl ?_
        refine zi_iconst (pc' := 28) rfl rfl ?_
        refine zi_isub (pc' := 29) rfl rfl ?_
        refine zi_puti (pc' := 32) 30 rfl rfl rfl rfl rfl  ?_
        replace h := h _ rfl
        refine zi_aload_n (pc' := 33) rfl rfl rfl ?_
        refine zi_iload_n (pc' := 34) rfl rfl rfl ?_
        refine zi_iconst (pc' := 35) rfl rfl ?_
        refine zi_callV (d' := 1) (as := [_, _]) (pc' := 38) rfl rfl rfl rfl (Nat.lt_of_lt_of_le (by decide) hd) (s_M_emits (Nat.le_refl _) h) (zi_kv (fun g7 h => ?_))
        refine zi_iload_n (pc' := 39) rfl rfl rfl ?_
        refine zi_bipush (pc' := 41) rfl rfl (by decide) ?_
        refine zi_icmp_ne (x := 0) (pc' := 44) rfl rfl o4 (by decide) (fun c10 => ?_) (fun c10 => ?_)
        · replace h := h.1 c10
          exact zi_wk (s_M_settles_l0_r hd hK57 f h) (And.intro rfl (And.intro rfl trivial))
        · replace h := h.2 c10
          refine zi_aload_n (pc' := 45) rfl rfl rfl ?_
          refine zi_aload_n (pc' := 46) rfl rfl rfl ?_
          refine zi_geti (pc' := 49) 28 rfl rfl rfl rfl rfl rfl ?_
          refine zi_iconst (pc' := 50) rfl rfl ?_
          refine zi_isub (pc' := 51) rfl rfl ?_
          refine zi_puti (pc' := 54) 28 rfl rfl rfl rfl rfl  ?_
          replace h := h _ rfl
          refine zi_goto (x := 0) rfl ?_
          exact zi_wk (s_M_settles_l0_r hd hK57 f h) (And.intro rfl (And.intro rfl trivial))
set_option maxRecDepth 100000 in
theorem s_M_settles_l0 {E : sx_E} {d : Nat} (hd : 2 ≤ d) {l1 : Int} {K57 : zi_M → Prop} {Q : Int → zi_M → Prop} {g : zi_M} (h : ∃ f, w_M_settles_l0 l1 K57 Q f g) (hK57 : ∀ (g : zi_M), K57 g → zi_W E d 232 57 [some (.ref 214), some (zi_i l1)] [] g (zi_Qv Q)) : zi_W E d 232 0 [some (.ref 214), some (zi_i l1)] [] g (zi_Qv Q) := by
  obtain ⟨f, h⟩ := h
  exact s_M_settles_l0_r hd hK57 f h
set_option maxRecDepth 100000 in
theorem s_M_settles {E : sx_E} {d : Nat} (hd : 2 ≤ d) {l1 : Int} {g : zi_M} {Q : Int → zi_M → Prop} (h : w_M_settles l1 g Q) : zi_S E d 232 [.ref 214, zi_i l1] g (zi_Qv Q) := by
  refine zi_Sof jf_232 [some (.ref 214), some (zi_i l1)] rfl (And.intro rfl (And.intro rfl trivial)) ?_
  unfold w_M_settles at h
  refine zi_wk (s_M_settles_l0 hd h (fun g13 h => ?_)) (And.intro rfl (And.intro rfl trivial))
  exact zi_vret rfl rfl h
-- SpoutNewsModel.waits(I)V
noncomputable def w_M_waits (l1 : Int) (g : zi_M) (Q : Int → zi_M → Prop) : Prop := ((0 ≤ (g 214 30) ∧ (g 214 30) < 40) ∧ (∀ g2, g2 = zi_u g 231 (g 214 30) l1 → (∀ g3, g3 = zi_u g2 214 30 ((g2 214 30) + 1) → Q 0 g3)))
set_option maxRecDepth 100000 in
theorem s_M_waits {E : sx_E} {d : Nat} (hd : 1 ≤ d) {l1 : Int} {g : zi_M} {Q : Int → zi_M → Prop} (h : w_M_waits l1 g Q) : zi_S E d 230 [.ref 214, zi_i l1] g (zi_Qv Q) := by
  refine zi_Sof jf_230 [some (.ref 214), some (zi_i l1)] rfl (And.intro rfl (And.intro rfl trivial)) ?_
  unfold w_M_waits at h
  refine zi_aload_n (pc' := 1) rfl rfl rfl ?_
  refine zi_getr (pc' := 4) rfl rfl rfl rfl rfl ?_
  refine zi_aload_n (pc' := 5) rfl rfl rfl ?_
  refine zi_geti (pc' := 8) 30 rfl rfl rfl rfl rfl rfl ?_
  refine zi_iload_n (pc' := 9) rfl rfl rfl ?_
  obtain ⟨o1, h⟩ := h
  refine zi_iast (pc' := 10) rfl rfl rfl o1 ?_
  replace h := h _ rfl
  refine zi_aload_n (pc' := 11) rfl rfl rfl ?_
  refine zi_aload_n (pc' := 12) rfl rfl rfl ?_
  refine zi_geti (pc' := 15) 30 rfl rfl rfl rfl rfl rfl ?_
  refine zi_iconst (pc' := 16) rfl rfl ?_
  refine zi_iadd (pc' := 17) rfl rfl ?_
  refine zi_puti (pc' := 20) 30 rfl rfl rfl rfl rfl  ?_
  replace h := h _ rfl
  exact zi_vret rfl rfl h
-- SpoutNewsModel.readCompared()I
noncomputable def w_M_readCompared_b73 (s0 : Int) (g : zi_M) (Q : Int → zi_M → Prop) : Prop := w_M_reads g (fun _ g10 => w_M_readSum g10 (fun v12 g13 => (zi_r v12 ∧ ((¬ v12 = (-1) → w_M_emits s0 0 g13 (fun _ g17 => Q 0 g17)) ∧ (v12 = (-1) → Q (-1) g13)))))
noncomputable def w_M_readCompared_b43 (g : zi_M) (Q : Int → zi_M → Prop) : Prop := (zi_r (g 214 17) ∧ ((¬ (g 214 17) = 60 → ((¬ (g 214 17) = 61 → w_M_readCompared_b73 8 g Q) ∧ ((g 214 17) = 61 → w_M_readCompared_b73 7 g Q))) ∧ ((g 214 17) = 60 → w_M_readCompared_b73 6 g Q)))
noncomputable def w_M_readCompared (g : zi_M) (Q : Int → zi_M → Prop) : Prop := w_M_readSum g (fun v1 g2 => (zi_r v1 ∧ ((¬ v1 = (-1) → w_M_isSign 60 g2 (fun v5 g6 => ((¬ v5 = 0 → w_M_readCompared_b43 g6 Q) ∧ (v5 = 0 → w_M_isSign 61 g6 (fun v22 g23 => ((¬ v22 = 0 → w_M_readCompared_b43 g23 Q) ∧ (v22 = 0 → w_M_isSign 62 g23 (fun v25 g26 => ((¬ v25 = 0 → w_M_readCompared_b43 g26 Q) ∧ (v25 = 0 → w_M_errs 1 g26 (fun v28 g29 => Q v28 g29))))))))))) ∧ (v1 = (-1) → Q (-1) g2))))
set_option maxRecDepth 100000 in
theorem s_M_readCompared_b73 {E : sx_E} {d : Nat} (hd : 7 ≤ d) {s0 : Int} {Q : Int → zi_M → Prop} {g : zi_M} (h : w_M_readCompared_b73 s0 g Q) : zi_W E d 231 73 [some (.ref 214), none] [zi_i s0] g (zi_Q Q) := by
  unfold w_M_readCompared_b73 at h
  refine zi_istore_n (pc' := 74) [some _, some _] rfl rfl rfl ?_
  refine zi_aload_n (pc' := 75) rfl rfl rfl ?_
  refine zi_callV (d' := 3) (as := []) (pc' := 78) rfl rfl rfl rfl (Nat.lt_of_lt_of_le (by decide) hd) (s_M_reads (Nat.le_refl _) h) (zi_kv (fun g10 h => ?_))
  refine zi_aload_n (pc' := 79) rfl rfl rfl ?_
  refine zi_callV (d' := 6) (as := []) (pc' := 82) rfl rfl rfl rfl (Nat.lt_of_lt_of_le (by decide) hd) (s_M_readSum (Nat.le_refl _) h) (zi_ki (fun v12 g13 h => ?_))
  refine zi_iconst (pc' := 83) rfl rfl ?_
  obtain ⟨o15, h⟩ := h
  refine zi_icmp_ne (x := 88) (pc' := 86) rfl rfl o15 (by decide) (fun c19 => ?_) (fun c19 => ?_)
  · replace h := h.1 c19
    refine zi_aload_n (pc' := 89) rfl rfl rfl ?_
    refine zi_iload_n (pc' := 90) rfl rfl rfl ?_
    refine zi_iconst (pc' := 91) rfl rfl ?_
    refine zi_callV (d' := 1) (as := [_, _]) (pc' := 94) rfl rfl rfl rfl (Nat.lt_of_lt_of_le (by decide) hd) (s_M_emits (Nat.le_refl _) h) (zi_kv (fun g17 h => ?_))
    refine zi_iconst (pc' := 95) rfl rfl ?_
    exact zi_iret rfl rfl h
  · replace h := h.2 c19
    refine zi_iconst (pc' := 87) rfl rfl ?_
    exact zi_iret rfl rfl h
set_option maxRecDepth 100000 in
theorem s_M_readCompared_b43 {E : sx_E} {d : Nat} (hd : 7 ≤ d) {Q : Int → zi_M → Prop} {g : zi_M} (h : w_M_readCompared_b43 g Q) : zi_W E d 231 43 [some (.ref 214), none] [] g (zi_Q Q) := by
  unfold w_M_readCompared_b43 at h
  refine zi_aload_n (pc' := 44) rfl rfl rfl ?_
  refine zi_geti (pc' := 47) 17 rfl rfl rfl rfl rfl rfl ?_
  refine zi_bipush (pc' := 49) rfl rfl (by decide) ?_
  obtain ⟨o8, h⟩ := h
  refine zi_icmp_ne (x := 57) (pc' := 52) rfl rfl o8 (by decide) (fun c21 => ?_) (fun c21 => ?_)
  · replace h := h.1 c21
    refine zi_aload_n (pc' := 58) rfl rfl rfl ?_
    refine zi_geti (pc' := 61) 17 rfl rfl rfl rfl rfl rfl ?_
    refine zi_bipush (pc' := 63) rfl rfl (by decide) ?_
    refine zi_icmp_ne (x := 71) (pc' := 66) rfl rfl o8 (by decide) (fun c20 => ?_) (fun c20 => ?_)
    · replace h := h.1 c20
      refine zi_bipush (pc' := 73) rfl rfl (by decide) ?_
      exact zi_wk (s_M_readCompared_b73 hd h) (And.intro rfl trivial)
    · replace h := h.2 c20
      refine zi_bipush (pc' := 68) rfl rfl (by decide) ?_
      refine zi_goto (x := 73) rfl ?_
      exact zi_wk (s_M_readCompared_b73 hd h) (And.intro rfl trivial)
  · replace h := h.2 c21
    refine zi_bipush (pc' := 54) rfl rfl (by decide) ?_
    refine zi_goto (x := 73) rfl ?_
    exact zi_wk (s_M_readCompared_b73 hd h) (And.intro rfl trivial)
set_option maxRecDepth 100000 in
theorem s_M_readCompared {E : sx_E} {d : Nat} (hd : 7 ≤ d) {g : zi_M} {Q : Int → zi_M → Prop} (h : w_M_readCompared g Q) : zi_S E d 231 [.ref 214] g (zi_Q Q) := by
  refine zi_Sof jf_231 [some (.ref 214), none] rfl (And.intro rfl trivial) ?_
  unfold w_M_readCompared at h
  refine zi_aload_n (pc' := 1) rfl rfl rfl ?_
  refine zi_callV (d' := 6) (as := []) (pc' := 4) rfl rfl rfl rfl (Nat.lt_of_lt_of_le (by decide) hd) (s_M_readSum (Nat.le_refl _) h) (zi_ki (fun v1 g2 h => ?_))
  refine zi_iconst (pc' := 5) rfl rfl ?_
  obtain ⟨o4, h⟩ := h
  refine zi_icmp_ne (x := 10) (pc' := 8) rfl rfl o4 (by decide) (fun c34 => ?_) (fun c34 => ?_)
  · replace h := h.1 c34
    refine zi_aload_n (pc' := 11) rfl rfl rfl ?_
    refine zi_bipush (pc' := 13) rfl rfl (by decide) ?_
    refine zi_callV (d' := 1) (as := [_]) (pc' := 16) rfl rfl rfl rfl (Nat.lt_of_lt_of_le (by decide) hd) (s_M_isSign (Nat.le_refl _) h) (zi_kb (fun v5 g6 b7 h => ?_))
    refine zi_if_ne (x := 43) (pc' := 19) rfl rfl (zi_r_bit b7)  (fun c33 => ?_) (fun c33 => ?_)
    · replace h := h.1 c33
      exact zi_wk (s_M_readCompared_b43 hd h) (And.intro rfl trivial)
    · replace h := h.2 c33
      refine zi_aload_n (pc' := 20) rfl rfl rfl ?_
      refine zi_bipush (pc' := 22) rfl rfl (by decide) ?_
      refine zi_callV (d' := 1) (as := [_]) (pc' := 25) rfl rfl rfl rfl (Nat.lt_of_lt_of_le (by decide) hd) (s_M_isSign (Nat.le_refl _) h) (zi_kb (fun v22 g23 b24 h => ?_))
      refine zi_if_ne (x := 43) (pc' := 28) rfl rfl (zi_r_bit b24)  (fun c32 => ?_) (fun c32 => ?_)
      · replace h := h.1 c32
        exact zi_wk (s_M_readCompared_b43 hd h) (And.intro rfl trivial)
      · replace h := h.2 c32
        refine zi_aload_n (pc' := 29) rfl rfl rfl ?_
        refine zi_bipush (pc' := 31) rfl rfl (by decide) ?_
        refine zi_callV (d' := 1) (as := [_]) (pc' := 34) rfl rfl rfl rfl (Nat.lt_of_lt_of_le (by decide) hd) (s_M_isSign (Nat.le_refl _) h) (zi_kb (fun v25 g26 b27 h => ?_))
        refine zi_if_ne (x := 43) (pc' := 37) rfl rfl (zi_r_bit b27)  (fun c31 => ?_) (fun c31 => ?_)
        · replace h := h.1 c31
          exact zi_wk (s_M_readCompared_b43 hd h) (And.intro rfl trivial)
        · replace h := h.2 c31
          refine zi_aload_n (pc' := 38) rfl rfl rfl ?_
          refine zi_iconst (pc' := 39) rfl rfl ?_
          refine zi_callV (d' := 1) (as := [_]) (pc' := 42) rfl rfl rfl rfl (Nat.lt_of_lt_of_le (by decide) hd) (s_M_errs (Nat.le_refl _) h) (zi_ki (fun v28 g29 h => ?_))
          exact zi_iret rfl rfl h
  · replace h := h.2 c34
    refine zi_iconst (pc' := 9) rfl rfl ?_
    exact zi_iret rfl rfl h
-- SpoutNewsModel.readAny()I
noncomputable def w_M_readAny_b66 (l1 : Int) (l2 : Int) (l3 : Int) (g : zi_M) (H : Int → Int → zi_M → Prop) (K42 : zi_M → Prop) (K96 : zi_M → Prop) (K189 : zi_M → Prop) (K200 : zi_M → Prop) (Q : Int → zi_M → Prop) : Prop := (zi_r l3 ∧ ((l3 = 0 → w_M_waits 12 g (fun _ g60 => w_M_reads g60 (fun _ g63 => H l1 l2 g63))) ∧ (¬ l3 = 0 → w_M_waits 9 g (fun _ g66 => w_M_reads g66 (fun _ g69 => H l1 l2 g69)))))
noncomputable def w_M_readAny_b33 (l1 : Int) (l2 : Int) (l3 : Int) (g : zi_M) (H : Int → Int → zi_M → Prop) (K42 : zi_M → Prop) (K96 : zi_M → Prop) (K189 : zi_M → Prop) (K200 : zi_M → Prop) (Q : Int → zi_M → Prop) : Prop := (zi_r (g 214 28) ∧ ((¬ (g 214 28) = 8 → (∀ g56, g56 = zi_u g 214 28 ((g 214 28) + 1) → (zi_r l3 ∧ ((¬ l3 = 0 → w_M_readAny_b66 l1 l2 l3 g56 H K42 K96 K189 K200 Q) ∧ (l3 = 0 → w_M_readAny_b66 (l1 + 1) l2 l3 g56 H K42 K96 K189 K200 Q))))) ∧ ((g 214 28) = 8 → K42 g)))
noncomputable def w_M_readAny_l9 (K42 : zi_M → Prop) (K96 : zi_M → Prop) (K189 : zi_M → Prop) (K200 : zi_M → Prop) (Q : Int → zi_M → Prop) : Nat → Int → Int → zi_M → Prop
  | 0, _, _, _ => False
  | f + 1, l1, l2, g => (zi_r l2 ∧ ((l2 = 0 → w_M_isWord 5 g (fun v3 g4 => ((v3 = 0 → w_M_isWord 4 g4 (fun v6 g7 => ((v6 = 0 → w_M_settles 10 g7 (fun _ g10 => w_M_settles 11 g10 (fun _ g13 => (zi_r l1 ∧ ((¬ l1 = 0 → w_M_isSign 41 g13 (fun v16 g17 => ((¬ v16 = 0 → (∀ g19, g19 = zi_u g17 214 30 ((g17 214 30) - 1) → (∀ g20, g20 = zi_u g19 214 28 ((g19 214 28) - 1) → w_M_settles 9 g20 (fun _ g22 => w_M_reads g22 (fun _ g25 => w_M_readAny_l9 K42 K96 K189 K200 Q f (l1 - 1) l2 g25))))) ∧ (v16 = 0 → K200 g17)))) ∧ (l1 = 0 → K189 g13)))))) ∧ (¬ v6 = 0 → w_M_settles 10 g7 (fun _ g30 => w_M_settles 11 g30 (fun _ g33 => w_M_waits 11 g33 (fun _ g36 => w_M_reads g36 (fun _ g39 => w_M_readAny_l9 K42 K96 K189 K200 Q f l1 1 g39)))))))) ∧ (¬ v3 = 0 → w_M_settles 10 g4 (fun _ g43 => w_M_waits 10 g43 (fun _ g46 => w_M_reads g46 (fun _ g49 => w_M_readAny_l9 K42 K96 K189 K200 Q f l1 1 g49))))))) ∧ (¬ l2 = 0 → w_M_isWord 6 g (fun v52 g53 => ((¬ v52 = 0 → w_M_readAny_b33 l1 l2 v52 g53 (w_M_readAny_l9 K42 K96 K189 K200 Q f) K42 K96 K189 K200 Q) ∧ (v52 = 0 → w_M_isSign 40 g53 (fun v74 g75 => ((v74 = 0 → w_M_readCompared g75 (fun v77 g78 => (zi_r v77 ∧ ((¬ v77 = (-1) → w_M_settles 9 g78 (fun _ g82 => w_M_readAny_l9 K42 K96 K189 K200 Q f l1 0 g82)) ∧ (v77 = (-1) → K96 g78))))) ∧ (¬ v74 = 0 → w_M_readAny_b33 l1 l2 v52 g75 (w_M_readAny_l9 K42 K96 K189 K200 Q f) K42 K96 K189 K200 Q)))))))))
noncomputable def w_M_readAny (g : zi_M) (Q : Int → zi_M → Prop) : Prop := (∀ g1, g1 = zi_u g 214 30 0 → (∃ f98, w_M_readAny_l9 (fun g88 => w_M_errs 3 g88 (fun v89 g90 => Q v89 g90)) (fun g92 => Q (-1) g92) (fun g93 => Q 0 g93) (fun g94 => w_M_errs 1 g94 (fun v95 g96 => Q v95 g96)) Q f98 0 1 g1))
set_option maxRecDepth 100000 in
theorem s_M_readAny_b66 {E : sx_E} {d : Nat} (hd : 8 ≤ d) {l1 : Int} {l2 : Int} {l3 : Int} {H : Int → Int → zi_M → Prop} {K42 : zi_M → Prop} {K96 : zi_M → Prop} {K189 : zi_M → Prop} {K200 : zi_M → Prop} {Q : Int → zi_M → Prop} {g : zi_M} (h : w_M_readAny_b66 l1 l2 l3 g H K42 K96 K189 K200 Q) (hH : ∀ (m1 : Int) (m2 : Int) (g : zi_M), H m1 m2 g → zi_W E d 229 9 [some (.ref 214), some (zi_i m1), some (zi_i m2), none] [] g (zi_Q Q)) (hK42 : ∀ (g : zi_M), K42 g → zi_W E d 229 42 [some (.ref 214), none, none, none] [] g (zi_Q Q)) (hK96 : ∀ (g : zi_M), K96 g → zi_W E d 229 96 [some (.ref 214), none, none, none] [] g (zi_Q Q)) (hK189 : ∀ (g : zi_M), K189 g → zi_W E d 229 189 [some (.ref 214), none, none, none] [] g (zi_Q Q)) (hK200 : ∀ (g : zi_M), K200 g → zi_W E d 229 200 [some (.ref 214), none, none, none] [] g (zi_Q Q)) : zi_W E d 229 66 [some (.ref 214), some (zi_i l1), some (zi_i l2), some (zi_i l3)] [] g (zi_Q Q) := by
  unfold w_M_readAny_b66 at h
  refine zi_aload_n (pc' := 67) rfl rfl rfl ?_
  refine zi_iload_n (pc' := 68) rfl rfl rfl ?_
  obtain ⟨o58, h⟩ := h
  refine zi_if_eq (x := 76) (pc' := 71) rfl rfl o58  (fun c71 => ?_) (fun c71 => ?_)
  · replace h := h.1 c71
    refine zi_bipush (pc' := 78) rfl rfl (by decide) ?_
    refine zi_callV (d' := 1) (as := [_]) (pc' := 81) rfl rfl rfl rfl (Nat.lt_of_lt_of_le (by decide) hd) (s_M_waits (Nat.le_refl _) h) (zi_kv (fun g60 h => ?_))
    refine zi_aload_n (pc' := 82) rfl rfl rfl ?_
    refine zi_callV (d' := 3) (as := []) (pc' := 85) rfl rfl rfl rfl (Nat.lt_of_lt_of_le (by decide) hd) (s_M_reads (Nat.le_refl _) h) (zi_kv (fun g63 h => ?_))
    refine zi_goto (x := 9) rfl ?_
    exact zi_wk (hH _ _ _ h) (And.intro rfl (And.intro rfl (And.intro rfl trivial)))
  · replace h := h.2 c71
    refine zi_bipush (pc' := 73) rfl rfl (by decide) ?_
    refine zi_goto (x := 78) rfl ?_
    refine zi_callV (d' := 1) (as := [_]) (pc' := 81) rfl rfl rfl rfl (Nat.lt_of_lt_of_le (by decide) hd) (s_M_waits (Nat.le_refl _) h) (zi_kv (fun g66 h => ?_))
    refine zi_aload_n (pc' := 82) rfl rfl rfl ?_
    refine zi_callV (d' := 3) (as := []) (pc' := 85) rfl rfl rfl rfl (Nat.lt_of_lt_of_le (by decide) hd) (s_M_reads (Nat.le_refl _) h) (zi_kv (fun g69 h => ?_))
    refine zi_goto (x := 9) rfl ?_
    exact zi_wk (hH _ _ _ h) (And.intro rfl (And.intro rfl (And.intro rfl trivial)))
set_option maxRecDepth 100000 in
theorem s_M_readAny_b33 {E : sx_E} {d : Nat} (hd : 8 ≤ d) {l1 : Int} {l2 : Int} {l3 : Int} {H : Int → Int → zi_M → Prop} {K42 : zi_M → Prop} {K96 : zi_M → Prop} {K189 : zi_M → Prop} {K200 : zi_M → Prop} {Q : Int → zi_M → Prop} {g : zi_M} (h : w_M_readAny_b33 l1 l2 l3 g H K42 K96 K189 K200 Q) (hH : ∀ (m1 : Int) (m2 : Int) (g : zi_M), H m1 m2 g → zi_W E d 229 9 [some (.ref 214), some (zi_i m1), some (zi_i m2), none] [] g (zi_Q Q)) (hK42 : ∀ (g : zi_M), K42 g → zi_W E d 229 42 [some (.ref 214), none, none, none] [] g (zi_Q Q)) (hK96 : ∀ (g : zi_M), K96 g → zi_W E d 229 96 [some (.ref 214), none, none, none] [] g (zi_Q Q)) (hK189 : ∀ (g : zi_M), K189 g → zi_W E d 229 189 [some (.ref 214), none, none, none] [] g (zi_Q Q)) (hK200 : ∀ (g : zi_M), K200 g → zi_W E d 229 200 [some (.ref 214), none, none, none] [] g (zi_Q Q)) : zi_W E d 229 33 [some (.ref 214), some (zi_i l1), some (zi_i l2), some (zi_i l3)] [] g (zi_Q Q) := by
  unfold w_M_readAny_b33 at h
  refine zi_aload_n (pc' := 34) rfl rfl rfl ?_
  refine zi_geti (pc' := 37) 28 rfl rfl rfl rfl rfl rfl ?_
  refine zi_bipush (pc' := 39) rfl rfl (by decide) ?_
  obtain ⟨o55, h⟩ := h
  refine zi_icmp_ne (x := 48) (pc' := 42) rfl rfl o55 (by decide) (fun c73 => ?_) (fun c73 => ?_)
  · replace h := h.1 c73
    refine zi_aload_n (pc' := 49) rfl rfl rfl ?_
    refine zi_aload_n (pc' := 50) rfl rfl rfl ?_
    refine zi_geti (pc' := 53) 28 rfl rfl rfl rfl rfl rfl ?_
    refine zi_iconst (pc' := 54) rfl rfl ?_
    refine zi_iadd (pc' := 55) rfl rfl ?_
    refine zi_puti (pc' := 58) 28 rfl rfl rfl rfl rfl  ?_
    replace h := h _ rfl
    refine zi_iload_n (pc' := 59) rfl rfl rfl ?_
    obtain ⟨o57, h⟩ := h
    refine zi_if_ne (x := 66) (pc' := 62) rfl rfl o57  (fun c72 => ?_) (fun c72 => ?_)
    · replace h := h.1 c72
      exact zi_wk (s_M_readAny_b66 hd h hH hK42 hK96 hK189 hK200) (And.intro rfl (And.intro rfl (And.intro rfl (And.intro rfl trivial))))
    · replace h := h.2 c72
      refine zi_iload_n (pc' := 63) rfl rfl rfl ?_
      refine zi_iconst (pc' := 64) rfl rfl ?_
      refine zi_iadd (pc' := 65) rfl rfl ?_
      refine zi_istore_n (pc' := 66) [some _, some _, some _, some _] rfl rfl rfl ?_
      exact zi_wk (s_M_readAny_b66 hd h hH hK42 hK96 hK189 hK200) (And.intro rfl (And.intro rfl (And.intro rfl (And.intro rfl trivial))))
  · replace h := h.2 c73
    exact zi_wk (hK42 _ h) (And.intro rfl trivial)
set_option maxRecDepth 100000 in
theorem s_M_readAny_l9_r {E : sx_E} {d : Nat} (hd : 8 ≤ d) {K42 : zi_M → Prop} {K96 : zi_M → Prop} {K189 : zi_M → Prop} {K200 : zi_M → Prop} {Q : Int → zi_M → Prop} (hK42 : ∀ (g : zi_M), K42 g → zi_W E d 229 42 [some (.ref 214), none, none, none] [] g (zi_Q Q)) (hK96 : ∀ (g : zi_M), K96 g → zi_W E d 229 96 [some (.ref 214), none, none, none] [] g (zi_Q Q)) (hK189 : ∀ (g : zi_M), K189 g → zi_W E d 229 189 [some (.ref 214), none, none, none] [] g (zi_Q Q)) (hK200 : ∀ (g : zi_M), K200 g → zi_W E d 229 200 [some (.ref 214), none, none, none] [] g (zi_Q Q)) : ∀ (f : Nat) {l1 : Int} {l2 : Int} {g : zi_M}, w_M_readAny_l9 K42 K96 K189 K200 Q f l1 l2 g → zi_W E d 229 9 [some (.ref 214), some (zi_i l1), some (zi_i l2), none] [] g (zi_Q Q)
  | 0, _, _, _, h => False.elim h
  | f + 1, l1, l2, g, h => by
    refine zi_iload_n (pc' := 10) rfl rfl rfl ?_
    obtain ⟨o2, h⟩ := h
    refine zi_if_eq (x := 109) (pc' := 13) rfl rfl o2  (fun c87 => ?_) (fun c87 => ?_)
    · replace h := h.1 c87
      refine zi_aload_n (pc' := 110) rfl rfl rfl ?_
      refine zi_iconst (pc' := 111) rfl rfl ?_
      refine zi_callV (d' := 1) (as := [_]) (pc' := 114) rfl rfl rfl rfl (Nat.lt_of_lt_of_le (by decide) hd) (s_M_isWord (Nat.le_refl _) h) (zi_kb (fun v3 g4 b5 h => ?_))
      refine zi_if_eq (x := 138) (pc' := 117) rfl rfl (zi_r_bit b5)  (fun c51 => ?_) (fun c51 => ?_)
      · replace h := h.1 c51
        refine zi_aload_n (pc' := 139) rfl rfl rfl ?_
        refine zi_iconst (pc' := 140) rfl rfl ?_
        refine zi_callV (d' := 1) (as := [_]) (pc' := 143) rfl rfl rfl rfl (Nat.lt_of_lt_of_le (by decide) hd) (s_M_isWord (Nat.le_refl _) h) (zi_kb (fun v6 g7 b8 h => ?_))
        refine zi_if_eq (x := 173) (pc' := 146) rfl rfl (zi_r_bit b8)  (fun c41 => ?_) (fun c41 => ?_)
        · replace h := h.1 c41
          refine zi_aload_n (pc' := 174) rfl rfl rfl ?_
          refine zi_bipush (pc' := 176) rfl rfl (by decide) ?_
          refine zi_callV (d' := 2) (as := [_]) (pc' := 179) rfl rfl rfl rfl (Nat.lt_of_lt_of_le (by decide) hd) (s_M_settles (Nat.le_refl _) h) (zi_kv (fun g10 h => ?_))
          refine zi_aload_n (pc' := 180) rfl rfl rfl ?_
          refine zi_bipush (pc' := 182) rfl rfl (by decide) ?_
          refine zi_callV (d' := 2) (as := [_]) (pc' := 185) rfl rfl rfl rfl (Nat.lt_of_lt_of_le (by decide) hd) (s_M_settles (Nat.le_refl _) h) (zi_kv (fun g13 h => ?_))
          refine zi_iload_n (pc' := 186) rfl rfl rfl ?_
          obtain ⟨o15, h⟩ := h
          refine zi_if_ne (x := 191) (pc' := 189) rfl rfl o15  (fun c28 => ?_) (fun c28 => ?_)
          · replace h := h.1 c28
            refine zi_aload_n (pc' := 192) rfl rfl rfl ?_
            refine zi_bipush (pc' := 194) rfl rfl (by decide) ?_
            refine zi_callV (d' := 1) (as := [_]) (pc' := 197) rfl rfl rfl rfl (Nat.lt_of_lt_of_le (by decide) hd) (s_M_isSign (Nat.le_refl _) h) (zi_kb (fun v16 g17 b18 h => ?_))
            refine zi_if_ne (x := 206) (pc' := 200) rfl rfl (zi_r_bit b18)  (fun c27 => ?_) (fun c27 => ?_)
            · replace h := h.1 c27
              refine zi_aload_n (pc' := 207) rfl rfl rfl ?_
              refine zi_aload_n (pc' := 208) rfl rfl rfl ?_
              refine zi_geti (pc' := 211) 30 rfl rfl rfl rfl rfl rfl ?_
              refine zi_iconst (pc' := 212) rfl rfl ?_
              refine zi_isub (pc' := 213) rfl rfl ?_
              refine zi_puti (pc' := 216) 30 rfl rfl rfl rfl rfl  ?_
              replace h := h _ rfl
              refine zi_iload_n (pc' := 217) rfl rfl rfl ?_
              refine zi_iconst (pc' := 218) rfl rfl ?_
              refine zi_isub (pc' := 219) rfl rfl ?_
              refine zi_istore_n (pc' := 220) [some _, some _, some _, none] rfl rfl rfl ?_
              refine zi_aload_n (pc' := 221) rfl rfl rfl ?_
              refine zi_aload_n (pc' := 222) rfl rfl rfl ?_
              refine zi_geti (pc' := 225) 28 rfl rfl rfl rfl rfl rfl ?_
              refine zi_iconst (pc' := 226) rfl rfl ?_
              refine zi_isub (pc' := 227) rfl rfl ?_
              refine zi_puti (pc' := 230) 28 rfl rfl rfl rfl rfl  ?_
              replace h := h _ rfl
              refine zi_aload_n (pc' := 231) rfl rfl rfl ?_
              refine zi_bipush (pc' := 233) rfl rfl (by decide) ?_
              refine zi_callV (d' := 2) (as := [_]) (pc' := 236) rfl rfl rfl rfl (Nat.lt_of_lt_of_le (by decide) hd) (s_M_settles (Nat.le_refl _) h) (zi_kv (fun g22 h => ?_))
              refine zi_aload_n (pc' := 237) rfl rfl rfl ?_
              refine zi_callV (d' := 3) (as := []) (pc' := 240) rfl rfl rfl rfl (Nat.lt_of_lt_of_le (by decide) hd) (s_M_reads (Nat.le_refl _) h) (zi_kv (fun g25 h => ?_))
              refine zi_goto (x := 9) rfl ?_
              exact zi_wk (s_M_readAny_l9_r hd hK42 hK96 hK189 hK200 f h) (And.intro rfl (And.intro rfl (And.intro rfl trivial)))
            · replace h := h.2 c27
              exact zi_wk (hK200 _ h) (And.intro rfl trivial)
          · replace h := h.2 c28
            exact zi_wk (hK189 _ h) (And.intro rfl trivial)
        · replace h := h.2 c41
          refine zi_aload_n (pc' := 147) rfl rfl rfl ?_
          refine zi_bipush (pc' := 149) rfl rfl (by decide) ?_
          refine zi_callV (d' := 2) (as := [_]) (pc' := 152) rfl rfl rfl rfl (Nat.lt_of_lt_of_le (by decide) hd) (s_M_settles (Nat.le_refl _) h) (zi_kv (fun g30 h => ?_))
          refine zi_aload_n (pc' := 153) rfl rfl rfl ?_
          refine zi_bipush (pc' := 155) rfl rfl (by decide) ?_
          refine zi_callV (d' := 2) (as := [_]) (pc' := 158) rfl rfl rfl rfl (Nat.lt_of_lt_of_le (by decide) hd) (s_M_settles (Nat.le_refl _) h) (zi_kv (fun g33 h => ?_))
          refine zi_aload_n (pc' := 159) rfl rfl rfl ?_
          refine zi_bipush (pc' := 161) rfl rfl (by decide) ?_
          refine zi_callV (d' := 1) (as := [_]) (pc' := 164) rfl rfl rfl rfl (Nat.lt_of_lt_of_le (by decide) hd) (s_M_waits (Nat.le_refl _) h) (zi_kv (fun g36 h => ?_))
          refine zi_aload_n (pc' := 165) rfl rfl rfl ?_
          refine zi_callV (d' := 3) (as := []) (pc' := 168) rfl rfl rfl rfl (Nat.lt_of_lt_of_le (by decide) hd) (s_M_reads (Nat.le_refl _) h) (zi_kv (fun g39 h => ?_))
          refine zi_iconst (pc' := 169) rfl rfl ?_
          refine zi_istore_n (pc' := 170) [some _, some _, some _, none] rfl rfl rfl ?_
          refine zi_goto (x := 9) rfl ?_
          exact zi_wk (s_M_readAny_l9_r hd hK42 hK96 hK189 hK200 f h) (And.intro rfl (And.intro rfl (And.intro rfl trivial)))
      · replace h := h.2 c51
        refine zi_aload_n (pc' := 118) rfl rfl rfl ?_
        refine zi_bipush (pc' := 120) rfl rfl (by decide) ?_
        refine zi_callV (d' := 2) (as := [_]) (pc' := 123) rfl rfl rfl rfl (Nat.lt_of_lt_of_le (by decide) hd) (s_M_settles (Nat.le_refl _) h) (zi_kv (fun g43 h => ?_))
        refine zi_aload_n (pc' := 124) rfl rfl rfl ?_
        refine zi_bipush (pc' := 126) rfl rfl (by decide) ?_
        refine zi_callV (d' := 1) (as := [_]) (pc' := 129) rfl rfl rfl rfl (Nat.lt_of_lt_of_le (by decide) hd) (s_M_waits (Nat.le_refl _) h) (zi_kv (fun g46 h => ?_))
        refine zi_aload_n (pc' := 130) rfl rfl rfl ?_
        refine zi_callV (d' := 3) (as := []) (pc' := 133) rfl rfl rfl rfl (Nat.lt_of_lt_of_le (by decide) hd) (s_M_reads (Nat.le_refl _) h) (zi_kv (fun g49 h => ?_))
        refine zi_iconst (pc' := 134) rfl rfl ?_
        refine zi_istore_n (pc' := 135) [some _, some _, some _, none] rfl rfl rfl ?_
        refine zi_goto (x := 9) rfl ?_
        exact zi_wk (s_M_readAny_l9_r hd hK42 hK96 hK189 hK200 f h) (And.intro rfl (And.intro rfl (And.intro rfl trivial)))
    · replace h := h.2 c87
      refine zi_aload_n (pc' := 14) rfl rfl rfl ?_
      refine zi_bipush (pc' := 16) rfl rfl (by decide) ?_
      refine zi_callV (d' := 1) (as := [_]) (pc' := 19) rfl rfl rfl rfl (Nat.lt_of_lt_of_le (by decide) hd) (s_M_isWord (Nat.le_refl _) h) (zi_kb (fun v52 g53 b54 h => ?_))
      refine zi_istore_n (pc' := 20) [some _, some _, some _, some _] rfl rfl rfl ?_
      refine zi_iload_n (pc' := 21) rfl rfl rfl ?_
      refine zi_if_ne (x := 33) (pc' := 24) rfl rfl (zi_r_bit b54)  (fun c86 => ?_) (fun c86 => ?_)
      · replace h := h.1 c86
        exact zi_wk (s_M_readAny_b33 hd h (fun _ _ _ h => s_M_readAny_l9_r hd hK42 hK96 hK189 hK200 f h) hK42 hK96 hK189 hK200) (And.intro rfl (And.intro rfl (And.intro rfl (And.intro rfl trivial))))
      · replace h := h.2 c86
        refine zi_aload_n (pc' := 25) rfl rfl rfl ?_
        refine zi_bipush (pc' := 27) rfl rfl (by decide) ?_
        refine zi_callV (d' := 1) (as := [_]) (pc' := 30) rfl rfl rfl rfl (Nat.lt_of_lt_of_le (by decide) hd) (s_M_isSign (Nat.le_refl _) h) (zi_kb (fun v74 g75 b76 h => ?_))
        refine zi_if_eq (x := 88) (pc' := 33) rfl rfl (zi_r_bit b76)  (fun c85 => ?_) (fun c85 => ?_)
        · replace h := h.1 c85
          refine zi_aload_n (pc' := 89) rfl rfl rfl ?_
          refine zi_callV (d' := 7) (as := []) (pc' := 92) rfl rfl rfl rfl (Nat.lt_of_lt_of_le (by decide) hd) (s_M_readCompared (Nat.le_refl _) h) (zi_ki (fun v77 g78 h => ?_))
          refine zi_iconst (pc' := 93) rfl rfl ?_
          obtain ⟨o80, h⟩ := h
          refine zi_icmp_ne (x := 98) (pc' := 96) rfl rfl o80 (by decide) (fun c84 => ?_) (fun c84 => ?_)
          · replace h := h.1 c84
            refine zi_aload_n (pc' := 99) rfl rfl rfl ?_
            refine zi_bipush (pc' := 101) rfl rfl (by decide) ?_
            refine zi_callV (d' := 2) (as := [_]) (pc' := 104) rfl rfl rfl rfl (Nat.lt_of_lt_of_le (by decide) hd) (s_M_settles (Nat.le_refl _) h) (zi_kv (fun g82 h => ?_))
            refine zi_iconst (pc' := 105) rfl rfl ?_
            refine zi_istore_n (pc' := 106) [some _, some _, some _, some _] rfl rfl rfl ?_
            refine zi_goto (x := 9) rfl ?_
            exact zi_wk (s_M_readAny_l9_r hd hK42 hK96 hK189 hK200 f h) (And.intro rfl (And.intro rfl (And.intro rfl trivial)))
          · replace h := h.2 c84
            exact zi_wk (hK96 _ h) (And.intro rfl trivial)
        · replace h := h.2 c85
          exact zi_wk (s_M_readAny_b33 hd h (fun _ _ _ h => s_M_readAny_l9_r hd hK42 hK96 hK189 hK200 f h) hK42 hK96 hK189 hK200) (And.intro rfl (And.intro rfl (And.intro rfl (And.intro rfl trivial))))
set_option maxRecDepth 100000 in
theorem s_M_readAny_l9 {E : sx_E} {d : Nat} (hd : 8 ≤ d) {K42 : zi_M → Prop} {K96 : zi_M → Prop} {K189 : zi_M → Prop} {K200 : zi_M → Prop} {Q : Int → zi_M → Prop} {l1 : Int} {l2 : Int} {g : zi_M} (h : ∃ f, w_M_readAny_l9 K42 K96 K189 K200 Q f l1 l2 g) (hK42 : ∀ (g : zi_M), K42 g → zi_W E d 229 42 [some (.ref 214), none, none, none] [] g (zi_Q Q)) (hK96 : ∀ (g : zi_M), K96 g → zi_W E d 229 96 [some (.ref 214), none, none, none] [] g (zi_Q Q)) (hK189 : ∀ (g : zi_M), K189 g → zi_W E d 229 189 [some (.ref 214), none, none, none] [] g (zi_Q Q)) (hK200 : ∀ (g : zi_M), K200 g → zi_W E d 229 200 [some (.ref 214), none, none, none] [] g (zi_Q Q)) : zi_W E d 229 9 [some (.ref 214), some (zi_i l1), some (zi_i l2), none] [] g (zi_Q Q) := by
  obtain ⟨f, h⟩ := h
  exact s_M_readAny_l9_r hd hK42 hK96 hK189 hK200 f h
set_option maxRecDepth 100000 in
theorem s_M_readAny {E : sx_E} {d : Nat} (hd : 8 ≤ d) {g : zi_M} {Q : Int → zi_M → Prop} (h : w_M_readAny g Q) : zi_S E d 229 [.ref 214] g (zi_Q Q) := by
  refine zi_Sof jf_229 [some (.ref 214), none, none, none] rfl (And.intro rfl trivial) ?_
  unfold w_M_readAny at h
  refine zi_iconst (pc' := 1) rfl rfl ?_
  refine zi_istore_n (pc' := 2) [some _, some _, none, none] rfl rfl rfl ?_
  refine zi_aload_n (pc' := 3) rfl rfl rfl ?_
  refine zi_iconst (pc' := 4) rfl rfl ?_
  refine zi_puti (pc' := 7) 30 rfl rfl rfl rfl rfl  ?_
  replace h := h _ rfl
  refine zi_iconst (pc' := 8) rfl rfl ?_
  refine zi_istore_n (pc' := 9) [some _, some _, some _, none] rfl rfl rfl ?_
  refine zi_wk (s_M_readAny_l9 hd h (fun g88 h => ?_) (fun g92 h => ?_) (fun g93 h => ?_) (fun g94 h => ?_)) (And.intro rfl (And.intro rfl (And.intro rfl trivial)))
  · refine zi_aload_n (pc' := 43) rfl rfl rfl ?_
    refine zi_iconst (pc' := 44) rfl rfl ?_
    refine zi_callV (d' := 1) (as := [_]) (pc' := 47) rfl rfl rfl rfl (Nat.lt_of_lt_of_le (by decide) hd) (s_M_errs (Nat.le_refl _) h) (zi_ki (fun v89 g90 h => ?_))
    exact zi_iret rfl rfl h
  · refine zi_iconst (pc' := 97) rfl rfl ?_
    exact zi_iret rfl rfl h
  · refine zi_iconst (pc' := 190) rfl rfl ?_
    exact zi_iret rfl rfl h
  · refine zi_aload_n (pc' := 201) rfl rfl rfl ?_
    refine zi_iconst (pc' := 202) rfl rfl ?_
    refine zi_callV (d' := 1) (as := [_]) (pc' := 205) rfl rfl rfl rfl (Nat.lt_of_lt_of_le (by decide) hd) (s_M_errs (Nat.le_refl _) h) (zi_ki (fun v95 g96 h => ?_))
    exact zi_iret rfl rfl h
-- SpoutNewsModel.readLaw()I
noncomputable def w_M_readLaw_b92 (l1 : Int) (l2 : Int) (g : zi_M) (H : Int → zi_M → Prop) (K15 : zi_M → Prop) (K58 : zi_M → Prop) (K90 : zi_M → Prop) (K111 : zi_M → Prop) (K128 : Int → zi_M → Prop) (Q : Int → zi_M → Prop) : Prop := ((0 ≤ l2 ∧ l2 < 48) ∧ (∀ g20, g20 = zi_u g 228 l2 (g 214 27) → w_M_isSign 59 g20 (fun v21 g22 => ((¬ v21 = 0 → w_M_reads g22 (fun _ g25 => H (l1 + 1) g25)) ∧ (v21 = 0 → K111 g22)))))
noncomputable def w_M_readLaw_l2 (K15 : zi_M → Prop) (K58 : zi_M → Prop) (K90 : zi_M → Prop) (K111 : zi_M → Prop) (K128 : Int → zi_M → Prop) (Q : Int → zi_M → Prop) : Nat → Int → zi_M → Prop
  | 0, _, _ => False
  | f + 1, l1, g => w_M_isLineWord g (fun v1 g2 => ((v1 = 0 → K128 l1 g2) ∧ (¬ v1 = 0 → (zi_r l1 ∧ ((¬ l1 = 16 → ((0 ≤ (32 + l1) ∧ (32 + l1) < 48) ∧ (∀ g6, g6 = zi_u g2 225 (32 + l1) (g2 214 17) → w_M_reads g6 (fun _ g8 => (∀ g10, g10 = zi_u g8 226 (32 + l1) (g8 214 27) → w_M_readSum g10 (fun v11 g12 => (zi_r v11 ∧ ((¬ v11 = (-1) → (∀ g15, g15 = zi_u g12 227 (32 + l1) (g12 214 27) → w_M_isWord 3 g15 (fun v16 g17 => ((v16 = 0 → w_M_readLaw_b92 l1 (32 + l1) g17 (w_M_readLaw_l2 K15 K58 K90 K111 K128 Q f) K15 K58 K90 K111 K128 Q) ∧ (¬ v16 = 0 → w_M_reads g17 (fun _ g29 => w_M_readAny g29 (fun v31 g32 => (zi_r v31 ∧ ((¬ v31 = (-1) → w_M_readLaw_b92 l1 (32 + l1) g32 (w_M_readLaw_l2 K15 K58 K90 K111 K128 Q f) K15 K58 K90 K111 K128 Q) ∧ (v31 = (-1) → K90 g32)))))))))) ∧ (v11 = (-1) → K58 g12))))))))) ∧ (l1 = 16 → K15 g2))))))
noncomputable def w_M_readLaw (g : zi_M) (Q : Int → zi_M → Prop) : Prop := (∃ f57, w_M_readLaw_l2 (fun g40 => w_M_errs 3 g40 (fun v41 g42 => Q v41 g42)) (fun g44 => Q (-1) g44) (fun g45 => Q (-1) g45) (fun g46 => w_M_errs 1 g46 (fun v47 g48 => Q v47 g48)) (fun k50 g51 => (zi_r (g51 214 16) ∧ ((¬ (g51 214 16) = 0 → w_M_errs 1 g51 (fun v53 g54 => Q v53 g54)) ∧ ((g51 214 16) = 0 → Q k50 g51)))) Q f57 0 g)
set_option maxRecDepth 100000 in
theorem s_M_readLaw_b92 {E : sx_E} {d : Nat} (hd : 9 ≤ d) {l1 : Int} {l2 : Int} {H : Int → zi_M → Prop} {K15 : zi_M → Prop} {K58 : zi_M → Prop} {K90 : zi_M → Prop} {K111 : zi_M → Prop} {K128 : Int → zi_M → Prop} {Q : Int → zi_M → Prop} {g : zi_M} (h : w_M_readLaw_b92 l1 l2 g H K15 K58 K90 K111 K128 Q) (hH : ∀ (m1 : Int) (g : zi_M), H m1 g → zi_W E d 222 2 [some (.ref 214), some (zi_i m1), none] [] g (zi_Q Q)) (hK15 : ∀ (g : zi_M), K15 g → zi_W E d 222 15 [some (.ref 214), none, none] [] g (zi_Q Q)) (hK58 : ∀ (g : zi_M), K58 g → zi_W E d 222 58 [some (.ref 214), none, none] [] g (zi_Q Q)) (hK90 : ∀ (g : zi_M), K90 g → zi_W E d 222 90 [some (.ref 214), none, none] [] g (zi_Q Q)) (hK111 : ∀ (g : zi_M), K111 g → zi_W E d 222 111 [some (.ref 214), none, none] [] g (zi_Q Q)) (hK128 : ∀ (k1 : Int) (g : zi_M), K128 k1 g → zi_W E d 222 128 [some (.ref 214), some (zi_i k1), none] [] g (zi_Q Q)) : zi_W E d 222 92 [some (.ref 214), some (zi_i l1), some (zi_i l2)] [] g (zi_Q Q) := by
  unfold w_M_readLaw_b92 at h
  refine zi_aload_n (pc' := 93) rfl rfl rfl ?_
  refine zi_getr (pc' := 96) rfl rfl rfl rfl rfl ?_
  refine zi_iload_n (pc' := 97) rfl rfl rfl ?_
  refine zi_aload_n (pc' := 98) rfl rfl rfl ?_
  refine zi_geti (pc' := 101) 27 rfl rfl rfl rfl rfl rfl ?_
  obtain ⟨o19, h⟩ := h
  refine zi_iast (pc' := 102) rfl rfl rfl o19 ?_
  replace h := h _ rfl
  refine zi_aload_n (pc' := 103) rfl rfl rfl ?_
  refine zi_bipush (pc' := 105) rfl rfl (by decide) ?_
  refine zi_callV (d' := 1) (as := [_]) (pc' := 108) rfl rfl rfl rfl (Nat.lt_of_lt_of_le (by decide) hd) (s_M_isSign (Nat.le_refl _) h) (zi_kb (fun v21 g22 b23 h => ?_))
  refine zi_if_ne (x := 117) (pc' := 111) rfl rfl (zi_r_bit b23)  (fun c27 => ?_) (fun c27 => ?_)
  · replace h := h.1 c27
    refine zi_aload_n (pc' := 118) rfl rfl rfl ?_
    refine zi_callV (d' := 3) (as := []) (pc' := 121) rfl rfl rfl rfl (Nat.lt_of_lt_of_le (by decide) hd) (s_M_reads (Nat.le_refl _) h) (zi_kv (fun g25 h => ?_))
    refine zi_iload_n (pc' := 122) rfl rfl rfl ?_
    refine zi_iconst (pc' := 123) rfl rfl ?_
    refine zi_iadd (pc' := 124) rfl rfl ?_
    refine zi_istore_n (pc' := 125) [some _, some _, some _] rfl rfl rfl ?_
    refine zi_goto (x := 2) rfl ?_
    exact zi_wk (hH _ _ h) (And.intro rfl (And.intro rfl trivial))
  · replace h := h.2 c27
    exact zi_wk (hK111 _ h) (And.intro rfl trivial)
set_option maxRecDepth 100000 in
theorem s_M_readLaw_l2_r {E : sx_E} {d : Nat} (hd : 9 ≤ d) {K15 : zi_M → Prop} {K58 : zi_M → Prop} {K90 : zi_M → Prop} {K111 : zi_M → Prop} {K128 : Int → zi_M → Prop} {Q : Int → zi_M → Prop} (hK15 : ∀ (g : zi_M), K15 g → zi_W E d 222 15 [some (.ref 214), none, none] [] g (zi_Q Q)) (hK58 : ∀ (g : zi_M), K58 g → zi_W E d 222 58 [some (.ref 214), none, none] [] g (zi_Q Q)) (hK90 : ∀ (g : zi_M), K90 g → zi_W E d 222 90 [some (.ref 214), none, none] [] g (zi_Q Q)) (hK111 : ∀ (g : zi_M), K111 g → zi_W E d 222 111 [some (.ref 214), none, none] [] g (zi_Q Q)) (hK128 : ∀ (k1 : Int) (g : zi_M), K128 k1 g → zi_W E d 222 128 [some (.ref 214), some (zi_i k1), none] [] g (zi_Q Q)) : ∀ (f : Nat) {l1 : Int} {g : zi_M}, w_M_readLaw_l2 K15 K58 K90 K111 K128 Q f l1 g → zi_W E d 222 2 [some (.ref 214), some (zi_i l1), none] [] g (zi_Q Q)
  | 0, _, _, h => False.elim h
  | f + 1, l1, g, h => by
    refine zi_aload_n (pc' := 3) rfl rfl rfl ?_
    refine zi_callV (d' := 2) (as := []) (pc' := 6) rfl rfl rfl rfl (Nat.lt_of_lt_of_le (by decide) hd) (s_M_isLineWord (Nat.le_refl _) h) (zi_kb (fun v1 g2 b3 h => ?_))
    refine zi_if_eq (x := 128) (pc' := 9) rfl rfl (zi_r_bit b3)  (fun c39 => ?_) (fun c39 => ?_)
    · replace h := h.1 c39
      exact zi_wk (hK128 _ _ h) (And.intro rfl (And.intro rfl trivial))
    · replace h := h.2 c39
      refine zi_iload_n (pc' := 10) rfl rfl rfl ?_
      refine zi_bipush (pc' := 12) rfl rfl (by decide) ?_
      obtain ⟨o4, h⟩ := h
      refine zi_icmp_ne (x := 21) (pc' := 15) rfl rfl o4 (by decide) (fun c38 => ?_) (fun c38 => ?_)
      · replace h := h.1 c38
        refine zi_bipush (pc' := 23) rfl rfl (by decide) ?_
        refine zi_iload_n (pc' := 24) rfl rfl rfl ?_
        refine zi_iadd (pc' := 25) rfl rfl ?_
        refine zi_istore_n (pc' := 26) [some _, some _, some _] rfl rfl rfl ?_
        refine zi_aload_n (pc' := 27) rfl rfl rfl ?_
        refine zi_getr (pc' := 30) rfl rfl rfl rfl rfl ?_
        refine zi_iload_n (pc' := 31) rfl rfl rfl ?_
        refine zi_aload_n (pc' := 32) rfl rfl rfl ?_
        refine zi_geti (pc' := 35) 17 rfl rfl rfl rfl rfl rfl ?_
        obtain ⟨o5, h⟩ := h
        refine zi_iast (pc' := 36) rfl rfl rfl o5 ?_
        replace h := h _ rfl
        refine zi_aload_n (pc' := 37) rfl rfl rfl ?_
        refine zi_callV (d' := 3) (as := []) (pc' := 40) rfl rfl rfl rfl (Nat.lt_of_lt_of_le (by decide) hd) (s_M_reads (Nat.le_refl _) h) (zi_kv (fun g8 h => ?_))
        refine zi_aload_n (pc' := 41) rfl rfl rfl ?_
        refine zi_getr (pc' := 44) rfl rfl rfl rfl rfl ?_
        refine zi_iload_n (pc' := 45) rfl rfl rfl ?_
        refine zi_aload_n (pc' := 46) rfl rfl rfl ?_
        refine zi_geti (pc' := 49) 27 rfl rfl rfl rfl rfl rfl ?_
        refine zi_iast (pc' := 50) rfl rfl rfl o5 ?_
        replace h := h _ rfl
        refine zi_aload_n (pc' := 51) rfl rfl rfl ?_
        refine zi_callV (d' := 6) (as := []) (pc' := 54) rfl rfl rfl rfl (Nat.lt_of_lt_of_le (by decide) hd) (s_M_readSum (Nat.le_refl _) h) (zi_ki (fun v11 g12 h => ?_))
        refine zi_iconst (pc' := 55) rfl rfl ?_
        obtain ⟨o14, h⟩ := h
        refine zi_icmp_ne (x := 60) (pc' := 58) rfl rfl o14 (by decide) (fun c37 => ?_) (fun c37 => ?_)
        · replace h := h.1 c37
          refine zi_aload_n (pc' := 61) rfl rfl rfl ?_
          refine zi_getr (pc' := 64) rfl rfl rfl rfl rfl ?_
          refine zi_iload_n (pc' := 65) rfl rfl rfl ?_
          refine zi_aload_n (pc' := 66) rfl rfl rfl ?_
          refine zi_geti (pc' := 69) 27 rfl rfl rfl rfl rfl rfl ?_
          refine zi_iast (pc' := 70) rfl rfl rfl o5 ?_
          replace h := h _ rfl
          refine zi_aload_n (pc' := 71) rfl rfl rfl ?_
          refine zi_iconst (pc' := 72) rfl rfl ?_
          refine zi_callV (d' := 1) (as := [_]) (pc' := 75) rfl rfl rfl rfl (Nat.lt_of_lt_of_le (by decide) hd) (s_M_isWord (Nat.le_refl _) h) (zi_kb (fun v16 g17 b18 h => ?_))
          refine zi_if_eq (x := 92) (pc' := 78) rfl rfl (zi_r_bit b18)  (fun c36 => ?_) (fun c36 => ?_)
          · replace h := h.1 c36
            exact zi_wk (s_M_readLaw_b92 hd h (fun _ _ h => s_M_readLaw_l2_r hd hK15 hK58 hK90 hK111 hK128 f h) hK15 hK58 hK90 hK111 hK128) (And.intro rfl (And.intro rfl (And.intro rfl trivial)))
          · replace h := h.2 c36
            refine zi_aload_n (pc' := 79) rfl rfl rfl ?_
            refine zi_callV (d' := 3) (as := []) (pc' := 82) rfl rfl rfl rfl (Nat.lt_of_lt_of_le (by decide) hd) (s_M_reads (Nat.le_refl _) h) (zi_kv (fun g29 h => ?_))
            refine zi_aload_n (pc' := 83) rfl rfl rfl ?_
            refine zi_callV (d' := 8) (as := []) (pc' := 86) rfl rfl rfl rfl (Nat.lt_of_lt_of_le (by decide) hd) (s_M_readAny (Nat.le_refl _) h) (zi_ki (fun v31 g32 h => ?_))
            refine zi_iconst (pc' := 87) rfl rfl ?_
            obtain ⟨o34, h⟩ := h
            refine zi_icmp_ne (x := 92) (pc' := 90) rfl rfl o34 (by decide) (fun c35 => ?_) (fun c35 => ?_)
            · replace h := h.1 c35
              exact zi_wk (s_M_readLaw_b92 hd h (fun _ _ h => s_M_readLaw_l2_r hd hK15 hK58 hK90 hK111 hK128 f h) hK15 hK58 hK90 hK111 hK128) (And.intro rfl (And.intro rfl (And.intro rfl trivial)))
            · replace h := h.2 c35
              exact zi_wk (hK90 _ h) (And.intro rfl trivial)
        · replace h := h.2 c37
          exact zi_wk (hK58 _ h) (And.intro rfl trivial)
      · replace h := h.2 c38
        exact zi_wk (hK15 _ h) (And.intro rfl trivial)
set_option maxRecDepth 100000 in
theorem s_M_readLaw_l2 {E : sx_E} {d : Nat} (hd : 9 ≤ d) {K15 : zi_M → Prop} {K58 : zi_M → Prop} {K90 : zi_M → Prop} {K111 : zi_M → Prop} {K128 : Int → zi_M → Prop} {Q : Int → zi_M → Prop} {l1 : Int} {g : zi_M} (h : ∃ f, w_M_readLaw_l2 K15 K58 K90 K111 K128 Q f l1 g) (hK15 : ∀ (g : zi_M), K15 g → zi_W E d 222 15 [some (.ref 214), none, none] [] g (zi_Q Q)) (hK58 : ∀ (g : zi_M), K58 g → zi_W E d 222 58 [some (.ref 214), none, none] [] g (zi_Q Q)) (hK90 : ∀ (g : zi_M), K90 g → zi_W E d 222 90 [some (.ref 214), none, none] [] g (zi_Q Q)) (hK111 : ∀ (g : zi_M), K111 g → zi_W E d 222 111 [some (.ref 214), none, none] [] g (zi_Q Q)) (hK128 : ∀ (k1 : Int) (g : zi_M), K128 k1 g → zi_W E d 222 128 [some (.ref 214), some (zi_i k1), none] [] g (zi_Q Q)) : zi_W E d 222 2 [some (.ref 214), some (zi_i l1), none] [] g (zi_Q Q) := by
  obtain ⟨f, h⟩ := h
  exact s_M_readLaw_l2_r hd hK15 hK58 hK90 hK111 hK128 f h
set_option maxRecDepth 100000 in
theorem s_M_readLaw {E : sx_E} {d : Nat} (hd : 9 ≤ d) {g : zi_M} {Q : Int → zi_M → Prop} (h : w_M_readLaw g Q) : zi_S E d 222 [.ref 214] g (zi_Q Q) := by
  refine zi_Sof jf_222 [some (.ref 214), none, none] rfl (And.intro rfl trivial) ?_
  unfold w_M_readLaw at h
  refine zi_iconst (pc' := 1) rfl rfl ?_
  refine zi_istore_n (pc' := 2) [some _, some _, none] rfl rfl rfl ?_
  refine zi_wk (s_M_readLaw_l2 hd h (fun g40 h => ?_) (fun g44 h => ?_) (fun g45 h => ?_) (fun g46 h => ?_) (fun k50 g51 h => ?_)) (And.intro rfl (And.intro rfl trivial))
  · refine zi_aload_n (pc' := 16) rfl rfl rfl ?_
    refine zi_iconst (pc' := 17) rfl rfl ?_
    refine zi_callV (d' := 1) (as := [_]) (pc' := 20) rfl rfl rfl rfl (Nat.lt_of_lt_of_le (by decide) hd) (s_M_errs (Nat.le_refl _) h) (zi_ki (fun v41 g42 h => ?_))
    exact zi_iret rfl rfl h
  · refine zi_iconst (pc' := 59) rfl rfl ?_
    exact zi_iret rfl rfl h
  · refine zi_iconst (pc' := 91) rfl rfl ?_
    exact zi_iret rfl rfl h
  · refine zi_aload_n (pc' := 112) rfl rfl rfl ?_
    refine zi_iconst (pc' := 113) rfl rfl ?_
    refine zi_callV (d' := 1) (as := [_]) (pc' := 116) rfl rfl rfl rfl (Nat.lt_of_lt_of_le (by decide) hd) (s_M_errs (Nat.le_refl _) h) (zi_ki (fun v47 g48 h => ?_))
    exact zi_iret rfl rfl h
  · refine zi_aload_n (pc' := 129) rfl rfl rfl ?_
    refine zi_geti (pc' := 132) 16 rfl rfl rfl rfl rfl rfl ?_
    obtain ⟨o52, h⟩ := h
    refine zi_if_ne (x := 139) (pc' := 135) rfl rfl o52  (fun c56 => ?_) (fun c56 => ?_)
    · replace h := h.1 c56
      refine zi_aload_n (pc' := 140) rfl rfl rfl ?_
      refine zi_iconst (pc' := 141) rfl rfl ?_
      refine zi_callV (d' := 1) (as := [_]) (pc' := 144) rfl rfl rfl rfl (Nat.lt_of_lt_of_le (by decide) hd) (s_M_errs (Nat.le_refl _) h) (zi_ki (fun v53 g54 h => ?_))
      exact zi_iret rfl rfl h
    · replace h := h.2 c56
      refine zi_iload_n (pc' := 136) rfl rfl rfl ?_
      refine zi_goto (x := 144) rfl ?_
      exact zi_iret rfl rfl h
-- SpoutNewsModel.readNumber(II)I
noncomputable def w_M_readNumber (l1 : Int) (l2 : Int) (g : zi_M) (Q : Int → zi_M → Prop) : Prop := (zi_r (g 214 16) ∧ (((g 214 16) = 3 → w_M_isIn (g 214 17) l1 l2 g (fun v2 g3 => ((¬ v2 = 0 → w_M_reads g3 (fun _ g6 => Q (g3 214 17) g6)) ∧ (v2 = 0 → w_M_errs 2 g3 (fun v8 g9 => Q v8 g9))))) ∧ (¬ (g 214 16) = 3 → w_M_errs 1 g (fun v12 g13 => Q v12 g13))))
set_option maxRecDepth 100000 in
theorem s_M_readNumber {E : sx_E} {d : Nat} (hd : 4 ≤ d) {l1 : Int} {l2 : Int} {g : zi_M} {Q : Int → zi_M → Prop} (h : w_M_readNumber l1 l2 g Q) : zi_S E d 214 [.ref 214, zi_i l1, zi_i l2] g (zi_Q Q) := by
  refine zi_Sof jf_214 [some (.ref 214), some (zi_i l1), some (zi_i l2), none] rfl (And.intro rfl (And.intro rfl (And.intro rfl trivial))) ?_
  unfold w_M_readNumber at h
  refine zi_aload_n (pc' := 1) rfl rfl rfl ?_
  refine zi_geti (pc' := 4) 16 rfl rfl rfl rfl rfl rfl ?_
  refine zi_iconst (pc' := 5) rfl rfl ?_
  obtain ⟨o1, h⟩ := h
  refine zi_icmp_eq (x := 14) (pc' := 8) rfl rfl o1 (by decide) (fun c15 => ?_) (fun c15 => ?_)
  · replace h := h.1 c15
    refine zi_aload_n (pc' := 15) rfl rfl rfl ?_
    refine zi_aload_n (pc' := 16) rfl rfl rfl ?_
    refine zi_geti (pc' := 19) 17 rfl rfl rfl rfl rfl rfl ?_
    refine zi_iload_n (pc' := 20) rfl rfl rfl ?_
    refine zi_iload_n (pc' := 21) rfl rfl rfl ?_
    refine zi_callV (d' := 1) (as := [_, _, _]) (pc' := 24) rfl rfl rfl rfl (Nat.lt_of_lt_of_le (by decide) hd) (s_M_isIn (Nat.le_refl _) h) (zi_kb (fun v2 g3 b4 h => ?_))
    refine zi_if_ne (x := 33) (pc' := 27) rfl rfl (zi_r_bit b4)  (fun c11 => ?_) (fun c11 => ?_)
    · replace h := h.1 c11
      refine zi_aload_n (pc' := 34) rfl rfl rfl ?_
      refine zi_geti (pc' := 37) 17 rfl rfl rfl rfl rfl rfl ?_
      refine zi_istore_n (pc' := 38) [some _, some _, some _, some _] rfl rfl rfl ?_
      refine zi_aload_n (pc' := 39) rfl rfl rfl ?_
      refine zi_callV (d' := 3) (as := []) (pc' := 42) rfl rfl rfl rfl (Nat.lt_of_lt_of_le (by decide) hd) (s_M_reads (Nat.le_refl _) h) (zi_kv (fun g6 h => ?_))
      refine zi_iload_n (pc' := 43) rfl rfl rfl ?_
      exact zi_iret rfl rfl h
    · replace h := h.2 c11
      refine zi_aload_n (pc' := 28) rfl rfl rfl ?_
      refine zi_iconst (pc' := 29) rfl rfl ?_
      refine zi_callV (d' := 1) (as := [_]) (pc' := 32) rfl rfl rfl rfl (Nat.lt_of_lt_of_le (by decide) hd) (s_M_errs (Nat.le_refl _) h) (zi_ki (fun v8 g9 h => ?_))
      exact zi_iret rfl rfl h
  · replace h := h.2 c15
    refine zi_aload_n (pc' := 9) rfl rfl rfl ?_
    refine zi_iconst (pc' := 10) rfl rfl ?_
    refine zi_callV (d' := 1) (as := [_]) (pc' := 13) rfl rfl rfl rfl (Nat.lt_of_lt_of_le (by decide) hd) (s_M_errs (Nat.le_refl _) h) (zi_ki (fun v12 g13 h => ?_))
    exact zi_iret rfl rfl h
-- SpoutNewsModel.readTold(III)I
noncomputable def w_M_readTold (l1 : Int) (l2 : Int) (l3 : Int) (g : zi_M) (Q : Int → zi_M → Prop) : Prop := w_M_isWord l1 g (fun v1 g2 => ((¬ v1 = 0 → w_M_reads g2 (fun _ g5 => w_M_readNumber l2 l3 g5 (fun v7 g8 => Q v7 g8))) ∧ (v1 = 0 → w_M_errs 1 g2 (fun v10 g11 => Q v10 g11))))
set_option maxRecDepth 100000 in
theorem s_M_readTold {E : sx_E} {d : Nat} (hd : 5 ≤ d) {l1 : Int} {l2 : Int} {l3 : Int} {g : zi_M} {Q : Int → zi_M → Prop} (h : w_M_readTold l1 l2 l3 g Q) : zi_S E d 213 [.ref 214, zi_i l1, zi_i l2, zi_i l3] g (zi_Q Q) := by
  refine zi_Sof jf_213 [some (.ref 214), some (zi_i l1), some (zi_i l2), some (zi_i l3)] rfl (And.intro rfl (And.intro rfl (And.intro rfl (And.intro rfl trivial)))) ?_
  unfold w_M_readTold at h
  refine zi_aload_n (pc' := 1) rfl rfl rfl ?_
  refine zi_iload_n (pc' := 2) rfl rfl rfl ?_
  refine zi_callV (d' := 1) (as := [_]) (pc' := 5) rfl rfl rfl rfl (Nat.lt_of_lt_of_le (by decide) hd) (s_M_isWord (Nat.le_refl _) h) (zi_kb (fun v1 g2 b3 h => ?_))
  refine zi_if_ne (x := 14) (pc' := 8) rfl rfl (zi_r_bit b3)  (fun c13 => ?_) (fun c13 => ?_)
  · replace h := h.1 c13
    refine zi_aload_n (pc' := 15) rfl rfl rfl ?_
    refine zi_callV (d' := 3) (as := []) (pc' := 18) rfl rfl rfl rfl (Nat.lt_of_lt_of_le (by decide) hd) (s_M_reads (Nat.le_refl _) h) (zi_kv (fun g5 h => ?_))
    refine zi_aload_n (pc' := 19) rfl rfl rfl ?_
    refine zi_iload_n (pc' := 20) rfl rfl rfl ?_
    refine zi_iload_n (pc' := 21) rfl rfl rfl ?_
    refine zi_callV (d' := 4) (as := [_, _]) (pc' := 24) rfl rfl rfl rfl (Nat.lt_of_lt_of_le (by decide) hd) (s_M_readNumber (Nat.le_refl _) h) (zi_ki (fun v7 g8 h => ?_))
    exact zi_iret rfl rfl h
  · replace h := h.2 c13
    refine zi_aload_n (pc' := 9) rfl rfl rfl ?_
    refine zi_iconst (pc' := 10) rfl rfl ?_
    refine zi_callV (d' := 1) (as := [_]) (pc' := 13) rfl rfl rfl rfl (Nat.lt_of_lt_of_le (by decide) hd) (s_M_errs (Nat.le_refl _) h) (zi_ki (fun v10 g11 h => ?_))
    exact zi_iret rfl rfl h
-- SpoutNewsModel.kindOfDeed()I
noncomputable def w_M_kindOfDeed (g : zi_M) (Q : Int → zi_M → Prop) : Prop := w_M_isWord 19 g (fun v1 g2 => ((v1 = 0 → (zi_r (g2 214 16) ∧ ((¬ (g2 214 16) = 2 → Q (-1) g2) ∧ ((g2 214 16) = 2 → w_M_isIn (g2 214 17) 21 26 g2 (fun v5 g6 => ((v5 = 0 → Q (-1) g6) ∧ (¬ v5 = 0 → Q ((1 + (g6 214 17)) - 21) g6))))))) ∧ (¬ v1 = 0 → Q 0 g2)))
set_option maxRecDepth 100000 in
theorem s_M_kindOfDeed {E : sx_E} {d : Nat} (hd : 2 ≤ d) {g : zi_M} {Q : Int → zi_M → Prop} (h : w_M_kindOfDeed g Q) : zi_S E d 220 [.ref 214] g (zi_Q Q) := by
  refine zi_Sof jf_220 [some (.ref 214)] rfl (And.intro rfl trivial) ?_
  unfold w_M_kindOfDeed at h
  refine zi_aload_n (pc' := 1) rfl rfl rfl ?_
  refine zi_bipush (pc' := 3) rfl rfl (by decide) ?_
  refine zi_callV (d' := 1) (as := [_]) (pc' := 6) rfl rfl rfl rfl (Nat.lt_of_lt_of_le (by decide) hd) (s_M_isWord (Nat.le_refl _) h) (zi_kb (fun v1 g2 b3 h => ?_))
  refine zi_if_eq (x := 11) (pc' := 9) rfl rfl (zi_r_bit b3)  (fun c10 => ?_) (fun c10 => ?_)
  · replace h := h.1 c10
    refine zi_aload_n (pc' := 12) rfl rfl rfl ?_
    refine zi_geti (pc' := 15) 16 rfl rfl rfl rfl rfl rfl ?_
    refine zi_iconst (pc' := 16) rfl rfl ?_
    obtain ⟨o4, h⟩ := h
    refine zi_icmp_ne (x := 46) (pc' := 19) rfl rfl o4 (by decide) (fun c9 => ?_) (fun c9 => ?_)
    · replace h := h.1 c9
      refine zi_iconst (pc' := 47) rfl rfl ?_
      exact zi_iret rfl rfl h
    · replace h := h.2 c9
      refine zi_aload_n (pc' := 20) rfl rfl rfl ?_
      refine zi_aload_n (pc' := 21) rfl rfl rfl ?_
      refine zi_geti (pc' := 24) 17 rfl rfl rfl rfl rfl rfl ?_
      refine zi_bipush (pc' := 26) rfl rfl (by decide) ?_
      refine zi_bipush (pc' := 28) rfl rfl (by decide) ?_
      refine zi_callV (d' := 1) (as := [_, _, _]) (pc' := 31) rfl rfl rfl rfl (Nat.lt_of_lt_of_le (by decide) hd) (s_M_isIn (Nat.le_refl _) h) (zi_kb (fun v5 g6 b7 h => ?_))
      refine zi_if_eq (x := 46) (pc' := 34) rfl rfl (zi_r_bit b7)  (fun c8 => ?_) (fun c8 => ?_)
      · replace h := h.1 c8
        refine zi_iconst (pc' := 47) rfl rfl ?_
        exact zi_iret rfl rfl h
      · replace h := h.2 c8
        refine zi_iconst (pc' := 35) rfl rfl ?_
        refine zi_aload_n (pc' := 36) rfl rfl rfl ?_
        refine zi_geti (pc' := 39) 17 rfl rfl rfl rfl rfl rfl ?_
        refine zi_iadd (pc' := 40) rfl rfl ?_
        refine zi_bipush (pc' := 42) rfl rfl (by decide) ?_
        refine zi_isub (pc' := 43) rfl rfl ?_
        refine zi_goto (x := 47) rfl ?_
        exact zi_iret rfl rfl h
  · replace h := h.2 c10
    refine zi_iconst (pc' := 10) rfl rfl ?_
    exact zi_iret rfl rfl h
-- SpoutNewsModel.mostFor(I)I
noncomputable def w_M_mostFor (l1 : Int) (g : zi_M) (Q : Int → zi_M → Prop) : Prop := (zi_r l1 ∧ ((¬ l1 = 2 → ((l1 < 3 → Q ((g 214 7) - 1) g) ∧ (3 ≤ l1 → ((5 < l1 → Q ((g 214 7) - 1) g) ∧ (l1 ≤ 5 → Q ((g 214 6) - 1) g))))) ∧ (l1 = 2 → Q 5 g)))
set_option maxRecDepth 100000 in
theorem s_M_mostFor {E : sx_E} {d : Nat} (hd : 1 ≤ d) {l1 : Int} {g : zi_M} {Q : Int → zi_M → Prop} (h : w_M_mostFor l1 g Q) : zi_S E d 221 [.ref 214, zi_i l1] g (zi_Q Q) := by
  refine zi_Sof jf_221 [some (.ref 214), some (zi_i l1)] rfl (And.intro rfl (And.intro rfl trivial)) ?_
  unfold w_M_mostFor at h
  refine zi_iload_n (pc' := 1) rfl rfl rfl ?_
  refine zi_iconst (pc' := 2) rfl rfl ?_
  obtain ⟨o1, h⟩ := h
  refine zi_icmp_ne (x := 7) (pc' := 5) rfl rfl o1 (by decide) (fun c4 => ?_) (fun c4 => ?_)
  · replace h := h.1 c4
    refine zi_iload_n (pc' := 8) rfl rfl rfl ?_
    refine zi_iconst (pc' := 9) rfl rfl ?_
    refine zi_icmp_lt (x := 26) (pc' := 12) rfl rfl o1 (by decide) (fun c3 => ?_) (fun c3 => ?_)
    · replace h := h.1 c3
      refine zi_aload_n (pc' := 27) rfl rfl rfl ?_
      refine zi_geti (pc' := 30) 7 rfl rfl rfl rfl rfl rfl ?_
      refine zi_iconst (pc' := 31) rfl rfl ?_
      refine zi_isub (pc' := 32) rfl rfl ?_
      exact zi_iret rfl rfl h
    · replace h := h.2 c3
      refine zi_iload_n (pc' := 13) rfl rfl rfl ?_
      refine zi_iconst (pc' := 14) rfl rfl ?_
      refine zi_icmp_gt (x := 26) (pc' := 17) rfl rfl o1 (by decide) (fun c2 => ?_) (fun c2 => ?_)
      · replace h := h.1 c2
        refine zi_aload_n (pc' := 27) rfl rfl rfl ?_
        refine zi_geti (pc' := 30) 7 rfl rfl rfl rfl rfl rfl ?_
        refine zi_iconst (pc' := 31) rfl rfl ?_
        refine zi_isub (pc' := 32) rfl rfl ?_
        exact zi_iret rfl rfl h
      · replace h := h.2 c2
        refine zi_aload_n (pc' := 18) rfl rfl rfl ?_
        refine zi_geti (pc' := 21) 6 rfl rfl rfl rfl rfl rfl ?_
        refine zi_iconst (pc' := 22) rfl rfl ?_
        refine zi_isub (pc' := 23) rfl rfl ?_
        refine zi_goto (x := 32) rfl ?_
        exact zi_iret rfl rfl h
  · replace h := h.2 c4
    refine zi_iconst (pc' := 6) rfl rfl ?_
    exact zi_iret rfl rfl h
-- SpoutNewsModel.readMark(I)I
noncomputable def w_M_readMark (l1 : Int) (g : zi_M) (Q : Int → zi_M → Prop) : Prop := w_M_isSign l1 g (fun v1 g2 => ((¬ v1 = 0 → w_M_reads g2 (fun _ g5 => Q 0 g5)) ∧ (v1 = 0 → w_M_errs 1 g2 (fun v7 g8 => Q v7 g8))))
set_option maxRecDepth 100000 in
theorem s_M_readMark {E : sx_E} {d : Nat} (hd : 4 ≤ d) {l1 : Int} {g : zi_M} {Q : Int → zi_M → Prop} (h : w_M_readMark l1 g Q) : zi_S E d 215 [.ref 214, zi_i l1] g (zi_Q Q) := by
  refine zi_Sof jf_215 [some (.ref 214), some (zi_i l1)] rfl (And.intro rfl (And.intro rfl trivial)) ?_
  unfold w_M_readMark at h
  refine zi_aload_n (pc' := 1) rfl rfl rfl ?_
  refine zi_iload_n (pc' := 2) rfl rfl rfl ?_
  refine zi_callV (d' := 1) (as := [_]) (pc' := 5) rfl rfl rfl rfl (Nat.lt_of_lt_of_le (by decide) hd) (s_M_isSign (Nat.le_refl _) h) (zi_kb (fun v1 g2 b3 h => ?_))
  refine zi_if_ne (x := 14) (pc' := 8) rfl rfl (zi_r_bit b3)  (fun c10 => ?_) (fun c10 => ?_)
  · replace h := h.1 c10
    refine zi_aload_n (pc' := 15) rfl rfl rfl ?_
    refine zi_callV (d' := 3) (as := []) (pc' := 18) rfl rfl rfl rfl (Nat.lt_of_lt_of_le (by decide) hd) (s_M_reads (Nat.le_refl _) h) (zi_kv (fun g5 h => ?_))
    refine zi_iconst (pc' := 19) rfl rfl ?_
    exact zi_iret rfl rfl h
  · replace h := h.2 c10
    refine zi_aload_n (pc' := 9) rfl rfl rfl ?_
    refine zi_iconst (pc' := 10) rfl rfl ?_
    refine zi_callV (d' := 1) (as := [_]) (pc' := 13) rfl rfl rfl rfl (Nat.lt_of_lt_of_le (by decide) hd) (s_M_errs (Nat.le_refl _) h) (zi_ki (fun v7 g8 h => ?_))
    exact zi_iret rfl rfl h
-- SpoutNewsModel.readDeed(I)I
noncomputable def w_M_readDeed (l1 : Int) (g : zi_M) (Q : Int → zi_M → Prop) : Prop := w_M_readTold 18 0 999 g (fun v1 g2 => ((0 ≤ l1 ∧ l1 < 128) ∧ (∀ g5, g5 = zi_u g2 234 l1 v1 → (zi_r (g5 234 l1) ∧ ((¬ (g5 234 l1) = (-1) → w_M_kindOfDeed g5 (fun v7 g8 => (zi_r v7 ∧ ((¬ v7 = (-1) → w_M_reads g8 (fun _ g12 => ((0 ≤ (l1 + 1) ∧ (l1 + 1) < 128) ∧ (∀ g15, g15 = zi_u g12 234 (l1 + 1) v7 → w_M_mostFor v7 g15 (fun v16 g17 => w_M_readNumber 0 v16 g17 (fun v19 g20 => ((0 ≤ (l1 + 2) ∧ (l1 + 2) < 128) ∧ (∀ g23, g23 = zi_u g20 234 (l1 + 2) v19 → (zi_r (g23 234 (l1 + 2)) ∧ ((¬ (g23 234 (l1 + 2)) = (-1) → ((v7 = 0 → w_M_readTold 20 0 ((g23 214 6) - 1) g23 (fun v25 g26 => ((0 ≤ (l1 + 3) ∧ (l1 + 3) < 128) ∧ (∀ g29, g29 = zi_u g26 234 (l1 + 3) v25 → (zi_r (g29 234 (l1 + 3)) ∧ ((¬ (g29 234 (l1 + 3)) = (-1) → w_M_readMark 59 g29 (fun v31 g32 => Q v31 g32)) ∧ ((g29 234 (l1 + 3)) = (-1) → Q (-1) g29))))))) ∧ (¬ v7 = 0 → ((¬ v7 = 2 → ((¬ v7 = 6 → ((0 ≤ (l1 + 3) ∧ (l1 + 3) < 128) ∧ (∀ g36, g36 = zi_u g23 234 (l1 + 3) 0 → (zi_r (g36 234 (l1 + 3)) ∧ ((¬ (g36 234 (l1 + 3)) = (-1) → w_M_readMark 59 g36 (fun v38 g39 => Q v38 g39)) ∧ ((g36 234 (l1 + 3)) = (-1) → Q (-1) g36)))))) ∧ (v7 = 6 → w_M_readNumber 0 15 g23 (fun v42 g43 => ((0 ≤ (l1 + 3) ∧ (l1 + 3) < 128) ∧ (∀ g46, g46 = zi_u g43 234 (l1 + 3) v42 → (zi_r (g46 234 (l1 + 3)) ∧ ((¬ (g46 234 (l1 + 3)) = (-1) → w_M_readMark 59 g46 (fun v48 g49 => Q v48 g49)) ∧ ((g46 234 (l1 + 3)) = (-1) → Q (-1) g46))))))))) ∧ (v7 = 2 → w_M_readTold 20 0 ((g23 214 6) - 1) g23 (fun v53 g54 => ((0 ≤ (l1 + 3) ∧ (l1 + 3) < 128) ∧ (∀ g57, g57 = zi_u g54 234 (l1 + 3) v53 → (zi_r (g57 234 (l1 + 3)) ∧ ((¬ (g57 234 (l1 + 3)) = (-1) → w_M_readMark 59 g57 (fun v59 g60 => Q v59 g60)) ∧ ((g57 234 (l1 + 3)) = (-1) → Q (-1) g57))))))))))) ∧ ((g23 234 (l1 + 2)) = (-1) → Q (-1) g23))))))))))) ∧ (v7 = (-1) → w_M_errs 1 g8 (fun v66 g67 => Q v66 g67)))))) ∧ ((g5 234 l1) = (-1) → Q (-1) g5))))))
set_option maxRecDepth 100000 in
theorem s_M_readDeed {E : sx_E} {d : Nat} (hd : 6 ≤ d) {l1 : Int} {g : zi_M} {Q : Int → zi_M → Prop} (h : w_M_readDeed l1 g Q) : zi_S E d 219 [.ref 214, zi_i l1] g (zi_Q Q) := by
  refine zi_Sof jf_219 [some (.ref 214), some (zi_i l1), none] rfl (And.intro rfl (And.intro rfl trivial)) ?_
  unfold w_M_readDeed at h
  refine zi_aload_n (pc' := 1) rfl rfl rfl ?_
  refine zi_getr (pc' := 4) rfl rfl rfl rfl rfl ?_
  refine zi_iload_n (pc' := 5) rfl rfl rfl ?_
  refine zi_aload_n (pc' := 6) rfl rfl rfl ?_
  refine zi_bipush (pc' := 8) rfl rfl (by decide) ?_
  refine zi_iconst (pc' := 9) rfl rfl ?_
  refine zi_sipush (pc' := 12) rfl rfl (by decide) ?_
  refine zi_callV (d' := 5) (as := [_, _, _]) (pc' := 15) rfl rfl rfl rfl (Nat.lt_of_lt_of_le (by decide) hd) (s_M_readTold (Nat.le_refl _) h) (zi_ki (fun v1 g2 h => ?_))
  obtain ⟨o4, h⟩ := h
  refine zi_iast (pc' := 16) rfl rfl rfl o4 ?_
  replace h := h _ rfl
  refine zi_aload_n (pc' := 17) rfl rfl rfl ?_
  refine zi_getr (pc' := 20) rfl rfl rfl rfl rfl ?_
  refine zi_iload_n (pc' := 21) rfl rfl rfl ?_
  refine zi_iald (pc' := 22) rfl rfl rfl o4 ?_
  refine zi_iconst (pc' := 23) rfl rfl ?_
  obtain ⟨o6, h⟩ := h
  refine zi_icmp_ne (x := 28) (pc' := 26) rfl rfl o6 (by decide) (fun c70 => ?_) (fun c70 => ?_)
  · replace h := h.1 c70
    refine zi_aload_n (pc' := 29) rfl rfl rfl ?_
    refine zi_callV (d' := 2) (as := []) (pc' := 32) rfl rfl rfl rfl (Nat.lt_of_lt_of_le (by decide) hd) (s_M_kindOfDeed (Nat.le_refl _) h) (zi_ki (fun v7 g8 h => ?_))
    refine zi_istore_n (pc' := 33) [some _, some _, some _] rfl rfl rfl ?_
    refine zi_iload_n (pc' := 34) rfl rfl rfl ?_
    refine zi_iconst (pc' := 35) rfl rfl ?_
    obtain ⟨o10, h⟩ := h
    refine zi_icmp_ne (x := 44) (pc' := 38) rfl rfl o10 (by decide) (fun c69 => ?_) (fun c69 => ?_)
    · replace h := h.1 c69
      refine zi_aload_n (pc' := 45) rfl rfl rfl ?_
      refine zi_callV (d' := 3) (as := []) (pc' := 48) rfl rfl rfl rfl (Nat.lt_of_lt_of_le (by decide) hd) (s_M_reads (Nat.le_refl _) h) (zi_kv (fun g12 h => ?_))
      refine zi_aload_n (pc' := 49) rfl rfl rfl ?_
      refine zi_getr (pc' := 52) rfl rfl rfl rfl rfl ?_
      refine zi_iload_n (pc' := 53) rfl rfl rfl ?_
      refine zi_iconst (pc' := 54) rfl rfl ?_
      refine zi_iadd (pc' := 55) rfl rfl ?_
      refine zi_iload_n (pc' := 56) rfl rfl rfl ?_
      obtain ⟨o14, h⟩ := h
      refine zi_iast (pc' := 57) rfl rfl rfl o14 ?_
      replace h := h _ rfl
      refine zi_aload_n (pc' := 58) rfl rfl rfl ?_
      refine zi_getr (pc' := 61) rfl rfl rfl rfl rfl ?_
      refine zi_iload_n (pc' := 62) rfl rfl rfl ?_
      refine zi_iconst (pc' := 63) rfl rfl ?_
      refine zi_iadd (pc' := 64) rfl rfl ?_
      refine zi_aload_n (pc' := 65) rfl rfl rfl ?_
      refine zi_iconst (pc' := 66) rfl rfl ?_
      refine zi_aload_n (pc' := 67) rfl rfl rfl ?_
      refine zi_iload_n (pc' := 68) rfl rfl rfl ?_
      refine zi_callV (d' := 1) (as := [_]) (pc' := 71) rfl rfl rfl rfl (Nat.lt_of_lt_of_le (by decide) hd) (s_M_mostFor (Nat.le_refl _) h) (zi_ki (fun v16 g17 h => ?_))
      refine zi_callV (d' := 4) (as := [_, _]) (pc' := 74) rfl rfl rfl rfl (Nat.lt_of_lt_of_le (by decide) hd) (s_M_readNumber (Nat.le_refl _) h) (zi_ki (fun v19 g20 h => ?_))
      obtain ⟨o22, h⟩ := h
      refine zi_iast (pc' := 75) rfl rfl rfl o22 ?_
      replace h := h _ rfl
      refine zi_aload_n (pc' := 76) rfl rfl rfl ?_
      refine zi_getr (pc' := 79) rfl rfl rfl rfl rfl ?_
      refine zi_iload_n (pc' := 80) rfl rfl rfl ?_
      refine zi_iconst (pc' := 81) rfl rfl ?_
      refine zi_iadd (pc' := 82) rfl rfl ?_
      refine zi_iald (pc' := 83) rfl rfl rfl o22 ?_
      refine zi_iconst (pc' := 84) rfl rfl ?_
      obtain ⟨o24, h⟩ := h
      refine zi_icmp_ne (x := 89) (pc' := 87) rfl rfl o24 (by decide) (fun c65 => ?_) (fun c65 => ?_)
      · replace h := h.1 c65
        refine zi_aload_n (pc' := 90) rfl rfl rfl ?_
        refine zi_getr (pc' := 93) rfl rfl rfl rfl rfl ?_
        refine zi_iload_n (pc' := 94) rfl rfl rfl ?_
        refine zi_iconst (pc' := 95) rfl rfl ?_
        refine zi_iadd (pc' := 96) rfl rfl ?_
        refine zi_iload_n (pc' := 97) rfl rfl rfl ?_
        refine zi_if_eq (x := 105) (pc' := 100) rfl rfl o10  (fun c64 => ?_) (fun c64 => ?_)
        · replace h := h.1 c64
          refine zi_aload_n (pc' := 106) rfl rfl rfl ?_
          refine zi_bipush (pc' := 108) rfl rfl (by decide) ?_
          refine zi_iconst (pc' := 109) rfl rfl ?_
          refine zi_aload_n (pc' := 110) rfl rfl rfl ?_
          refine zi_geti (pc' := 113) 6 rfl rfl rfl rfl rfl rfl ?_
          refine zi_iconst (pc' := 114) rfl rfl ?_
          refine zi_isub (pc' := 115) rfl rfl ?_
          refine zi_callV (d' := 5) (as := [_, _, _]) (pc' := 118) rfl rfl rfl rfl (Nat.lt_of_lt_of_le (by decide) hd) (s_M_readTold (Nat.le_refl _) h) (zi_ki (fun v25 g26 h => ?_))
          refine zi_goto (x := 138) rfl ?_
          obtain ⟨o28, h⟩ := h
          refine zi_iast (pc' := 139) rfl rfl rfl o28 ?_
          replace h := h _ rfl
          refine zi_aload_n (pc' := 140) rfl rfl rfl ?_
          refine zi_getr (pc' := 143) rfl rfl rfl rfl rfl ?_
          refine zi_iload_n (pc' := 144) rfl rfl rfl ?_
          refine zi_iconst (pc' := 145) rfl rfl ?_
          refine zi_iadd (pc' := 146) rfl rfl ?_
          refine zi_iald (pc' := 147) rfl rfl rfl o28 ?_
          refine zi_iconst (pc' := 148) rfl rfl ?_
          obtain ⟨o30, h⟩ := h
          refine zi_icmp_ne (x := 155) (pc' := 151) rfl rfl o30 (by decide) (fun c34 => ?_) (fun c34 => ?_)
          · replace h := h.1 c34
            refine zi_aload_n (pc' := 156) rfl rfl rfl ?_
            refine zi_bipush (pc' := 158) rfl rfl (by decide) ?_
            refine zi_callV (d' := 4) (as := [_]) (pc' := 161) rfl rfl rfl rfl (Nat.lt_of_lt_of_le (by decide) hd) (s_M_readMark (Nat.le_refl _) h) (zi_ki (fun v31 g32 h => ?_))
            exact zi_iret rfl rfl h
          · replace h := h.2 c34
            refine zi_iconst (pc' := 152) rfl rfl ?_
            refine zi_goto (x := 161) rfl ?_
            exact zi_iret rfl rfl h
        · replace h := h.2 c64
          refine zi_iload_n (pc' := 101) rfl rfl rfl ?_
          refine zi_iconst (pc' := 102) rfl rfl ?_
          refine zi_icmp_ne (x := 121) (pc' := 105) rfl rfl o10 (by decide) (fun c63 => ?_) (fun c63 => ?_)
          · replace h := h.1 c63
            refine zi_iload_n (pc' := 122) rfl rfl rfl ?_
            refine zi_bipush (pc' := 124) rfl rfl (by decide) ?_
            refine zi_icmp_ne (x := 137) (pc' := 127) rfl rfl o10 (by decide) (fun c52 => ?_) (fun c52 => ?_)
            · replace h := h.1 c52
              refine zi_iconst (pc' := 138) rfl rfl ?_
              obtain ⟨o35, h⟩ := h
              refine zi_iast (pc' := 139) rfl rfl rfl o35 ?_
              replace h := h _ rfl
              refine zi_aload_n (pc' := 140) rfl rfl rfl ?_
              refine zi_getr (pc' := 143) rfl rfl rfl rfl rfl ?_
              refine zi_iload_n (pc' := 144) rfl rfl rfl ?_
              refine zi_iconst (pc' := 145) rfl rfl ?_
              refine zi_iadd (pc' := 146) rfl rfl ?_
              refine zi_iald (pc' := 147) rfl rfl rfl o35 ?_
              refine zi_iconst (pc' := 148) rfl rfl ?_
              obtain ⟨o37, h⟩ := h
              refine zi_icmp_ne (x := 155) (pc' := 151) rfl rfl o37 (by decide) (fun c41 => ?_) (fun c41 => ?_)
              · replace h := h.1 c41
                refine zi_aload_n (pc' := 156) rfl rfl rfl ?_
                refine zi_bipush (pc' := 158) rfl rfl (by decide) ?_
                refine zi_callV (d' := 4) (as := [_]) (pc' := 161) rfl rfl rfl rfl (Nat.lt_of_lt_of_le (by decide) hd) (s_M_readMark (Nat.le_refl _) h) (zi_ki (fun v38 g39 h => ?_))
                exact zi_iret rfl rfl h
              · replace h := h.2 c41
                refine zi_iconst (pc' := 152) rfl rfl ?_
                refine zi_goto (x := 161) rfl ?_
                exact zi_iret rfl rfl h
            · replace h := h.2 c52
              refine zi_aload_n (pc' := 128) rfl rfl rfl ?_
              refine zi_iconst (pc' := 129) rfl rfl ?_
              refine zi_bipush (pc' := 131) rfl rfl (by decide) ?_
              refine zi_callV (d' := 4) (as := [_, _]) (pc' := 134) rfl rfl rfl rfl (Nat.lt_of_lt_of_le (by decide) hd) (s_M_readNumber (Nat.le_refl _) h) (zi_ki (fun v42 g43 h => ?_))
              refine zi_goto (x := 138) rfl ?_
              obtain ⟨o45, h⟩ := h
              refine zi_iast (pc' := 139) rfl rfl rfl o45 ?_
              replace h := h _ rfl
              refine zi_aload_n (pc' := 140) rfl rfl rfl ?_
              refine zi_getr (pc' := 143) rfl rfl rfl rfl rfl ?_
              refine zi_iload_n (pc' := 144) rfl rfl rfl ?_
              refine zi_iconst (pc' := 145) rfl rfl ?_
              refine zi_iadd (pc' := 146) rfl rfl ?_
              refine zi_iald (pc' := 147) rfl rfl rfl o45 ?_
              refine zi_iconst (pc' := 148) rfl rfl ?_
              obtain ⟨o47, h⟩ := h
              refine zi_icmp_ne (x := 155) (pc' := 151) rfl rfl o47 (by decide) (fun c51 => ?_) (fun c51 => ?_)
              · replace h := h.1 c51
                refine zi_aload_n (pc' := 156) rfl rfl rfl ?_
                refine zi_bipush (pc' := 158) rfl rfl (by decide) ?_
                refine zi_callV (d' := 4) (as := [_]) (pc' := 161) rfl rfl rfl rfl (Nat.lt_of_lt_of_le (by decide) hd) (s_M_readMark (Nat.le_refl _) h) (zi_ki (fun v48 g49 h => ?_))
                exact zi_iret rfl rfl h
              · replace h := h.2 c51
                refine zi_iconst (pc' := 152) rfl rfl ?_
                refine zi_goto (x := 161) rfl ?_
                exact zi_iret rfl rfl h
          · replace h := h.2 c63
            refine zi_aload_n (pc' := 106) rfl rfl rfl ?_
            refine zi_bipush (pc' := 108) rfl rfl (by decide) ?_
            refine zi_iconst (pc' := 109) rfl rfl ?_
            refine zi_aload_n (pc' := 110) rfl rfl rfl ?_
            refine zi_geti (pc' := 113) 6 rfl rfl rfl rfl rfl rfl ?_
            refine zi_iconst (pc' := 114) rfl rfl ?_
            refine zi_isub (pc' := 115) rfl rfl ?_
            refine zi_callV (d' := 5) (as := [_, _, _]) (pc' := 118) rfl rfl rfl rfl (Nat.lt_of_lt_of_le (by decide) hd) (s_M_readTold (Nat.le_refl _) h) (zi_ki (fun v53 g54 h => ?_))
            refine zi_goto (x := 138) rfl ?_
            obtain ⟨o56, h⟩ := h
            refine zi_iast (pc' := 139) rfl rfl rfl o56 ?_
            replace h := h _ rfl
            refine zi_aload_n (pc' := 140) rfl rfl rfl ?_
            refine zi_getr (pc' := 143) rfl rfl rfl rfl rfl ?_
            refine zi_iload_n (pc' := 144) rfl rfl rfl ?_
            refine zi_iconst (pc' := 145) rfl rfl ?_
            refine zi_iadd (pc' := 146) rfl rfl ?_
            refine zi_iald (pc' := 147) rfl rfl rfl o56 ?_
            refine zi_iconst (pc' := 148) rfl rfl ?_
            obtain ⟨o58, h⟩ := h
            refine zi_icmp_ne (x := 155) (pc' := 151) rfl rfl o58 (by decide) (fun c62 => ?_) (fun c62 => ?_)
            · replace h := h.1 c62
              refine zi_aload_n (pc' := 156) rfl rfl rfl ?_
              refine zi_bipush (pc' := 158) rfl rfl (by decide) ?_
              refine zi_callV (d' := 4) (as := [_]) (pc' := 161) rfl rfl rfl rfl (Nat.lt_of_lt_of_le (by decide) hd) (s_M_readMark (Nat.le_refl _) h) (zi_ki (fun v59 g60 h => ?_))
              exact zi_iret rfl rfl h
            · replace h := h.2 c62
              refine zi_iconst (pc' := 152) rfl rfl ?_
              refine zi_goto (x := 161) rfl ?_
              exact zi_iret rfl rfl h
      · replace h := h.2 c65
        refine zi_iconst (pc' := 88) rfl rfl ?_
        exact zi_iret rfl rfl h
    · replace h := h.2 c69
      refine zi_aload_n (pc' := 39) rfl rfl rfl ?_
      refine zi_iconst (pc' := 40) rfl rfl ?_
      refine zi_callV (d' := 1) (as := [_]) (pc' := 43) rfl rfl rfl rfl (Nat.lt_of_lt_of_le (by decide) hd) (s_M_errs (Nat.le_refl _) h) (zi_ki (fun v66 g67 h => ?_))
      exact zi_iret rfl rfl h
  · replace h := h.2 c70
    refine zi_iconst (pc' := 27) rfl rfl ?_
    exact zi_iret rfl rfl h
-- SpoutNewsModel.readPlan()I
noncomputable def w_M_readPlan_l2 (K17 : zi_M → Prop) (K37 : zi_M → Prop) (K46 : Int → zi_M → Prop) (Q : Int → zi_M → Prop) : Nat → Int → zi_M → Prop
  | 0, _, _ => False
  | f + 1, l1, g => w_M_isWord 18 g (fun v1 g2 => ((v1 = 0 → K46 l1 g2) ∧ (¬ v1 = 0 → (zi_r l1 ∧ ((¬ l1 = 16 → w_M_readDeed (64 + (4 * l1)) g2 (fun v5 g6 => (zi_r v5 ∧ ((¬ v5 = (-1) → w_M_readPlan_l2 K17 K37 K46 Q f (l1 + 1) g6) ∧ (v5 = (-1) → K37 g6))))) ∧ (l1 = 16 → K17 g2))))))
noncomputable def w_M_readPlan (g : zi_M) (Q : Int → zi_M → Prop) : Prop := (∃ f24, w_M_readPlan_l2 (fun g12 => w_M_errs 3 g12 (fun v13 g14 => Q v13 g14)) (fun g16 => Q (-1) g16) (fun k17 g18 => (zi_r (g18 214 16) ∧ ((¬ (g18 214 16) = 0 → w_M_errs 1 g18 (fun v20 g21 => Q v20 g21)) ∧ ((g18 214 16) = 0 → Q k17 g18)))) Q f24 0 g)
set_option maxRecDepth 100000 in
theorem s_M_readPlan_l2_r {E : sx_E} {d : Nat} (hd : 7 ≤ d) {K17 : zi_M → Prop} {K37 : zi_M → Prop} {K46 : Int → zi_M → Prop} {Q : Int → zi_M → Prop} (hK17 : ∀ (g : zi_M), K17 g → zi_W E d 218 17 [some (.ref 214), none] [] g (zi_Q Q)) (hK37 : ∀ (g : zi_M), K37 g → zi_W E d 218 37 [some (.ref 214), none] [] g (zi_Q Q)) (hK46 : ∀ (k1 : Int) (g : zi_M), K46 k1 g → zi_W E d 218 46 [some (.ref 214), some (zi_i k1)] [] g (zi_Q Q)) : ∀ (f : Nat) {l1 : Int} {g : zi_M}, w_M_readPlan_l2 K17 K37 K46 Q f l1 g → zi_W E d 218 2 [some (.ref 214), some (zi_i l1)] [] g (zi_Q Q)
  | 0, _, _, h => False.elim h
  | f + 1, l1, g, h => by
    refine zi_aload_n (pc' := 3) rfl rfl rfl ?_
    refine zi_bipush (pc' := 5) rfl rfl (by decide) ?_
    refine zi_callV (d' := 1) (as := [_]) (pc' := 8) rfl rfl rfl rfl (Nat.lt_of_lt_of_le (by decide) hd) (s_M_isWord (Nat.le_refl _) h) (zi_kb (fun v1 g2 b3 h => ?_))
    refine zi_if_eq (x := 46) (pc' := 11) rfl rfl (zi_r_bit b3)  (fun c11 => ?_) (fun c11 => ?_)
    · replace h := h.1 c11
      exact zi_wk (hK46 _ _ h) (And.intro rfl (And.intro rfl trivial))
    · replace h := h.2 c11
      refine zi_iload_n (pc' := 12) rfl rfl rfl ?_
      refine zi_bipush (pc' := 14) rfl rfl (by decide) ?_
      obtain ⟨o4, h⟩ := h
      refine zi_icmp_ne (x := 23) (pc' := 17) rfl rfl o4 (by decide) (fun c10 => ?_) (fun c10 => ?_)
      · replace h := h.1 c10
        refine zi_aload_n (pc' := 24) rfl rfl rfl ?_
        refine zi_bipush (pc' := 26) rfl rfl (by decide) ?_
        refine zi_iconst (pc' := 27) rfl rfl ?_
        refine zi_iload_n (pc' := 28) rfl rfl rfl ?_
        refine zi_imul (pc' := 29) rfl rfl ?_
        refine zi_iadd (pc' := 30) rfl rfl ?_
        refine zi_callV (d' := 6) (as := [_]) (pc' := 33) rfl rfl rfl rfl (Nat.lt_of_lt_of_le (by decide) hd) (s_M_readDeed (Nat.le_refl _) h) (zi_ki (fun v5 g6 h => ?_))
        refine zi_iconst (pc' := 34) rfl rfl ?_
        obtain ⟨o8, h⟩ := h
        refine zi_icmp_ne (x := 39) (pc' := 37) rfl rfl o8 (by decide) (fun c9 => ?_) (fun c9 => ?_)
        · replace h := h.1 c9
          refine zi_iload_n (pc' := 40) rfl rfl rfl ?_
          refine zi_iconst (pc' := 41) rfl rfl ?_
          refine zi_iadd (pc' := 42) rfl rfl ?_
          refine zi_istore_n (pc' := 43) [some _, some _] rfl rfl rfl ?_
          refine zi_goto (x := 2) rfl ?_
          exact zi_wk (s_M_readPlan_l2_r hd hK17 hK37 hK46 f h) (And.intro rfl (And.intro rfl trivial))
        · replace h := h.2 c9
          exact zi_wk (hK37 _ h) (And.intro rfl trivial)
      · replace h := h.2 c10
        exact zi_wk (hK17 _ h) (And.intro rfl trivial)
set_option maxRecDepth 100000 in
theorem s_M_readPlan_l2 {E : sx_E} {d : Nat} (hd : 7 ≤ d) {K17 : zi_M → Prop} {K37 : zi_M → Prop} {K46 : Int → zi_M → Prop} {Q : Int → zi_M → Prop} {l1 : Int} {g : zi_M} (h : ∃ f, w_M_readPlan_l2 K17 K37 K46 Q f l1 g) (hK17 : ∀ (g : zi_M), K17 g → zi_W E d 218 17 [some (.ref 214), none] [] g (zi_Q Q)) (hK37 : ∀ (g : zi_M), K37 g → zi_W E d 218 37 [some (.ref 214), none] [] g (zi_Q Q)) (hK46 : ∀ (k1 : Int) (g : zi_M), K46 k1 g → zi_W E d 218 46 [some (.ref 214), some (zi_i k1)] [] g (zi_Q Q)) : zi_W E d 218 2 [some (.ref 214), some (zi_i l1)] [] g (zi_Q Q) := by
  obtain ⟨f, h⟩ := h
  exact s_M_readPlan_l2_r hd hK17 hK37 hK46 f h
set_option maxRecDepth 100000 in
theorem s_M_readPlan {E : sx_E} {d : Nat} (hd : 7 ≤ d) {g : zi_M} {Q : Int → zi_M → Prop} (h : w_M_readPlan g Q) : zi_S E d 218 [.ref 214] g (zi_Q Q) := by
  refine zi_Sof jf_218 [some (.ref 214), none] rfl (And.intro rfl trivial) ?_
  unfold w_M_readPlan at h
  refine zi_iconst (pc' := 1) rfl rfl ?_
  refine zi_istore_n (pc' := 2) [some _, some _] rfl rfl rfl ?_
  refine zi_wk (s_M_readPlan_l2 hd h (fun g12 h => ?_) (fun g16 h => ?_) (fun k17 g18 h => ?_)) (And.intro rfl (And.intro rfl trivial))
  · refine zi_aload_n (pc' := 18) rfl rfl rfl ?_
    refine zi_iconst (pc' := 19) rfl rfl ?_
    refine zi_callV (d' := 1) (as := [_]) (pc' := 22) rfl rfl rfl rfl (Nat.lt_of_lt_of_le (by decide) hd) (s_M_errs (Nat.le_refl _) h) (zi_ki (fun v13 g14 h => ?_))
    exact zi_iret rfl rfl h
  · refine zi_iconst (pc' := 38) rfl rfl ?_
    exact zi_iret rfl rfl h
  · refine zi_aload_n (pc' := 47) rfl rfl rfl ?_
    refine zi_geti (pc' := 50) 16 rfl rfl rfl rfl rfl rfl ?_
    obtain ⟨o19, h⟩ := h
    refine zi_if_ne (x := 57) (pc' := 53) rfl rfl o19  (fun c23 => ?_) (fun c23 => ?_)
    · replace h := h.1 c23
      refine zi_aload_n (pc' := 58) rfl rfl rfl ?_
      refine zi_iconst (pc' := 59) rfl rfl ?_
      refine zi_callV (d' := 1) (as := [_]) (pc' := 62) rfl rfl rfl rfl (Nat.lt_of_lt_of_le (by decide) hd) (s_M_errs (Nat.le_refl _) h) (zi_ki (fun v20 g21 h => ?_))
      exact zi_iret rfl rfl h
    · replace h := h.2 c23
      refine zi_iload_n (pc' := 54) rfl rfl rfl ?_
      refine zi_goto (x := 62) rfl ?_
      exact zi_iret rfl rfl h
-- SpoutNewsModel.readWeather()I
noncomputable def w_M_readWeather_l2 (K17 : zi_M → Prop) (K56 : zi_M → Prop) (K97 : zi_M → Prop) (K106 : Int → zi_M → Prop) (Q : Int → zi_M → Prop) : Nat → Int → zi_M → Prop
  | 0, _, _ => False
  | f + 1, l1, g => w_M_isWord 15 g (fun v1 g2 => ((v1 = 0 → K106 l1 g2) ∧ (¬ v1 = 0 → (zi_r l1 ∧ ((¬ l1 = 16 → w_M_readTold 15 0 999 g2 (fun v5 g6 => ((0 ≤ (32 + (2 * l1)) ∧ (32 + (2 * l1)) < 64) ∧ (∀ g9, g9 = zi_u g6 233 (32 + (2 * l1)) v5 → (zi_r (g9 233 (32 + (2 * l1))) ∧ ((¬ (g9 233 (32 + (2 * l1))) = (-1) → w_M_readTold 11 0 9 g9 (fun v11 g12 => ((0 ≤ ((32 + (2 * l1)) + 1) ∧ ((32 + (2 * l1)) + 1) < 64) ∧ (∀ g15, g15 = zi_u g12 233 ((32 + (2 * l1)) + 1) v11 → (zi_r (g15 233 ((32 + (2 * l1)) + 1)) ∧ (((g15 233 ((32 + (2 * l1)) + 1)) = (-1) → K97 g15) ∧ (¬ (g15 233 ((32 + (2 * l1)) + 1)) = (-1) → w_M_readMark 59 g15 (fun v17 g18 => (zi_r v17 ∧ ((¬ v17 = (-1) → w_M_readWeather_l2 K17 K56 K97 K106 Q f (l1 + 1) g18) ∧ (v17 = (-1) → K97 g18))))))))))) ∧ ((g9 233 (32 + (2 * l1))) = (-1) → K56 g9))))))) ∧ (l1 = 16 → K17 g2))))))
noncomputable def w_M_readWeather (g : zi_M) (Q : Int → zi_M → Prop) : Prop := (∃ f39, w_M_readWeather_l2 (fun g26 => w_M_errs 3 g26 (fun v27 g28 => Q v27 g28)) (fun g30 => Q (-1) g30) (fun g31 => Q (-1) g31) (fun k32 g33 => (zi_r (g33 214 16) ∧ ((¬ (g33 214 16) = 0 → w_M_errs 1 g33 (fun v35 g36 => Q v35 g36)) ∧ ((g33 214 16) = 0 → Q k32 g33)))) Q f39 0 g)
set_option maxRecDepth 100000 in
theorem s_M_readWeather_l2_r {E : sx_E} {d : Nat} (hd : 6 ≤ d) {K17 : zi_M → Prop} {K56 : zi_M → Prop} {K97 : zi_M → Prop} {K106 : Int → zi_M → Prop} {Q : Int → zi_M → Prop} (hK17 : ∀ (g : zi_M), K17 g → zi_W E d 217 17 [some (.ref 214), none, none] [] g (zi_Q Q)) (hK56 : ∀ (g : zi_M), K56 g → zi_W E d 217 56 [some (.ref 214), none, none] [] g (zi_Q Q)) (hK97 : ∀ (g : zi_M), K97 g → zi_W E d 217 97 [some (.ref 214), none, none] [] g (zi_Q Q)) (hK106 : ∀ (k1 : Int) (g : zi_M), K106 k1 g → zi_W E d 217 106 [some (.ref 214), some (zi_i k1), none] [] g (zi_Q Q)) : ∀ (f : Nat) {l1 : Int} {g : zi_M}, w_M_readWeather_l2 K17 K56 K97 K106 Q f l1 g → zi_W E d 217 2 [some (.ref 214), some (zi_i l1), none] [] g (zi_Q Q)
  | 0, _, _, h => False.elim h
  | f + 1, l1, g, h => by
    refine zi_aload_n (pc' := 3) rfl rfl rfl ?_
    refine zi_bipush (pc' := 5) rfl rfl (by decide) ?_
    refine zi_callV (d' := 1) (as := [_]) (pc' := 8) rfl rfl rfl rfl (Nat.lt_of_lt_of_le (by decide) hd) (s_M_isWord (Nat.le_refl _) h) (zi_kb (fun v1 g2 b3 h => ?_))
    refine zi_if_eq (x := 106) (pc' := 11) rfl rfl (zi_r_bit b3)  (fun c25 => ?_) (fun c25 => ?_)
    · replace h := h.1 c25
      exact zi_wk (hK106 _ _ h) (And.intro rfl (And.intro rfl trivial))
    · replace h := h.2 c25
      refine zi_iload_n (pc' := 12) rfl rfl rfl ?_
      refine zi_bipush (pc' := 14) rfl rfl (by decide) ?_
      obtain ⟨o4, h⟩ := h
      refine zi_icmp_ne (x := 23) (pc' := 17) rfl rfl o4 (by decide) (fun c24 => ?_) (fun c24 => ?_)
      · replace h := h.1 c24
        refine zi_bipush (pc' := 25) rfl rfl (by decide) ?_
        refine zi_iconst (pc' := 26) rfl rfl ?_
        refine zi_iload_n (pc' := 27) rfl rfl rfl ?_
        refine zi_imul (pc' := 28) rfl rfl ?_
        refine zi_iadd (pc' := 29) rfl rfl ?_
        refine zi_istore_n (pc' := 30) [some _, some _, some _] rfl rfl rfl ?_
        refine zi_aload_n (pc' := 31) rfl rfl rfl ?_
        refine zi_getr (pc' := 34) rfl rfl rfl rfl rfl ?_
        refine zi_iload_n (pc' := 35) rfl rfl rfl ?_
        refine zi_aload_n (pc' := 36) rfl rfl rfl ?_
        refine zi_bipush (pc' := 38) rfl rfl (by decide) ?_
        refine zi_iconst (pc' := 39) rfl rfl ?_
        refine zi_sipush (pc' := 42) rfl rfl (by decide) ?_
        refine zi_callV (d' := 5) (as := [_, _, _]) (pc' := 45) rfl rfl rfl rfl (Nat.lt_of_lt_of_le (by decide) hd) (s_M_readTold (Nat.le_refl _) h) (zi_ki (fun v5 g6 h => ?_))
        obtain ⟨o8, h⟩ := h
        refine zi_iast (pc' := 46) rfl rfl rfl o8 ?_
        replace h := h _ rfl
        refine zi_aload_n (pc' := 47) rfl rfl rfl ?_
        refine zi_getr (pc' := 50) rfl rfl rfl rfl rfl ?_
        refine zi_iload_n (pc' := 51) rfl rfl rfl ?_
        refine zi_iald (pc' := 52) rfl rfl rfl o8 ?_
        refine zi_iconst (pc' := 53) rfl rfl ?_
        obtain ⟨o10, h⟩ := h
        refine zi_icmp_ne (x := 58) (pc' := 56) rfl rfl o10 (by decide) (fun c23 => ?_) (fun c23 => ?_)
        · replace h := h.1 c23
          refine zi_aload_n (pc' := 59) rfl rfl rfl ?_
          refine zi_getr (pc' := 62) rfl rfl rfl rfl rfl ?_
          refine zi_iload_n (pc' := 63) rfl rfl rfl ?_
          refine zi_iconst (pc' := 64) rfl rfl ?_
          refine zi_iadd (pc' := 65) rfl rfl ?_
          refine zi_aload_n (pc' := 66) rfl rfl rfl ?_
          refine zi_bipush (pc' := 68) rfl rfl (by decide) ?_
          refine zi_iconst (pc' := 69) rfl rfl ?_
          refine zi_bipush (pc' := 71) rfl rfl (by decide) ?_
          refine zi_callV (d' := 5) (as := [_, _, _]) (pc' := 74) rfl rfl rfl rfl (Nat.lt_of_lt_of_le (by decide) hd) (s_M_readTold (Nat.le_refl _) h) (zi_ki (fun v11 g12 h => ?_))
          obtain ⟨o14, h⟩ := h
          refine zi_iast (pc' := 75) rfl rfl rfl o14 ?_
          replace h := h _ rfl
          refine zi_aload_n (pc' := 76) rfl rfl rfl ?_
          refine zi_getr (pc' := 79) rfl rfl rfl rfl rfl ?_
          refine zi_iload_n (pc' := 80) rfl rfl rfl ?_
          refine zi_iconst (pc' := 81) rfl rfl ?_
          refine zi_iadd (pc' := 82) rfl rfl ?_
          refine zi_iald (pc' := 83) rfl rfl rfl o14 ?_
          refine zi_iconst (pc' := 84) rfl rfl ?_
          obtain ⟨o16, h⟩ := h
          refine zi_icmp_eq (x := 97) (pc' := 87) rfl rfl o16 (by decide) (fun c22 => ?_) (fun c22 => ?_)
          · replace h := h.1 c22
            exact zi_wk (hK97 _ h) (And.intro rfl trivial)
          · replace h := h.2 c22
            refine zi_aload_n (pc' := 88) rfl rfl rfl ?_
            refine zi_bipush (pc' := 90) rfl rfl (by decide) ?_
            refine zi_callV (d' := 4) (as := [_]) (pc' := 93) rfl rfl rfl rfl (Nat.lt_of_lt_of_le (by decide) hd) (s_M_readMark (Nat.le_refl _) h) (zi_ki (fun v17 g18 h => ?_))
            refine zi_iconst (pc' := 94) rfl rfl ?_
            obtain ⟨o20, h⟩ := h
            refine zi_icmp_ne (x := 99) (pc' := 97) rfl rfl o20 (by decide) (fun c21 => ?_) (fun c21 => ?_)
            · replace h := h.1 c21
              refine zi_iload_n (pc' := 100) rfl rfl rfl ?_
              refine zi_iconst (pc' := 101) rfl rfl ?_
              refine zi_iadd (pc' := 102) rfl rfl ?_
              refine zi_istore_n (pc' := 103) [some _, some _, some _] rfl rfl rfl ?_
              refine zi_goto (x := 2) rfl ?_
              exact zi_wk (s_M_readWeather_l2_r hd hK17 hK56 hK97 hK106 f h) (And.intro rfl (And.intro rfl trivial))
            · replace h := h.2 c21
              exact zi_wk (hK97 _ h) (And.intro rfl trivial)
        · replace h := h.2 c23
          exact zi_wk (hK56 _ h) (And.intro rfl trivial)
      · replace h := h.2 c24
        exact zi_wk (hK17 _ h) (And.intro rfl trivial)
set_option maxRecDepth 100000 in
theorem s_M_readWeather_l2 {E : sx_E} {d : Nat} (hd : 6 ≤ d) {K17 : zi_M → Prop} {K56 : zi_M → Prop} {K97 : zi_M → Prop} {K106 : Int → zi_M → Prop} {Q : Int → zi_M → Prop} {l1 : Int} {g : zi_M} (h : ∃ f, w_M_readWeather_l2 K17 K56 K97 K106 Q f l1 g) (hK17 : ∀ (g : zi_M), K17 g → zi_W E d 217 17 [some (.ref 214), none, none] [] g (zi_Q Q)) (hK56 : ∀ (g : zi_M), K56 g → zi_W E d 217 56 [some (.ref 214), none, none] [] g (zi_Q Q)) (hK97 : ∀ (g : zi_M), K97 g → zi_W E d 217 97 [some (.ref 214), none, none] [] g (zi_Q Q)) (hK106 : ∀ (k1 : Int) (g : zi_M), K106 k1 g → zi_W E d 217 106 [some (.ref 214), some (zi_i k1), none] [] g (zi_Q Q)) : zi_W E d 217 2 [some (.ref 214), some (zi_i l1), none] [] g (zi_Q Q) := by
  obtain ⟨f, h⟩ := h
  exact s_M_readWeather_l2_r hd hK17 hK56 hK97 hK106 f h
set_option maxRecDepth 100000 in
theorem s_M_readWeather {E : sx_E} {d : Nat} (hd : 6 ≤ d) {g : zi_M} {Q : Int → zi_M → Prop} (h : w_M_readWeather g Q) : zi_S E d 217 [.ref 214] g (zi_Q Q) := by
  refine zi_Sof jf_217 [some (.ref 214), none, none] rfl (And.intro rfl trivial) ?_
  unfold w_M_readWeather at h
  refine zi_iconst (pc' := 1) rfl rfl ?_
  refine zi_istore_n (pc' := 2) [some _, some _, none] rfl rfl rfl ?_
  refine zi_wk (s_M_readWeather_l2 hd h (fun g26 h => ?_) (fun g30 h => ?_) (fun g31 h => ?_) (fun k32 g33 h => ?_)) (And.intro rfl (And.intro rfl trivial))
  · refine zi_aload_n (pc' := 18) rfl rfl rfl ?_
    refine zi_iconst (pc' := 19) rfl rfl ?_
    refine zi_callV (d' := 1) (as := [_]) (pc' := 22) rfl rfl rfl rfl (Nat.lt_of_lt_of_le (by decide) hd) (s_M_errs (Nat.le_refl _) h) (zi_ki (fun v27 g28 h => ?_))
    exact zi_iret rfl rfl h
  · refine zi_iconst (pc' := 57) rfl rfl ?_
    exact zi_iret rfl rfl h
  · refine zi_iconst (pc' := 98) rfl rfl ?_
    exact zi_iret rfl rfl h
  · refine zi_aload_n (pc' := 107) rfl rfl rfl ?_
    refine zi_geti (pc' := 110) 16 rfl rfl rfl rfl rfl rfl ?_
    obtain ⟨o34, h⟩ := h
    refine zi_if_ne (x := 117) (pc' := 113) rfl rfl o34  (fun c38 => ?_) (fun c38 => ?_)
    · replace h := h.1 c38
      refine zi_aload_n (pc' := 118) rfl rfl rfl ?_
      refine zi_iconst (pc' := 119) rfl rfl ?_
      refine zi_callV (d' := 1) (as := [_]) (pc' := 122) rfl rfl rfl rfl (Nat.lt_of_lt_of_le (by decide) hd) (s_M_errs (Nat.le_refl _) h) (zi_ki (fun v35 g36 h => ?_))
      exact zi_iret rfl rfl h
    · replace h := h.2 c38
      refine zi_iload_n (pc' := 114) rfl rfl rfl ?_
      refine zi_goto (x := 122) rfl ?_
      exact zi_iret rfl rfl h
