-- by program (wip/gen/mkz.py)
-- SpoutNews.keeps(I)I
noncomputable def w_S_keeps (l1 : Int) (g : zi_M) (Q : Int → zi_M → Prop) : Prop := (zi_r l1 ∧ ((l1 < (-1) → Q (-1) g) ∧ ((-1) ≤ l1 → ((l1 < 4 → w_Thought_makeOffers g (fun _ g3 => ((¬ l1 = (-1) → ((0 ≤ l1 ∧ l1 < 4) ∧ Q (g3 186 l1) g3)) ∧ (l1 = (-1) → Q (g3 180 11) g3)))) ∧ (4 ≤ l1 → Q (-1) g)))))
set_option maxRecDepth 100000 in
theorem s_S_keeps {E : sx_E} {d : Nat} (hd : 4 ≤ d) {l1 : Int} {g : zi_M} {Q : Int → zi_M → Prop} (h : w_S_keeps l1 g Q) : zi_S E d 155 [.ref 0, zi_i l1] g (zi_Q Q) := by
  refine zi_Sof jf_155 [some (.ref 0), some (zi_i l1)] rfl (And.intro rfl (And.intro rfl trivial)) ?_
  unfold w_S_keeps at h
  refine zi_iload_n (pc' := 1) rfl rfl rfl ?_
  refine zi_iconst (pc' := 2) rfl rfl ?_
  obtain ⟨o1, h⟩ := h
  refine zi_icmp_lt (x := 10) (pc' := 5) rfl rfl o1 (by decide) (fun c8 => ?_) (fun c8 => ?_)
  · replace h := h.1 c8
    refine zi_iconst (pc' := 11) rfl rfl ?_
    exact zi_iret rfl rfl h
  · replace h := h.2 c8
    refine zi_iload_n (pc' := 6) rfl rfl rfl ?_
    refine zi_iconst (pc' := 7) rfl rfl ?_
    refine zi_icmp_lt (x := 12) (pc' := 10) rfl rfl o1 (by decide) (fun c7 => ?_) (fun c7 => ?_)
    · replace h := h.1 c7
      refine zi_aload_n (pc' := 13) rfl rfl rfl ?_
      refine zi_getr (pc' := 16) rfl rfl rfl rfl rfl ?_
      refine zi_aload_n (pc' := 17) rfl rfl rfl ?_
      refine zi_getr (pc' := 20) rfl rfl rfl rfl rfl ?_
      refine zi_getr (pc' := 23) rfl rfl rfl rfl rfl ?_
      refine zi_callV (d' := 3) (as := [_]) (pc' := 26) rfl rfl rfl rfl (Nat.lt_of_lt_of_le (by decide) hd) (s_Thought_makeOffers (Nat.le_refl _) h) (zi_kv (fun g3 h => ?_))
      refine zi_iload_n (pc' := 27) rfl rfl rfl ?_
      refine zi_iconst (pc' := 28) rfl rfl ?_
      refine zi_icmp_ne (x := 41) (pc' := 31) rfl rfl o1 (by decide) (fun c6 => ?_) (fun c6 => ?_)
      · replace h := h.1 c6
        refine zi_aload_n (pc' := 42) rfl rfl rfl ?_
        refine zi_getr (pc' := 45) rfl rfl rfl rfl rfl ?_
        refine zi_getr (pc' := 48) rfl rfl rfl rfl rfl ?_
        refine zi_iload_n (pc' := 49) rfl rfl rfl ?_
        obtain ⟨o5, h⟩ := h
        refine zi_iald (pc' := 50) rfl rfl rfl o5 ?_
        exact zi_iret rfl rfl h
      · replace h := h.2 c6
        refine zi_aload_n (pc' := 32) rfl rfl rfl ?_
        refine zi_getr (pc' := 35) rfl rfl rfl rfl rfl ?_
        refine zi_geti (pc' := 38) 11 rfl rfl rfl rfl rfl rfl ?_
        refine zi_goto (x := 50) rfl ?_
        exact zi_iret rfl rfl h
    · replace h := h.2 c7
      refine zi_iconst (pc' := 11) rfl rfl ?_
      exact zi_iret rfl rfl h
-- SpoutNewsModel.freeMason()I
noncomputable def w_M_freeMason_l11 (l1 : Int) (K36 : Int → zi_M → Prop) (Q : Int → zi_M → Prop) : Nat → Int → Int → zi_M → Prop
  | 0, _, _, _ => False
  | f + 1, l2, l3, g => (zi_r l3 ∧ ((4 ≤ l3 → K36 l2 g) ∧ (l3 < 4 → ((0 ≤ l3 ∧ l3 < 4) ∧ (zi_r (g 245 l3) ∧ zi_r (l1 + 1) ∧ ((¬ (g 245 l3) = (l1 + 1) → w_M_freeMason_l11 l1 K36 Q f l2 (l3 + 1) g) ∧ ((g 245 l3) = (l1 + 1) → w_M_freeMason_l11 l1 K36 Q f 1 (l3 + 1) g)))))))
noncomputable def w_M_freeMason_l2 (K40 : Int → zi_M → Prop) (K48 : zi_M → Prop) (Q : Int → zi_M → Prop) : Nat → Int → zi_M → Prop
  | 0, _, _ => False
  | f + 1, l1, g => (zi_r l1 ∧ ((4 ≤ l1 → K48 g) ∧ (l1 < 4 → (∃ f12, w_M_freeMason_l11 l1 (fun k8 g9 => (zi_r k8 ∧ ((¬ k8 = 0 → w_M_freeMason_l2 K40 K48 Q f (l1 + 1) g9) ∧ (k8 = 0 → K40 l1 g9)))) Q f12 0 0 g))))
noncomputable def w_M_freeMason (g : zi_M) (Q : Int → zi_M → Prop) : Prop := (∃ f17, w_M_freeMason_l2 (fun k14 g15 => Q k14 g15) (fun g16 => Q (-1) g16) Q f17 0 g)
set_option maxRecDepth 100000 in
theorem s_M_freeMason_l11_r {E : sx_E} {d : Nat} (hd : 1 ≤ d) {l1 : Int} {K36 : Int → zi_M → Prop} {Q : Int → zi_M → Prop} (hK36 : ∀ (k2 : Int) (g : zi_M), K36 k2 g → zi_W E d 305 36 [some (.ref 214), some (zi_i l1), some (zi_i k2), none] [] g (zi_Q Q)) : ∀ (f : Nat) {l2 : Int} {l3 : Int} {g : zi_M}, w_M_freeMason_l11 l1 K36 Q f l2 l3 g → zi_W E d 305 11 [some (.ref 214), some (zi_i l1), some (zi_i l2), some (zi_i l3)] [] g (zi_Q Q)
  | 0, _, _, _, h => False.elim h
  | f + 1, l2, l3, g, h => by
    refine zi_iload_n (pc' := 12) rfl rfl rfl ?_
    refine zi_iconst (pc' := 13) rfl rfl ?_
    obtain ⟨o2, h⟩ := h
    refine zi_icmp_ge (x := 36) (pc' := 16) rfl rfl o2 (by decide) (fun c7 => ?_) (fun c7 => ?_)
    · replace h := h.1 c7
      exact zi_wk (hK36 _ _ h) (And.intro rfl (And.intro rfl (And.intro rfl trivial)))
    · replace h := h.2 c7
      refine zi_aload_n (pc' := 17) rfl rfl rfl ?_
      refine zi_getr (pc' := 20) rfl rfl rfl rfl rfl ?_
      refine zi_iload_n (pc' := 21) rfl rfl rfl ?_
      obtain ⟨o3, h⟩ := h
      refine zi_iald (pc' := 22) rfl rfl rfl o3 ?_
      refine zi_iload_n (pc' := 23) rfl rfl rfl ?_
      refine zi_iconst (pc' := 24) rfl rfl ?_
      refine zi_iadd (pc' := 25) rfl rfl ?_
      obtain ⟨o4, o5, h⟩ := h
      refine zi_icmp_ne (x := 30) (pc' := 28) rfl rfl o4 o5 (fun c6 => ?_) (fun c6 => ?_)
      · replace h := h.1 c6
        refine zi_iinc (pc' := 33) [some _, some _, some _, some _] rfl rfl rfl rfl ?_
        refine zi_goto (x := 11) rfl ?_
        exact zi_wk (s_M_freeMason_l11_r hd hK36 f h) (And.intro rfl (And.intro rfl (And.intro rfl (And.intro rfl trivial))))
      · replace h := h.2 c6
        refine zi_iconst (pc' := 29) rfl rfl ?_
        refine zi_istore_n (pc' := 30) [some _, some _, some _, some _] rfl rfl rfl ?_
        refine zi_iinc (pc' := 33) [some _, some _, some _, some _] rfl rfl rfl rfl ?_
        refine zi_goto (x := 11) rfl ?_
        exact zi_wk (s_M_freeMason_l11_r hd hK36 f h) (And.intro rfl (And.intro rfl (And.intro rfl (And.intro rfl trivial))))
set_option maxRecDepth 100000 in
theorem s_M_freeMason_l11 {E : sx_E} {d : Nat} (hd : 1 ≤ d) {l1 : Int} {K36 : Int → zi_M → Prop} {Q : Int → zi_M → Prop} {l2 : Int} {l3 : Int} {g : zi_M} (h : ∃ f, w_M_freeMason_l11 l1 K36 Q f l2 l3 g) (hK36 : ∀ (k2 : Int) (g : zi_M), K36 k2 g → zi_W E d 305 36 [some (.ref 214), some (zi_i l1), some (zi_i k2), none] [] g (zi_Q Q)) : zi_W E d 305 11 [some (.ref 214), some (zi_i l1), some (zi_i l2), some (zi_i l3)] [] g (zi_Q Q) := by
  obtain ⟨f, h⟩ := h
  exact s_M_freeMason_l11_r hd hK36 f h
set_option maxRecDepth 100000 in
theorem s_M_freeMason_l2_r {E : sx_E} {d : Nat} (hd : 1 ≤ d) {K40 : Int → zi_M → Prop} {K48 : zi_M → Prop} {Q : Int → zi_M → Prop} (hK40 : ∀ (k1 : Int) (g : zi_M), K40 k1 g → zi_W E d 305 40 [some (.ref 214), some (zi_i k1), none, none] [] g (zi_Q Q)) (hK48 : ∀ (g : zi_M), K48 g → zi_W E d 305 48 [some (.ref 214), none, none, none] [] g (zi_Q Q)) : ∀ (f : Nat) {l1 : Int} {g : zi_M}, w_M_freeMason_l2 K40 K48 Q f l1 g → zi_W E d 305 2 [some (.ref 214), some (zi_i l1), none, none] [] g (zi_Q Q)
  | 0, _, _, h => False.elim h
  | f + 1, l1, g, h => by
    refine zi_iload_n (pc' := 3) rfl rfl rfl ?_
    refine zi_iconst (pc' := 4) rfl rfl ?_
    obtain ⟨o1, h⟩ := h
    refine zi_icmp_ge (x := 48) (pc' := 7) rfl rfl o1 (by decide) (fun c13 => ?_) (fun c13 => ?_)
    · replace h := h.1 c13
      exact zi_wk (hK48 _ h) (And.intro rfl trivial)
    · replace h := h.2 c13
      refine zi_iconst (pc' := 8) rfl rfl ?_
      refine zi_istore_n (pc' := 9) [some _, some _, some _, none] rfl rfl rfl ?_
      refine zi_iconst (pc' := 10) rfl rfl ?_
      refine zi_istore_n (pc' := 11) [some _, some _, some _, some _] rfl rfl rfl ?_
      refine zi_wk (s_M_freeMason_l11 hd h (fun k8 g9 h => ?_)) (And.intro rfl (And.intro rfl (And.intro rfl (And.intro rfl trivial))))
      refine zi_iload_n (pc' := 37) rfl rfl rfl ?_
      obtain ⟨o10, h⟩ := h
      refine zi_if_ne (x := 42) (pc' := 40) rfl rfl o10  (fun c11 => ?_) (fun c11 => ?_)
      · replace h := h.1 c11
        refine zi_iinc (pc' := 45) [some _, some _, some _, none] rfl rfl rfl rfl ?_
        refine zi_goto (x := 2) rfl ?_
        exact zi_wk (s_M_freeMason_l2_r hd hK40 hK48 f h) (And.intro rfl (And.intro rfl trivial))
      · replace h := h.2 c11
        exact zi_wk (hK40 _ _ h) (And.intro rfl (And.intro rfl trivial))
set_option maxRecDepth 100000 in
theorem s_M_freeMason_l2 {E : sx_E} {d : Nat} (hd : 1 ≤ d) {K40 : Int → zi_M → Prop} {K48 : zi_M → Prop} {Q : Int → zi_M → Prop} {l1 : Int} {g : zi_M} (h : ∃ f, w_M_freeMason_l2 K40 K48 Q f l1 g) (hK40 : ∀ (k1 : Int) (g : zi_M), K40 k1 g → zi_W E d 305 40 [some (.ref 214), some (zi_i k1), none, none] [] g (zi_Q Q)) (hK48 : ∀ (g : zi_M), K48 g → zi_W E d 305 48 [some (.ref 214), none, none, none] [] g (zi_Q Q)) : zi_W E d 305 2 [some (.ref 214), some (zi_i l1), none, none] [] g (zi_Q Q) := by
  obtain ⟨f, h⟩ := h
  exact s_M_freeMason_l2_r hd hK40 hK48 f h
set_option maxRecDepth 100000 in
theorem s_M_freeMason {E : sx_E} {d : Nat} (hd : 1 ≤ d) {g : zi_M} {Q : Int → zi_M → Prop} (h : w_M_freeMason g Q) : zi_S E d 305 [.ref 214] g (zi_Q Q) := by
  refine zi_Sof jf_305 [some (.ref 214), none, none, none] rfl (And.intro rfl trivial) ?_
  unfold w_M_freeMason at h
  refine zi_iconst (pc' := 1) rfl rfl ?_
  refine zi_istore_n (pc' := 2) [some _, some _, none, none] rfl rfl rfl ?_
  refine zi_wk (s_M_freeMason_l2 hd h (fun k14 g15 h => ?_) (fun g16 h => ?_)) (And.intro rfl (And.intro rfl trivial))
  · refine zi_iload_n (pc' := 41) rfl rfl rfl ?_
    exact zi_iret rfl rfl h
  · refine zi_iconst (pc' := 49) rfl rfl ?_
    exact zi_iret rfl rfl h
-- SpoutNewsModel.dearOf(II)I
noncomputable def w_M_dearOf (l1 : Int) (l2 : Int) (g : zi_M) (Q : Int → zi_M → Prop) : Prop := ((0 ≤ ((4 * l1) + l2) ∧ ((4 * l1) + l2) < 32) ∧ Q ((g 244 ((4 * l1) + l2)) + l2) g)
set_option maxRecDepth 100000 in
theorem s_M_dearOf {E : sx_E} {d : Nat} (hd : 1 ≤ d) {l1 : Int} {l2 : Int} {g : zi_M} {Q : Int → zi_M → Prop} (h : w_M_dearOf l1 l2 g Q) : zi_S E d 306 [.ref 214, zi_i l1, zi_i l2] g (zi_Q Q) := by
  refine zi_Sof jf_306 [some (.ref 214), some (zi_i l1), some (zi_i l2)] rfl (And.intro rfl (And.intro rfl (And.intro rfl trivial))) ?_
  unfold w_M_dearOf at h
  refine zi_aload_n (pc' := 1) rfl rfl rfl ?_
  refine zi_getr (pc' := 4) rfl rfl rfl rfl rfl ?_
  refine zi_iconst (pc' := 5) rfl rfl ?_
  refine zi_iload_n (pc' := 6) rfl rfl rfl ?_
  refine zi_imul (pc' := 7) rfl rfl ?_
  refine zi_iload_n (pc' := 8) rfl rfl rfl ?_
  refine zi_iadd (pc' := 9) rfl rfl ?_
  obtain ⟨o1, h⟩ := h
  refine zi_iald (pc' := 10) rfl rfl rfl o1 ?_
  refine zi_iload_n (pc' := 11) rfl rfl rfl ?_
  refine zi_iadd (pc' := 12) rfl rfl ?_
  exact zi_iret rfl rfl h
-- SpoutNewsModel.placeIn(II)I
noncomputable def w_M_placeIn_l2 (l1 : Int) (l2 : Int) (K19 : Int → zi_M → Prop) (Q : Int → zi_M → Prop) : Nat → Int → zi_M → Prop
  | 0, _, _ => False
  | f + 1, l3, g => w_M_dearOf l1 l3 g (fun v1 g2 => (zi_r v1 ∧ zi_r l2 ∧ ((v1 = l2 → K19 l3 g2) ∧ (¬ v1 = l2 → w_M_placeIn_l2 l1 l2 K19 Q f (l3 + 1) g2))))
noncomputable def w_M_placeIn (l1 : Int) (l2 : Int) (g : zi_M) (Q : Int → zi_M → Prop) : Prop := (∃ f9, w_M_placeIn_l2 l1 l2 (fun k7 g8 => Q k7 g8) Q f9 0 g)
set_option maxRecDepth 100000 in
theorem s_M_placeIn_l2_r {E : sx_E} {d : Nat} (hd : 2 ≤ d) {l1 : Int} {l2 : Int} {K19 : Int → zi_M → Prop} {Q : Int → zi_M → Prop} (hK19 : ∀ (k3 : Int) (g : zi_M), K19 k3 g → zi_W E d 307 19 [some (.ref 214), some (zi_i l1), some (zi_i l2), some (zi_i k3)] [] g (zi_Q Q)) : ∀ (f : Nat) {l3 : Int} {g : zi_M}, w_M_placeIn_l2 l1 l2 K19 Q f l3 g → zi_W E d 307 2 [some (.ref 214), some (zi_i l1), some (zi_i l2), some (zi_i l3)] [] g (zi_Q Q)
  | 0, _, _, h => False.elim h
  | f + 1, l3, g, h => by
    refine zi_aload_n (pc' := 3) rfl rfl rfl ?_
    refine zi_iload_n (pc' := 4) rfl rfl rfl ?_
    refine zi_iload_n (pc' := 5) rfl rfl rfl ?_
    refine zi_callV (d' := 1) (as := [_, _]) (pc' := 8) rfl rfl rfl rfl (Nat.lt_of_lt_of_le (by decide) hd) (s_M_dearOf (Nat.le_refl _) h) (zi_ki (fun v1 g2 h => ?_))
    refine zi_iload_n (pc' := 9) rfl rfl rfl ?_
    obtain ⟨o4, o5, h⟩ := h
    refine zi_icmp_eq (x := 19) (pc' := 12) rfl rfl o4 o5 (fun c6 => ?_) (fun c6 => ?_)
    · replace h := h.1 c6
      exact zi_wk (hK19 _ _ h) (And.intro rfl (And.intro rfl (And.intro rfl (And.intro rfl trivial))))
    · replace h := h.2 c6
      refine zi_iload_n (pc' := 13) rfl rfl rfl ?_
      refine zi_iconst (pc' := 14) rfl rfl ?_
      refine zi_iadd (pc' := 15) rfl rfl ?_
      refine zi_istore_n (pc' := 16) [some _, some _, some _, some _] rfl rfl rfl ?_
      refine zi_goto (x := 2) rfl ?_
      exact zi_wk (s_M_placeIn_l2_r hd hK19 f h) (And.intro rfl (And.intro rfl (And.intro rfl (And.intro rfl trivial))))
set_option maxRecDepth 100000 in
theorem s_M_placeIn_l2 {E : sx_E} {d : Nat} (hd : 2 ≤ d) {l1 : Int} {l2 : Int} {K19 : Int → zi_M → Prop} {Q : Int → zi_M → Prop} {l3 : Int} {g : zi_M} (h : ∃ f, w_M_placeIn_l2 l1 l2 K19 Q f l3 g) (hK19 : ∀ (k3 : Int) (g : zi_M), K19 k3 g → zi_W E d 307 19 [some (.ref 214), some (zi_i l1), some (zi_i l2), some (zi_i k3)] [] g (zi_Q Q)) : zi_W E d 307 2 [some (.ref 214), some (zi_i l1), some (zi_i l2), some (zi_i l3)] [] g (zi_Q Q) := by
  obtain ⟨f, h⟩ := h
  exact s_M_placeIn_l2_r hd hK19 f h
set_option maxRecDepth 100000 in
theorem s_M_placeIn {E : sx_E} {d : Nat} (hd : 2 ≤ d) {l1 : Int} {l2 : Int} {g : zi_M} {Q : Int → zi_M → Prop} (h : w_M_placeIn l1 l2 g Q) : zi_S E d 307 [.ref 214, zi_i l1, zi_i l2] g (zi_Q Q) := by
  refine zi_Sof jf_307 [some (.ref 214), some (zi_i l1), some (zi_i l2), none] rfl (And.intro rfl (And.intro rfl (And.intro rfl trivial))) ?_
  unfold w_M_placeIn at h
  refine zi_iconst (pc' := 1) rfl rfl ?_
  refine zi_istore_n (pc' := 2) [some _, some _, some _, some _] rfl rfl rfl ?_
  refine zi_wk (s_M_placeIn_l2 hd h (fun k7 g8 h => ?_)) (And.intro rfl (And.intro rfl (And.intro rfl (And.intro rfl trivial))))
  refine zi_iload_n (pc' := 20) rfl rfl rfl ?_
  exact zi_iret rfl rfl h
-- SpoutNewsModel.offers()I
noncomputable def w_M_offers_l2 (K27 : zi_M → Prop) (Q : Int → zi_M → Prop) : Nat → Int → zi_M → Prop
  | 0, _, _ => False
  | f + 1, l1, g => (zi_r l1 ∧ ((4 ≤ l1 → K27 g) ∧ (l1 < 4 → ((0 ≤ l1 ∧ l1 < 4) ∧ (∀ g3, g3 = zi_u g 245 l1 0 → (∀ g4, g4 = zi_u g3 246 l1 0 → w_M_offers_l2 K27 Q f (l1 + 1) g4))))))
noncomputable def w_M_offers_l29 (K119 : Int → zi_M → Prop) (Q : Int → zi_M → Prop) : Nat → Int → zi_M → Prop
  | 0, _, _ => False
  | f + 1, l1, g => w_M_freeMason g (fun v7 g8 => (zi_r v7 ∧ ((v7 = (-1) → K119 l1 g8) ∧ (¬ v7 = (-1) → w_M_freeMason g8 (fun v11 g12 => ((0 ≤ v11 ∧ v11 < 4) ∧ w_M_dearOf v11 (g12 246 v11) g12 (fun v15 g16 => (∀ g18, g18 = zi_u g16 246 v11 ((g16 246 v11) + 1) → ((0 ≤ v15 ∧ v15 < 4) ∧ (zi_r (g18 245 v15) ∧ (((g18 245 v15) = 0 → (∀ g21, g21 = zi_u g18 245 v15 (v11 + 1) → w_M_offers_l29 K119 Q f (l1 + 1) g21)) ∧ (¬ (g18 245 v15) = 0 → w_M_placeIn (4 + v15) v11 g18 (fun v22 g23 => w_M_placeIn (4 + v15) ((g23 245 v15) - 1) g23 (fun v25 g26 => (zi_r v22 ∧ zi_r v25 ∧ ((v25 ≤ v22 → w_M_offers_l29 K119 Q f (l1 + 1) g26) ∧ (v22 < v25 → (∀ g30, g30 = zi_u g26 245 v15 (v11 + 1) → w_M_offers_l29 K119 Q f (l1 + 1) g30))))))))))))))))))
noncomputable def w_M_offers (g : zi_M) (Q : Int → zi_M → Prop) : Prop := (∃ f37, w_M_offers_l2 (fun g6 => (∃ f36, w_M_offers_l29 (fun k34 g35 => Q k34 g35) Q f36 0 g6)) Q f37 0 g)
set_option maxRecDepth 100000 in
theorem s_M_offers_l2_r {E : sx_E} {d : Nat} (hd : 3 ≤ d) {K27 : zi_M → Prop} {Q : Int → zi_M → Prop} (hK27 : ∀ (g : zi_M), K27 g → zi_W E d 304 27 [some (.ref 214), none, none, none] [] g (zi_Q Q)) : ∀ (f : Nat) {l1 : Int} {g : zi_M}, w_M_offers_l2 K27 Q f l1 g → zi_W E d 304 2 [some (.ref 214), some (zi_i l1), none, none] [] g (zi_Q Q)
  | 0, _, _, h => False.elim h
  | f + 1, l1, g, h => by
    refine zi_iload_n (pc' := 3) rfl rfl rfl ?_
    refine zi_iconst (pc' := 4) rfl rfl ?_
    obtain ⟨o1, h⟩ := h
    refine zi_icmp_ge (x := 27) (pc' := 7) rfl rfl o1 (by decide) (fun c5 => ?_) (fun c5 => ?_)
    · replace h := h.1 c5
      exact zi_wk (hK27 _ h) (And.intro rfl trivial)
    · replace h := h.2 c5
      refine zi_aload_n (pc' := 8) rfl rfl rfl ?_
      refine zi_getr (pc' := 11) rfl rfl rfl rfl rfl ?_
      refine zi_iload_n (pc' := 12) rfl rfl rfl ?_
      refine zi_iconst (pc' := 13) rfl rfl ?_
      obtain ⟨o2, h⟩ := h
      refine zi_iast (pc' := 14) rfl rfl rfl o2 ?_
      replace h := h _ rfl
      refine zi_aload_n (pc' := 15) rfl rfl rfl ?_
      refine zi_getr (pc' := 18) rfl rfl rfl rfl rfl ?_
      refine zi_iload_n (pc' := 19) rfl rfl rfl ?_
      refine zi_iconst (pc' := 20) rfl rfl ?_
      refine zi_iast (pc' := 21) rfl rfl rfl o2 ?_
      replace h := h _ rfl
      refine zi_iinc (pc' := 24) [some _, some _, none, none] rfl rfl rfl rfl ?_
      refine zi_goto (x := 2) rfl ?_
      exact zi_wk (s_M_offers_l2_r hd hK27 f h) (And.intro rfl (And.intro rfl trivial))
set_option maxRecDepth 100000 in
theorem s_M_offers_l2 {E : sx_E} {d : Nat} (hd : 3 ≤ d) {K27 : zi_M → Prop} {Q : Int → zi_M → Prop} {l1 : Int} {g : zi_M} (h : ∃ f, w_M_offers_l2 K27 Q f l1 g) (hK27 : ∀ (g : zi_M), K27 g → zi_W E d 304 27 [some (.ref 214), none, none, none] [] g (zi_Q Q)) : zi_W E d 304 2 [some (.ref 214), some (zi_i l1), none, none] [] g (zi_Q Q) := by
  obtain ⟨f, h⟩ := h
  exact s_M_offers_l2_r hd hK27 f h
set_option maxRecDepth 100000 in
theorem s_M_offers_l29_r {E : sx_E} {d : Nat} (hd : 3 ≤ d) {K119 : Int → zi_M → Prop} {Q : Int → zi_M → Prop} (hK119 : ∀ (k1 : Int) (g : zi_M), K119 k1 g → zi_W E d 304 119 [some (.ref 214), some (zi_i k1), none, none] [] g (zi_Q Q)) : ∀ (f : Nat) {l1 : Int} {g : zi_M}, w_M_offers_l29 K119 Q f l1 g → zi_W E d 304 29 [some (.ref 214), some (zi_i l1), none, none] [] g (zi_Q Q)
  | 0, _, _, h => False.elim h
  | f + 1, l1, g, h => by
    refine zi_aload_n (pc' := 30) rfl rfl rfl ?_
    refine zi_callV (d' := 1) (as := []) (pc' := 33) rfl rfl rfl rfl (Nat.lt_of_lt_of_le (by decide) hd) (s_M_freeMason (Nat.le_refl _) h) (zi_ki (fun v7 g8 h => ?_))
    refine zi_iconst (pc' := 34) rfl rfl ?_
    obtain ⟨o10, h⟩ := h
    refine zi_icmp_eq (x := 119) (pc' := 37) rfl rfl o10 (by decide) (fun c33 => ?_) (fun c33 => ?_)
    · replace h := h.1 c33
      exact zi_wk (hK119 _ _ h) (And.intro rfl (And.intro rfl trivial))
    · replace h := h.2 c33
      refine zi_aload_n (pc' := 38) rfl rfl rfl ?_
      refine zi_callV (d' := 1) (as := []) (pc' := 41) rfl rfl rfl rfl (Nat.lt_of_lt_of_le (by decide) hd) (s_M_freeMason (Nat.le_refl _) h) (zi_ki (fun v11 g12 h => ?_))
      refine zi_istore_n (pc' := 42) [some _, some _, some _, none] rfl rfl rfl ?_
      refine zi_aload_n (pc' := 43) rfl rfl rfl ?_
      refine zi_iload_n (pc' := 44) rfl rfl rfl ?_
      refine zi_aload_n (pc' := 45) rfl rfl rfl ?_
      refine zi_getr (pc' := 48) rfl rfl rfl rfl rfl ?_
      refine zi_iload_n (pc' := 49) rfl rfl rfl ?_
      obtain ⟨o14, h⟩ := h
      refine zi_iald (pc' := 50) rfl rfl rfl o14 ?_
      refine zi_callV (d' := 1) (as := [_, _]) (pc' := 53) rfl rfl rfl rfl (Nat.lt_of_lt_of_le (by decide) hd) (s_M_dearOf (Nat.le_refl _) h) (zi_ki (fun v15 g16 h => ?_))
      refine zi_istore_n (pc' := 54) [some _, some _, some _, some _] rfl rfl rfl ?_
      refine zi_aload_n (pc' := 55) rfl rfl rfl ?_
      refine zi_getr (pc' := 58) rfl rfl rfl rfl rfl ?_
      refine zi_iload_n (pc' := 59) rfl rfl rfl ?_
      refine zi_aload_n (pc' := 60) rfl rfl rfl ?_
      refine zi_getr (pc' := 63) rfl rfl rfl rfl rfl ?_
      refine zi_iload_n (pc' := 64) rfl rfl rfl ?_
      refine zi_iald (pc' := 65) rfl rfl rfl o14 ?_
      refine zi_iconst (pc' := 66) rfl rfl ?_
      refine zi_iadd (pc' := 67) rfl rfl ?_
      refine zi_iast (pc' := 68) rfl rfl rfl o14 ?_
      replace h := h _ rfl
      refine zi_iload_n (pc' := 69) rfl rfl rfl ?_
      refine zi_iconst (pc' := 70) rfl rfl ?_
      refine zi_iadd (pc' := 71) rfl rfl ?_
      refine zi_istore_n (pc' := 72) [some _, some _, some _, some _] rfl rfl rfl ?_
      refine zi_aload_n (pc' := 73) rfl rfl rfl ?_
      refine zi_getr (pc' := 76) rfl rfl rfl rfl rfl ?_
      refine zi_iload_n (pc' := 77) rfl rfl rfl ?_
      obtain ⟨o19, h⟩ := h
      refine zi_iald (pc' := 78) rfl rfl rfl o19 ?_
      obtain ⟨o20, h⟩ := h
      refine zi_if_eq (x := 107) (pc' := 81) rfl rfl o20  (fun c32 => ?_) (fun c32 => ?_)
      · replace h := h.1 c32
        refine zi_aload_n (pc' := 108) rfl rfl rfl ?_
        refine zi_getr (pc' := 111) rfl rfl rfl rfl rfl ?_
        refine zi_iload_n (pc' := 112) rfl rfl rfl ?_
        refine zi_iload_n (pc' := 113) rfl rfl rfl ?_
        refine zi_iconst (pc' := 114) rfl rfl ?_
        refine zi_iadd (pc' := 115) rfl rfl ?_
        refine zi_iast (pc' := 116) rfl rfl rfl o19 ?_
        replace h := h _ rfl
        refine zi_goto (x := 29) rfl ?_
        exact zi_wk (s_M_offers_l29_r hd hK119 f h) (And.intro rfl (And.intro rfl trivial))
      · replace h := h.2 c32
        refine zi_aload_n (pc' := 82) rfl rfl rfl ?_
        refine zi_iconst (pc' := 83) rfl rfl ?_
        refine zi_iload_n (pc' := 84) rfl rfl rfl ?_
        refine zi_iadd (pc' := 85) rfl rfl ?_
        refine zi_iload_n (pc' := 86) rfl rfl rfl ?_
        refine zi_callV (d' := 2) (as := [_, _]) (pc' := 89) rfl rfl rfl rfl (Nat.lt_of_lt_of_le (by decide) hd) (s_M_placeIn (Nat.le_refl _) h) (zi_ki (fun v22 g23 h => ?_))
        refine zi_aload_n (pc' := 90) rfl rfl rfl ?_
        refine zi_iconst (pc' := 91) rfl rfl ?_
        refine zi_iload_n (pc' := 92) rfl rfl rfl ?_
        refine zi_iadd (pc' := 93) rfl rfl ?_
        refine zi_aload_n (pc' := 94) rfl rfl rfl ?_
        refine zi_getr (pc' := 97) rfl rfl rfl rfl rfl ?_
        refine zi_iload_n (pc' := 98) rfl rfl rfl ?_
        refine zi_iald (pc' := 99) rfl rfl rfl o19 ?_
        refine zi_iconst (pc' := 100) rfl rfl ?_
        refine zi_isub (pc' := 101) rfl rfl ?_
        refine zi_callV (d' := 2) (as := [_, _]) (pc' := 104) rfl rfl rfl rfl (Nat.lt_of_lt_of_le (by decide) hd) (s_M_placeIn (Nat.le_refl _) h) (zi_ki (fun v25 g26 h => ?_))
        obtain ⟨o28, o29, h⟩ := h
        refine zi_icmp_ge (x := 116) (pc' := 107) rfl rfl o28 o29 (fun c31 => ?_) (fun c31 => ?_)
        · replace h := h.1 c31
          refine zi_goto (x := 29) rfl ?_
          exact zi_wk (s_M_offers_l29_r hd hK119 f h) (And.intro rfl (And.intro rfl trivial))
        · replace h := h.2 c31
          refine zi_aload_n (pc' := 108) rfl rfl rfl ?_
          refine zi_getr (pc' := 111) rfl rfl rfl rfl rfl ?_
          refine zi_iload_n (pc' := 112) rfl rfl rfl ?_
          refine zi_iload_n (pc' := 113) rfl rfl rfl ?_
          refine zi_iconst (pc' := 114) rfl rfl ?_
          refine zi_iadd (pc' := 115) rfl rfl ?_
          refine zi_iast (pc' := 116) rfl rfl rfl o19 ?_
          replace h := h _ rfl
          refine zi_goto (x := 29) rfl ?_
          exact zi_wk (s_M_offers_l29_r hd hK119 f h) (And.intro rfl (And.intro rfl trivial))
set_option maxRecDepth 100000 in
theorem s_M_offers_l29 {E : sx_E} {d : Nat} (hd : 3 ≤ d) {K119 : Int → zi_M → Prop} {Q : Int → zi_M → Prop} {l1 : Int} {g : zi_M} (h : ∃ f, w_M_offers_l29 K119 Q f l1 g) (hK119 : ∀ (k1 : Int) (g : zi_M), K119 k1 g → zi_W E d 304 119 [some (.ref 214), some (zi_i k1), none, none] [] g (zi_Q Q)) : zi_W E d 304 29 [some (.ref 214), some (zi_i l1), none, none] [] g (zi_Q Q) := by
  obtain ⟨f, h⟩ := h
  exact s_M_offers_l29_r hd hK119 f h
set_option maxRecDepth 100000 in
theorem s_M_offers {E : sx_E} {d : Nat} (hd : 3 ≤ d) {g : zi_M} {Q : Int → zi_M → Prop} (h : w_M_offers g Q) : zi_S E d 304 [.ref 214] g (zi_Q Q) := by
  refine zi_Sof jf_304 [some (.ref 214), none, none, none] rfl (And.intro rfl trivial) ?_
  unfold w_M_offers at h
  refine zi_iconst (pc' := 1) rfl rfl ?_
  refine zi_istore_n (pc' := 2) [some _, some _, none, none] rfl rfl rfl ?_
  refine zi_wk (s_M_offers_l2 hd h (fun g6 h => ?_)) (And.intro rfl (And.intro rfl trivial))
  refine zi_iconst (pc' := 28) rfl rfl ?_
  refine zi_istore_n (pc' := 29) [some _, some _, none, none] rfl rfl rfl ?_
  refine zi_wk (s_M_offers_l29 hd h (fun k34 g35 h => ?_)) (And.intro rfl (And.intro rfl trivial))
  refine zi_iload_n (pc' := 120) rfl rfl rfl ?_
  exact zi_iret rfl rfl h
-- SpoutNewsModel.keeps(I)I
noncomputable def w_M_keeps_l31 (l1 : Int) (K50 : Int → zi_M → Prop) (Q : Int → zi_M → Prop) : Nat → Int → zi_M → Prop
  | 0, _, _ => False
  | f + 1, l3, g => ((0 ≤ l3 ∧ l3 < 4) ∧ (zi_r (g 245 l3) ∧ zi_r (l1 + 1) ∧ (((g 245 l3) = (l1 + 1) → K50 l3 g) ∧ (¬ (g 245 l3) = (l1 + 1) → w_M_keeps_l31 l1 K50 Q f (l3 + 1) g))))
noncomputable def w_M_keeps (l1 : Int) (g : zi_M) (Q : Int → zi_M → Prop) : Prop := (∀ g1, g1 = zi_u g 214 0 0 → w_M_isIn l1 (-1) 3 g1 (fun v2 g3 => ((¬ v2 = 0 → w_M_offers g3 (fun v5 g6 => (zi_r l1 ∧ ((¬ l1 = (-1) → (∃ f15, w_M_keeps_l31 l1 (fun k13 g14 => Q k13 g14) Q f15 0 g6)) ∧ (l1 = (-1) → Q v5 g6))))) ∧ (v2 = 0 → Q (-1) g3))))
set_option maxRecDepth 100000 in
theorem s_M_keeps_l31_r {E : sx_E} {d : Nat} (hd : 4 ≤ d) {l1 : Int} {K50 : Int → zi_M → Prop} {Q : Int → zi_M → Prop} (hK50 : ∀ (k3 : Int) (g : zi_M), K50 k3 g → zi_W E d 303 50 [some (.ref 214), some (zi_i l1), none, some (zi_i k3)] [] g (zi_Q Q)) : ∀ (f : Nat) {l3 : Int} {g : zi_M}, w_M_keeps_l31 l1 K50 Q f l3 g → zi_W E d 303 31 [some (.ref 214), some (zi_i l1), none, some (zi_i l3)] [] g (zi_Q Q)
  | 0, _, _, h => False.elim h
  | f + 1, l3, g, h => by
    refine zi_aload_n (pc' := 32) rfl rfl rfl ?_
    refine zi_getr (pc' := 35) rfl rfl rfl rfl rfl ?_
    refine zi_iload_n (pc' := 36) rfl rfl rfl ?_
    obtain ⟨o9, h⟩ := h
    refine zi_iald (pc' := 37) rfl rfl rfl o9 ?_
    refine zi_iload_n (pc' := 38) rfl rfl rfl ?_
    refine zi_iconst (pc' := 39) rfl rfl ?_
    refine zi_iadd (pc' := 40) rfl rfl ?_
    obtain ⟨o10, o11, h⟩ := h
    refine zi_icmp_eq (x := 50) (pc' := 43) rfl rfl o10 o11 (fun c12 => ?_) (fun c12 => ?_)
    · replace h := h.1 c12
      exact zi_wk (hK50 _ _ h) (And.intro rfl (And.intro rfl (And.intro rfl trivial)))
    · replace h := h.2 c12
      refine zi_iload_n (pc' := 44) rfl rfl rfl ?_
      refine zi_iconst (pc' := 45) rfl rfl ?_
      refine zi_iadd (pc' := 46) rfl rfl ?_
      refine zi_istore_n (pc' := 47) [some _, some _, none, some _] rfl rfl rfl ?_
      refine zi_goto (x := 31) rfl ?_
      exact zi_wk (s_M_keeps_l31_r hd hK50 f h) (And.intro rfl (And.intro rfl (And.intro rfl trivial)))
set_option maxRecDepth 100000 in
theorem s_M_keeps_l31 {E : sx_E} {d : Nat} (hd : 4 ≤ d) {l1 : Int} {K50 : Int → zi_M → Prop} {Q : Int → zi_M → Prop} {l3 : Int} {g : zi_M} (h : ∃ f, w_M_keeps_l31 l1 K50 Q f l3 g) (hK50 : ∀ (k3 : Int) (g : zi_M), K50 k3 g → zi_W E d 303 50 [some (.ref 214), some (zi_i l1), none, some (zi_i k3)] [] g (zi_Q Q)) : zi_W E d 303 31 [some (.ref 214), some (zi_i l1), none, some (zi_i l3)] [] g (zi_Q Q) := by
  obtain ⟨f, h⟩ := h
  exact s_M_keeps_l31_r hd hK50 f h
set_option maxRecDepth 100000 in
theorem s_M_keeps {E : sx_E} {d : Nat} (hd : 4 ≤ d) {l1 : Int} {g : zi_M} {Q : Int → zi_M → Prop} (h : w_M_keeps l1 g Q) : zi_S E d 303 [.ref 214, zi_i l1] g (zi_Q Q) := by
  refine zi_Sof jf_303 [some (.ref 214), some (zi_i l1), none, none] rfl (And.intro rfl (And.intro rfl trivial)) ?_
  unfold w_M_keeps at h
  refine zi_aload_n (pc' := 1) rfl rfl rfl ?_
  refine zi_iconst (pc' := 2) rfl rfl ?_
  refine zi_puti (pc' := 5) 0 rfl rfl rfl rfl rfl  ?_
  replace h := h _ rfl
  refine zi_aload_n (pc' := 6) rfl rfl rfl ?_
  refine zi_iload_n (pc' := 7) rfl rfl rfl ?_
  refine zi_iconst (pc' := 8) rfl rfl ?_
  refine zi_iconst (pc' := 9) rfl rfl ?_
  refine zi_callV (d' := 1) (as := [_, _, _]) (pc' := 12) rfl rfl rfl rfl (Nat.lt_of_lt_of_le (by decide) hd) (s_M_isIn (Nat.le_refl _) h) (zi_kb (fun v2 g3 b4 h => ?_))
  refine zi_if_ne (x := 17) (pc' := 15) rfl rfl (zi_r_bit b4)  (fun c17 => ?_) (fun c17 => ?_)
  · replace h := h.1 c17
    refine zi_aload_n (pc' := 18) rfl rfl rfl ?_
    refine zi_callV (d' := 3) (as := []) (pc' := 21) rfl rfl rfl rfl (Nat.lt_of_lt_of_le (by decide) hd) (s_M_offers (Nat.le_refl _) h) (zi_ki (fun v5 g6 h => ?_))
    refine zi_istore_n (pc' := 22) [some _, some _, some _, none] rfl rfl rfl ?_
    refine zi_iload_n (pc' := 23) rfl rfl rfl ?_
    refine zi_iconst (pc' := 24) rfl rfl ?_
    obtain ⟨o8, h⟩ := h
    refine zi_icmp_ne (x := 29) (pc' := 27) rfl rfl o8 (by decide) (fun c16 => ?_) (fun c16 => ?_)
    · replace h := h.1 c16
      refine zi_iconst (pc' := 30) rfl rfl ?_
      refine zi_istore_n (pc' := 31) [some _, some _, some _, some _] rfl rfl rfl ?_
      refine zi_wk (s_M_keeps_l31 hd h (fun k13 g14 h => ?_)) (And.intro rfl (And.intro rfl (And.intro rfl trivial)))
      refine zi_iload_n (pc' := 51) rfl rfl rfl ?_
      exact zi_iret rfl rfl h
    · replace h := h.2 c16
      refine zi_iload_n (pc' := 28) rfl rfl rfl ?_
      exact zi_iret rfl rfl h
  · replace h := h.2 c17
    refine zi_iconst (pc' := 16) rfl rfl ?_
    exact zi_iret rfl rfl h
-- SpoutNewsModel.shareOf(II)I
noncomputable def w_M_shareOf_l12 (l2 : Int) (K48 : Int → zi_M → Prop) (Q : Int → zi_M → Prop) : Nat → Int → Int → Int → zi_M → Prop
  | 0, _, _, _, _ => False
  | f + 1, l3, l4, l5, g => (zi_r l5 ∧ ((6 ≤ l5 → K48 l3 g) ∧ (l5 < 6 → (zi_r (l4 * 10) ∧ zi_r l2 ∧ l2 ≠ 0 ∧ (l2 ≠ 0 ∧ w_M_shareOf_l12 l2 K48 Q f ((10 * l3) + (Int.tdiv (l4 * 10) l2)) (Int.tmod (l4 * 10) l2) (l5 + 1) g)))))
noncomputable def w_M_shareOf (l1 : Int) (l2 : Int) (g : zi_M) (Q : Int → zi_M → Prop) : Prop := (zi_r l1 ∧ zi_r l2 ∧ l2 ≠ 0 ∧ (l2 ≠ 0 ∧ (∃ f13, w_M_shareOf_l12 l2 (fun k11 g12 => Q k11 g12) Q f13 (Int.tdiv l1 l2) (Int.tmod l1 l2) 0 g)))
set_option maxRecDepth 100000 in
theorem s_M_shareOf_l12_r {E : sx_E} {d : Nat} (hd : 1 ≤ d) {l2 : Int} {K48 : Int → zi_M → Prop} {Q : Int → zi_M → Prop} (hK48 : ∀ (k3 : Int) (g : zi_M), K48 k3 g → zi_W E d 310 48 [none, none, some (zi_i l2), some (zi_i k3), none, none] [] g (zi_Q Q)) : ∀ (f : Nat) {l3 : Int} {l4 : Int} {l5 : Int} {g : zi_M}, w_M_shareOf_l12 l2 K48 Q f l3 l4 l5 g → zi_W E d 310 12 [none, none, some (zi_i l2), some (zi_i l3), some (zi_i l4), some (zi_i l5)] [] g (zi_Q Q)
  | 0, _, _, _, _, h => False.elim h
  | f + 1, l3, l4, l5, g, h => by
    refine zi_iload (pc' := 14) rfl rfl rfl ?_
    refine zi_bipush (pc' := 16) rfl rfl (by decide) ?_
    obtain ⟨o5, h⟩ := h
    refine zi_icmp_ge (x := 48) (pc' := 19) rfl rfl o5 (by decide) (fun c10 => ?_) (fun c10 => ?_)
    · replace h := h.1 c10
      exact zi_wk (hK48 _ _ h) (And.intro rfl (And.intro rfl trivial))
    · replace h := h.2 c10
      refine zi_iload (pc' := 21) rfl rfl rfl ?_
      refine zi_bipush (pc' := 23) rfl rfl (by decide) ?_
      refine zi_imul (pc' := 24) rfl rfl ?_
      refine zi_istore (pc' := 26) [none, none, some _, some _, some _, some _] rfl rfl rfl ?_
      refine zi_bipush (pc' := 28) rfl rfl (by decide) ?_
      refine zi_iload_n (pc' := 29) rfl rfl rfl ?_
      refine zi_imul (pc' := 30) rfl rfl ?_
      refine zi_iload (pc' := 32) rfl rfl rfl ?_
      refine zi_iload_n (pc' := 33) rfl rfl rfl ?_
      obtain ⟨o6, o7, o8, h⟩ := h
      refine zi_idiv (pc' := 34) rfl rfl o6 o7 o8 ?_
      refine zi_iadd (pc' := 35) rfl rfl ?_
      refine zi_istore_n (pc' := 36) [none, none, some _, some _, some _, some _] rfl rfl rfl ?_
      refine zi_iload (pc' := 38) rfl rfl rfl ?_
      refine zi_iload_n (pc' := 39) rfl rfl rfl ?_
      obtain ⟨o9, h⟩ := h
      refine zi_irem (pc' := 40) rfl rfl o6 o7 o9 ?_
      refine zi_istore (pc' := 42) [none, none, some _, some _, some _, some _] rfl rfl rfl ?_
      refine zi_iinc (pc' := 45) [none, none, some _, some _, some _, some _] rfl rfl rfl rfl ?_
      refine zi_goto (x := 12) rfl ?_
      exact zi_wk (s_M_shareOf_l12_r hd hK48 f h) (And.intro rfl (And.intro rfl (And.intro rfl (And.intro rfl trivial))))
set_option maxRecDepth 100000 in
theorem s_M_shareOf_l12 {E : sx_E} {d : Nat} (hd : 1 ≤ d) {l2 : Int} {K48 : Int → zi_M → Prop} {Q : Int → zi_M → Prop} {l3 : Int} {l4 : Int} {l5 : Int} {g : zi_M} (h : ∃ f, w_M_shareOf_l12 l2 K48 Q f l3 l4 l5 g) (hK48 : ∀ (k3 : Int) (g : zi_M), K48 k3 g → zi_W E d 310 48 [none, none, some (zi_i l2), some (zi_i k3), none, none] [] g (zi_Q Q)) : zi_W E d 310 12 [none, none, some (zi_i l2), some (zi_i l3), some (zi_i l4), some (zi_i l5)] [] g (zi_Q Q) := by
  obtain ⟨f, h⟩ := h
  exact s_M_shareOf_l12_r hd hK48 f h
set_option maxRecDepth 100000 in
theorem s_M_shareOf {E : sx_E} {d : Nat} (hd : 1 ≤ d) {l1 : Int} {l2 : Int} {g : zi_M} {Q : Int → zi_M → Prop} (h : w_M_shareOf l1 l2 g Q) : zi_S E d 310 [.ref 214, zi_i l1, zi_i l2] g (zi_Q Q) := by
  refine zi_Sof jf_310 [some (.ref 214), some (zi_i l1), some (zi_i l2), none, none, none] rfl (And.intro rfl (And.intro rfl (And.intro rfl trivial))) ?_
  unfold w_M_shareOf at h
  refine zi_iload_n (pc' := 1) rfl rfl rfl ?_
  refine zi_iload_n (pc' := 2) rfl rfl rfl ?_
  obtain ⟨o1, o2, o3, h⟩ := h
  refine zi_idiv (pc' := 3) rfl rfl o1 o2 o3 ?_
  refine zi_istore_n (pc' := 4) [some _, some _, some _, some _, none, none] rfl rfl rfl ?_
  refine zi_iload_n (pc' := 5) rfl rfl rfl ?_
  refine zi_iload_n (pc' := 6) rfl rfl rfl ?_
  obtain ⟨o4, h⟩ := h
  refine zi_irem (pc' := 7) rfl rfl o1 o2 o4 ?_
  refine zi_istore (pc' := 9) [some _, some _, some _, some _, some _, none] rfl rfl rfl ?_
  refine zi_iconst (pc' := 10) rfl rfl ?_
  refine zi_istore (pc' := 12) [some _, some _, some _, some _, some _, some _] rfl rfl rfl ?_
  refine zi_wk (s_M_shareOf_l12 hd h (fun k11 g12 h => ?_)) (And.intro rfl (And.intro rfl (And.intro rfl (And.intro rfl trivial))))
  refine zi_iload_n (pc' := 49) rfl rfl rfl ?_
  exact zi_iret rfl rfl h
-- SpoutNewsModel.surmised(III)I
noncomputable def w_M_surmised (l1 : Int) (l2 : Int) (l3 : Int) (g : zi_M) (Q : Int → zi_M → Prop) : Prop := w_M_shareOf (l1 * l2) ((l1 * l2) + ((1000000 - l1) * l3)) g (fun v1 g2 => Q v1 g2)
set_option maxRecDepth 100000 in
theorem s_M_surmised {E : sx_E} {d : Nat} (hd : 2 ≤ d) {l1 : Int} {l2 : Int} {l3 : Int} {g : zi_M} {Q : Int → zi_M → Prop} (h : w_M_surmised l1 l2 l3 g Q) : zi_S E d 309 [.ref 214, zi_i l1, zi_i l2, zi_i l3] g (zi_Q Q) := by
  refine zi_Sof jf_309 [some (.ref 214), some (zi_i l1), some (zi_i l2), some (zi_i l3)] rfl (And.intro rfl (And.intro rfl (And.intro rfl (And.intro rfl trivial)))) ?_
  unfold w_M_surmised at h
  refine zi_aload_n (pc' := 1) rfl rfl rfl ?_
  refine zi_iload_n (pc' := 2) rfl rfl rfl ?_
  refine zi_iload_n (pc' := 3) rfl rfl rfl ?_
  refine zi_imul (pc' := 4) rfl rfl ?_
  refine zi_iload_n (pc' := 5) rfl rfl rfl ?_
  refine zi_iload_n (pc' := 6) rfl rfl rfl ?_
  refine zi_imul (pc' := 7) rfl rfl ?_
  refine zi_ldcw (v := 1000000) (pc' := 10) rfl rfl (by decide +kernel) ?_
  refine zi_iload_n (pc' := 11) rfl rfl rfl ?_
  refine zi_isub (pc' := 12) rfl rfl ?_
  refine zi_iload_n (pc' := 13) rfl rfl rfl ?_
  refine zi_imul (pc' := 14) rfl rfl ?_
  refine zi_iadd (pc' := 15) rfl rfl ?_
  refine zi_callV (d' := 1) (as := [_, _]) (pc' := 18) rfl rfl rfl rfl (Nat.lt_of_lt_of_le (by decide) hd) (s_M_shareOf (Nat.le_refl _) h) (zi_ki (fun v1 g2 h => ?_))
  exact zi_iret rfl rfl h
-- SpoutNewsModel.surmise(III)I
noncomputable def w_M_surmise_l51 (l2 : Int) (K74 : Int → zi_M → Prop) (Q : Int → zi_M → Prop) : Nat → Int → Int → zi_M → Prop
  | 0, _, _, _ => False
  | f + 1, l4, l5, g => (zi_r l5 ∧ zi_r l2 ∧ ((l2 ≤ l5 → K74 l4 g) ∧ (l5 < l2 → w_M_surmised l4 6 4 g (fun v13 g14 => w_M_surmise_l51 l2 K74 Q f v13 (l5 + 1) g14))))
noncomputable def w_M_surmise_l77 (l3 : Int) (K100 : Int → zi_M → Prop) (Q : Int → zi_M → Prop) : Nat → Int → Int → zi_M → Prop
  | 0, _, _, _ => False
  | f + 1, l4, l5, g => (zi_r l5 ∧ zi_r l3 ∧ ((l3 ≤ l5 → K100 l4 g) ∧ (l5 < l3 → w_M_surmised l4 4 6 g (fun v21 g22 => w_M_surmise_l77 l3 K100 Q f v21 (l5 + 1) g22))))
noncomputable def w_M_surmise (l1 : Int) (l2 : Int) (l3 : Int) (g : zi_M) (Q : Int → zi_M → Prop) : Prop := (∀ g1, g1 = zi_u g 214 0 0 → w_M_isIn l1 0 1000 g1 (fun v2 g3 => ((v2 = 0 → Q (-1) g3) ∧ (¬ v2 = 0 → w_M_isIn l2 0 20 g3 (fun v5 g6 => ((v5 = 0 → Q (-1) g6) ∧ (¬ v5 = 0 → w_M_isIn l3 0 20 g6 (fun v8 g9 => ((¬ v8 = 0 → (∃ f28, w_M_surmise_l51 l2 (fun k17 g18 => (∃ f27, w_M_surmise_l77 l3 (fun k25 g26 => Q k25 g26) Q f27 k17 0 g18)) Q f28 (1000 * l1) 0 g9)) ∧ (v8 = 0 → Q (-1) g9))))))))))
set_option maxRecDepth 100000 in
theorem s_M_surmise_l51_r {E : sx_E} {d : Nat} (hd : 3 ≤ d) {l2 : Int} {x3 : Int} {K74 : Int → zi_M → Prop} {Q : Int → zi_M → Prop} (hK74 : ∀ (k4 : Int) (g : zi_M), K74 k4 g → zi_W E d 308 74 [some (.ref 214), none, some (zi_i l2), some (zi_i x3), some (zi_i k4), none] [] g (zi_Q Q)) : ∀ (f : Nat) {l4 : Int} {l5 : Int} {g : zi_M}, w_M_surmise_l51 l2 K74 Q f l4 l5 g → zi_W E d 308 51 [some (.ref 214), none, some (zi_i l2), some (zi_i x3), some (zi_i l4), some (zi_i l5)] [] g (zi_Q Q)
  | 0, _, _, _, h => False.elim h
  | f + 1, l4, l5, g, h => by
    refine zi_iload (pc' := 53) rfl rfl rfl ?_
    refine zi_iload_n (pc' := 54) rfl rfl rfl ?_
    obtain ⟨o11, o12, h⟩ := h
    refine zi_icmp_ge (x := 74) (pc' := 57) rfl rfl o11 o12 (fun c16 => ?_) (fun c16 => ?_)
    · replace h := h.1 c16
      exact zi_wk (hK74 _ _ h) (And.intro rfl (And.intro rfl (And.intro rfl (And.intro rfl trivial))))
    · replace h := h.2 c16
      refine zi_aload_n (pc' := 58) rfl rfl rfl ?_
      refine zi_iload (pc' := 60) rfl rfl rfl ?_
      refine zi_bipush (pc' := 62) rfl rfl (by decide) ?_
      refine zi_iconst (pc' := 63) rfl rfl ?_
      refine zi_callV (d' := 2) (as := [_, _, _]) (pc' := 66) rfl rfl rfl rfl (Nat.lt_of_lt_of_le (by decide) hd) (s_M_surmised (Nat.le_refl _) h) (zi_ki (fun v13 g14 h => ?_))
      refine zi_istore (pc' := 68) [some _, none, some _, some _, some _, some _] rfl rfl rfl ?_
      refine zi_iinc (pc' := 71) [some _, none, some _, some _, some _, some _] rfl rfl rfl rfl ?_
      refine zi_goto (x := 51) rfl ?_
      exact zi_wk (s_M_surmise_l51_r hd hK74 f h) (And.intro rfl (And.intro rfl (And.intro rfl (And.intro rfl (And.intro rfl trivial)))))
set_option maxRecDepth 100000 in
theorem s_M_surmise_l51 {E : sx_E} {d : Nat} (hd : 3 ≤ d) {l2 : Int} {x3 : Int} {K74 : Int → zi_M → Prop} {Q : Int → zi_M → Prop} {l4 : Int} {l5 : Int} {g : zi_M} (h : ∃ f, w_M_surmise_l51 l2 K74 Q f l4 l5 g) (hK74 : ∀ (k4 : Int) (g : zi_M), K74 k4 g → zi_W E d 308 74 [some (.ref 214), none, some (zi_i l2), some (zi_i x3), some (zi_i k4), none] [] g (zi_Q Q)) : zi_W E d 308 51 [some (.ref 214), none, some (zi_i l2), some (zi_i x3), some (zi_i l4), some (zi_i l5)] [] g (zi_Q Q) := by
  obtain ⟨f, h⟩ := h
  exact s_M_surmise_l51_r hd hK74 f h
set_option maxRecDepth 100000 in
theorem s_M_surmise_l77_r {E : sx_E} {d : Nat} (hd : 3 ≤ d) {l3 : Int} {K100 : Int → zi_M → Prop} {Q : Int → zi_M → Prop} (hK100 : ∀ (k4 : Int) (g : zi_M), K100 k4 g → zi_W E d 308 100 [some (.ref 214), none, none, some (zi_i l3), some (zi_i k4), none] [] g (zi_Q Q)) : ∀ (f : Nat) {l4 : Int} {l5 : Int} {g : zi_M}, w_M_surmise_l77 l3 K100 Q f l4 l5 g → zi_W E d 308 77 [some (.ref 214), none, none, some (zi_i l3), some (zi_i l4), some (zi_i l5)] [] g (zi_Q Q)
  | 0, _, _, _, h => False.elim h
  | f + 1, l4, l5, g, h => by
    refine zi_iload (pc' := 79) rfl rfl rfl ?_
    refine zi_iload_n (pc' := 80) rfl rfl rfl ?_
    obtain ⟨o19, o20, h⟩ := h
    refine zi_icmp_ge (x := 100) (pc' := 83) rfl rfl o19 o20 (fun c24 => ?_) (fun c24 => ?_)
    · replace h := h.1 c24
      exact zi_wk (hK100 _ _ h) (And.intro rfl (And.intro rfl (And.intro rfl trivial)))
    · replace h := h.2 c24
      refine zi_aload_n (pc' := 84) rfl rfl rfl ?_
      refine zi_iload (pc' := 86) rfl rfl rfl ?_
      refine zi_iconst (pc' := 87) rfl rfl ?_
      refine zi_bipush (pc' := 89) rfl rfl (by decide) ?_
      refine zi_callV (d' := 2) (as := [_, _, _]) (pc' := 92) rfl rfl rfl rfl (Nat.lt_of_lt_of_le (by decide) hd) (s_M_surmised (Nat.le_refl _) h) (zi_ki (fun v21 g22 h => ?_))
      refine zi_istore (pc' := 94) [some _, none, none, some _, some _, some _] rfl rfl rfl ?_
      refine zi_iinc (pc' := 97) [some _, none, none, some _, some _, some _] rfl rfl rfl rfl ?_
      refine zi_goto (x := 77) rfl ?_
      exact zi_wk (s_M_surmise_l77_r hd hK100 f h) (And.intro rfl (And.intro rfl (And.intro rfl (And.intro rfl trivial))))
set_option maxRecDepth 100000 in
theorem s_M_surmise_l77 {E : sx_E} {d : Nat} (hd : 3 ≤ d) {l3 : Int} {K100 : Int → zi_M → Prop} {Q : Int → zi_M → Prop} {l4 : Int} {l5 : Int} {g : zi_M} (h : ∃ f, w_M_surmise_l77 l3 K100 Q f l4 l5 g) (hK100 : ∀ (k4 : Int) (g : zi_M), K100 k4 g → zi_W E d 308 100 [some (.ref 214), none, none, some (zi_i l3), some (zi_i k4), none] [] g (zi_Q Q)) : zi_W E d 308 77 [some (.ref 214), none, none, some (zi_i l3), some (zi_i l4), some (zi_i l5)] [] g (zi_Q Q) := by
  obtain ⟨f, h⟩ := h
  exact s_M_surmise_l77_r hd hK100 f h
set_option maxRecDepth 100000 in
theorem s_M_surmise {E : sx_E} {d : Nat} (hd : 3 ≤ d) {l1 : Int} {l2 : Int} {l3 : Int} {g : zi_M} {Q : Int → zi_M → Prop} (h : w_M_surmise l1 l2 l3 g Q) : zi_S E d 308 [.ref 214, zi_i l1, zi_i l2, zi_i l3] g (zi_Q Q) := by
  refine zi_Sof jf_308 [some (.ref 214), some (zi_i l1), some (zi_i l2), some (zi_i l3), none, none] rfl (And.intro rfl (And.intro rfl (And.intro rfl (And.intro rfl trivial)))) ?_
  unfold w_M_surmise at h
  refine zi_aload_n (pc' := 1) rfl rfl rfl ?_
  refine zi_iconst (pc' := 2) rfl rfl ?_
  refine zi_puti (pc' := 5) 0 rfl rfl rfl rfl rfl  ?_
  replace h := h _ rfl
  refine zi_aload_n (pc' := 6) rfl rfl rfl ?_
  refine zi_iload_n (pc' := 7) rfl rfl rfl ?_
  refine zi_iconst (pc' := 8) rfl rfl ?_
  refine zi_sipush (pc' := 11) rfl rfl (by decide) ?_
  refine zi_callV (d' := 1) (as := [_, _, _]) (pc' := 14) rfl rfl rfl rfl (Nat.lt_of_lt_of_le (by decide) hd) (s_M_isIn (Nat.le_refl _) h) (zi_kb (fun v2 g3 b4 h => ?_))
  refine zi_if_eq (x := 39) (pc' := 17) rfl rfl (zi_r_bit b4)  (fun c31 => ?_) (fun c31 => ?_)
  · replace h := h.1 c31
    refine zi_iconst (pc' := 40) rfl rfl ?_
    exact zi_iret rfl rfl h
  · replace h := h.2 c31
    refine zi_aload_n (pc' := 18) rfl rfl rfl ?_
    refine zi_iload_n (pc' := 19) rfl rfl rfl ?_
    refine zi_iconst (pc' := 20) rfl rfl ?_
    refine zi_bipush (pc' := 22) rfl rfl (by decide) ?_
    refine zi_callV (d' := 1) (as := [_, _, _]) (pc' := 25) rfl rfl rfl rfl (Nat.lt_of_lt_of_le (by decide) hd) (s_M_isIn (Nat.le_refl _) h) (zi_kb (fun v5 g6 b7 h => ?_))
    refine zi_if_eq (x := 39) (pc' := 28) rfl rfl (zi_r_bit b7)  (fun c30 => ?_) (fun c30 => ?_)
    · replace h := h.1 c30
      refine zi_iconst (pc' := 40) rfl rfl ?_
      exact zi_iret rfl rfl h
    · replace h := h.2 c30
      refine zi_aload_n (pc' := 29) rfl rfl rfl ?_
      refine zi_iload_n (pc' := 30) rfl rfl rfl ?_
      refine zi_iconst (pc' := 31) rfl rfl ?_
      refine zi_bipush (pc' := 33) rfl rfl (by decide) ?_
      refine zi_callV (d' := 1) (as := [_, _, _]) (pc' := 36) rfl rfl rfl rfl (Nat.lt_of_lt_of_le (by decide) hd) (s_M_isIn (Nat.le_refl _) h) (zi_kb (fun v8 g9 b10 h => ?_))
      refine zi_if_ne (x := 41) (pc' := 39) rfl rfl (zi_r_bit b10)  (fun c29 => ?_) (fun c29 => ?_)
      · replace h := h.1 c29
        refine zi_sipush (pc' := 44) rfl rfl (by decide) ?_
        refine zi_iload_n (pc' := 45) rfl rfl rfl ?_
        refine zi_imul (pc' := 46) rfl rfl ?_
        refine zi_istore (pc' := 48) [some _, some _, some _, some _, some _, none] rfl rfl rfl ?_
        refine zi_iconst (pc' := 49) rfl rfl ?_
        refine zi_istore (pc' := 51) [some _, some _, some _, some _, some _, some _] rfl rfl rfl ?_
        refine zi_wk (s_M_surmise_l51 hd h (fun k17 g18 h => ?_)) (And.intro rfl (And.intro rfl (And.intro rfl (And.intro rfl (And.intro rfl trivial)))))
        refine zi_iconst (pc' := 75) rfl rfl ?_
        refine zi_istore (pc' := 77) [some _, none, some _, some _, some _, some _] rfl rfl rfl ?_
        refine zi_wk (s_M_surmise_l77 hd h (fun k25 g26 h => ?_)) (And.intro rfl (And.intro rfl (And.intro rfl (And.intro rfl trivial))))
        refine zi_iload (pc' := 102) rfl rfl rfl ?_
        exact zi_iret rfl rfl h
      · replace h := h.2 c29
        refine zi_iconst (pc' := 40) rfl rfl ?_
        exact zi_iret rfl rfl h
-- SpoutNews.drought(I)I
noncomputable def w_S_drought (l1 : Int) (g : zi_M) (Q : Int → zi_M → Prop) : Prop := (zi_r l1 ∧ ((¬ l1 = (-1) → ((l1 < 0 → Q (-1) g) ∧ (0 ≤ l1 → ((9 < l1 → Q (-1) g) ∧ (l1 ≤ 9 → (zi_r (g 36 10) ∧ (((g 36 10) < 40 → ((0 ≤ (g 36 10) ∧ (g 36 10) < 40) ∧ (∀ g4, g4 = zi_u g 44 (g 36 10) l1 → (∀ g5, g5 = zi_u g4 36 10 ((g4 36 10) + 1) → Q (g5 36 10) g5)))) ∧ (40 ≤ (g 36 10) → Q (-1) g)))))))) ∧ (l1 = (-1) → (∀ g9, g9 = zi_u g 36 10 0 → Q 0 g9))))
set_option maxRecDepth 100000 in
theorem s_S_drought {E : sx_E} {d : Nat} (hd : 1 ≤ d) {l1 : Int} {g : zi_M} {Q : Int → zi_M → Prop} (h : w_S_drought l1 g Q) : zi_S E d 163 [.ref 0, zi_i l1] g (zi_Q Q) := by
  refine zi_Sof jf_163 [some (.ref 0), some (zi_i l1), none] rfl (And.intro rfl (And.intro rfl trivial)) ?_
  unfold w_S_drought at h
  refine zi_aload_n (pc' := 1) rfl rfl rfl ?_
  refine zi_getr (pc' := 4) rfl rfl rfl rfl rfl ?_
  refine zi_getr (pc' := 7) rfl rfl rfl rfl rfl ?_
  refine zi_astore_n (pc' := 8) [some _, some _, some _] rfl rfl rfl ?_
  refine zi_iload_n (pc' := 9) rfl rfl rfl ?_
  refine zi_iconst (pc' := 10) rfl rfl ?_
  obtain ⟨o1, h⟩ := h
  refine zi_icmp_ne (x := 20) (pc' := 13) rfl rfl o1 (by decide) (fun c10 => ?_) (fun c10 => ?_)
  · replace h := h.1 c10
    refine zi_iload_n (pc' := 21) rfl rfl rfl ?_
    refine zi_if_lt (x := 39) (pc' := 24) rfl rfl o1  (fun c8 => ?_) (fun c8 => ?_)
    · replace h := h.1 c8
      refine zi_iconst (pc' := 40) rfl rfl ?_
      exact zi_iret rfl rfl h
    · replace h := h.2 c8
      refine zi_iload_n (pc' := 25) rfl rfl rfl ?_
      refine zi_bipush (pc' := 27) rfl rfl (by decide) ?_
      refine zi_icmp_gt (x := 39) (pc' := 30) rfl rfl o1 (by decide) (fun c7 => ?_) (fun c7 => ?_)
      · replace h := h.1 c7
        refine zi_iconst (pc' := 40) rfl rfl ?_
        exact zi_iret rfl rfl h
      · replace h := h.2 c7
        refine zi_aload_n (pc' := 31) rfl rfl rfl ?_
        refine zi_geti (pc' := 34) 10 rfl rfl rfl rfl rfl rfl ?_
        refine zi_bipush (pc' := 36) rfl rfl (by decide) ?_
        obtain ⟨o2, h⟩ := h
        refine zi_icmp_lt (x := 41) (pc' := 39) rfl rfl o2 (by decide) (fun c6 => ?_) (fun c6 => ?_)
        · replace h := h.1 c6
          refine zi_aload_n (pc' := 42) rfl rfl rfl ?_
          refine zi_getr (pc' := 45) rfl rfl rfl rfl rfl ?_
          refine zi_aload_n (pc' := 46) rfl rfl rfl ?_
          refine zi_geti (pc' := 49) 10 rfl rfl rfl rfl rfl rfl ?_
          refine zi_iload_n (pc' := 50) rfl rfl rfl ?_
          obtain ⟨o3, h⟩ := h
          refine zi_iast (pc' := 51) rfl rfl rfl o3 ?_
          replace h := h _ rfl
          refine zi_aload_n (pc' := 52) rfl rfl rfl ?_
          refine zi_dup (pc' := 53) rfl rfl rfl ?_
          refine zi_geti (pc' := 56) 10 rfl rfl rfl rfl rfl rfl ?_
          refine zi_iconst (pc' := 57) rfl rfl ?_
          refine zi_iadd (pc' := 58) rfl rfl ?_
          refine zi_puti (pc' := 61) 10 rfl rfl rfl rfl rfl  ?_
          replace h := h _ rfl
          refine zi_aload_n (pc' := 62) rfl rfl rfl ?_
          refine zi_geti (pc' := 65) 10 rfl rfl rfl rfl rfl rfl ?_
          exact zi_iret rfl rfl h
        · replace h := h.2 c6
          refine zi_iconst (pc' := 40) rfl rfl ?_
          exact zi_iret rfl rfl h
  · replace h := h.2 c10
    refine zi_aload_n (pc' := 14) rfl rfl rfl ?_
    refine zi_iconst (pc' := 15) rfl rfl ?_
    refine zi_puti (pc' := 18) 10 rfl rfl rfl rfl rfl  ?_
    replace h := h _ rfl
    refine zi_iconst (pc' := 19) rfl rfl ?_
    exact zi_iret rfl rfl h
-- SpoutNewsModel.drought(I)I
noncomputable def w_M_drought (l1 : Int) (g : zi_M) (Q : Int → zi_M → Prop) : Prop := (∀ g1, g1 = zi_u g 214 0 0 → (zi_r l1 ∧ ((¬ l1 = (-1) → w_M_isIn l1 0 9 g1 (fun v3 g4 => ((v3 = 0 → Q (-1) g4) ∧ (¬ v3 = 0 → (zi_r (g4 214 56) ∧ ((¬ (g4 214 56) = 40 → ((0 ≤ (g4 214 56) ∧ (g4 214 56) < 40) ∧ (∀ g8, g8 = zi_u g4 247 (g4 214 56) l1 → (∀ g9, g9 = zi_u g8 214 56 ((g8 214 56) + 1) → Q (g9 214 56) g9)))) ∧ ((g4 214 56) = 40 → Q (-1) g4))))))) ∧ (l1 = (-1) → (∀ g12, g12 = zi_u g1 214 56 0 → Q 0 g12)))))
set_option maxRecDepth 100000 in
theorem s_M_drought {E : sx_E} {d : Nat} (hd : 2 ≤ d) {l1 : Int} {g : zi_M} {Q : Int → zi_M → Prop} (h : w_M_drought l1 g Q) : zi_S E d 311 [.ref 214, zi_i l1] g (zi_Q Q) := by
  refine zi_Sof jf_311 [some (.ref 214), some (zi_i l1)] rfl (And.intro rfl (And.intro rfl trivial)) ?_
  unfold w_M_drought at h
  refine zi_aload_n (pc' := 1) rfl rfl rfl ?_
  refine zi_iconst (pc' := 2) rfl rfl ?_
  refine zi_puti (pc' := 5) 0 rfl rfl rfl rfl rfl  ?_
  replace h := h _ rfl
  refine zi_iload_n (pc' := 6) rfl rfl rfl ?_
  refine zi_iconst (pc' := 7) rfl rfl ?_
  obtain ⟨o2, h⟩ := h
  refine zi_icmp_ne (x := 17) (pc' := 10) rfl rfl o2 (by decide) (fun c13 => ?_) (fun c13 => ?_)
  · replace h := h.1 c13
    refine zi_aload_n (pc' := 18) rfl rfl rfl ?_
    refine zi_iload_n (pc' := 19) rfl rfl rfl ?_
    refine zi_iconst (pc' := 20) rfl rfl ?_
    refine zi_bipush (pc' := 22) rfl rfl (by decide) ?_
    refine zi_callV (d' := 1) (as := [_, _, _]) (pc' := 25) rfl rfl rfl rfl (Nat.lt_of_lt_of_le (by decide) hd) (s_M_isIn (Nat.le_refl _) h) (zi_kb (fun v3 g4 b5 h => ?_))
    refine zi_if_eq (x := 37) (pc' := 28) rfl rfl (zi_r_bit b5)  (fun c11 => ?_) (fun c11 => ?_)
    · replace h := h.1 c11
      refine zi_iconst (pc' := 38) rfl rfl ?_
      exact zi_iret rfl rfl h
    · replace h := h.2 c11
      refine zi_aload_n (pc' := 29) rfl rfl rfl ?_
      refine zi_geti (pc' := 32) 56 rfl rfl rfl rfl rfl rfl ?_
      refine zi_bipush (pc' := 34) rfl rfl (by decide) ?_
      obtain ⟨o6, h⟩ := h
      refine zi_icmp_ne (x := 39) (pc' := 37) rfl rfl o6 (by decide) (fun c10 => ?_) (fun c10 => ?_)
      · replace h := h.1 c10
        refine zi_aload_n (pc' := 40) rfl rfl rfl ?_
        refine zi_getr (pc' := 43) rfl rfl rfl rfl rfl ?_
        refine zi_aload_n (pc' := 44) rfl rfl rfl ?_
        refine zi_geti (pc' := 47) 56 rfl rfl rfl rfl rfl rfl ?_
        refine zi_iload_n (pc' := 48) rfl rfl rfl ?_
        obtain ⟨o7, h⟩ := h
        refine zi_iast (pc' := 49) rfl rfl rfl o7 ?_
        replace h := h _ rfl
        refine zi_aload_n (pc' := 50) rfl rfl rfl ?_
        refine zi_aload_n (pc' := 51) rfl rfl rfl ?_
        refine zi_geti (pc' := 54) 56 rfl rfl rfl rfl rfl rfl ?_
        refine zi_iconst (pc' := 55) rfl rfl ?_
        refine zi_iadd (pc' := 56) rfl rfl ?_
        refine zi_puti (pc' := 59) 56 rfl rfl rfl rfl rfl  ?_
        replace h := h _ rfl
        refine zi_aload_n (pc' := 60) rfl rfl rfl ?_
        refine zi_geti (pc' := 63) 56 rfl rfl rfl rfl rfl rfl ?_
        exact zi_iret rfl rfl h
      · replace h := h.2 c10
        refine zi_iconst (pc' := 38) rfl rfl ?_
        exact zi_iret rfl rfl h
  · replace h := h.2 c13
    refine zi_aload_n (pc' := 11) rfl rfl rfl ?_
    refine zi_iconst (pc' := 12) rfl rfl ?_
    refine zi_puti (pc' := 15) 56 rfl rfl rfl rfl rfl  ?_
    replace h := h _ rfl
    refine zi_iconst (pc' := 16) rfl rfl ?_
    exact zi_iret rfl rfl h
-- SpoutNews$Told.longestRunBegins()I
noncomputable def w_Told_longestRunBegins_b35 (l1 : Int) (l2 : Int) (l4 : Int) (s0 : Int) (g : zi_M) (H : Int → Int → Int → Int → zi_M → Prop) (K56 : Int → zi_M → Prop) (Q : Int → zi_M → Prop) : Prop := (zi_r s0 ∧ zi_r l1 ∧ ((s0 ≤ l1 → H l1 l2 s0 (l4 + 1) g) ∧ (l1 < s0 → H s0 ((l4 - s0) + 1) s0 (l4 + 1) g)))
noncomputable def w_Told_longestRunBegins_l9 (K56 : Int → zi_M → Prop) (Q : Int → zi_M → Prop) : Nat → Int → Int → Int → Int → zi_M → Prop
  | 0, _, _, _, _, _ => False
  | f + 1, l1, l2, l3, l4, g => (zi_r l4 ∧ zi_r (g 36 10) ∧ (((g 36 10) ≤ l4 → K56 l2 g) ∧ (l4 < (g 36 10) → ((0 ≤ l4 ∧ l4 < 40) ∧ (zi_r (g 44 l4) ∧ ((¬ (g 44 l4) = 0 → w_Told_longestRunBegins_b35 l1 l2 l4 0 g (w_Told_longestRunBegins_l9 K56 Q f) K56 Q) ∧ ((g 44 l4) = 0 → w_Told_longestRunBegins_b35 l1 l2 l4 (l3 + 1) g (w_Told_longestRunBegins_l9 K56 Q f) K56 Q)))))))
noncomputable def w_Told_longestRunBegins (g : zi_M) (Q : Int → zi_M → Prop) : Prop := (∃ f12, w_Told_longestRunBegins_l9 (fun k10 g11 => Q k10 g11) Q f12 0 (-1) 0 0 g)
set_option maxRecDepth 100000 in
theorem s_Told_longestRunBegins_b35 {E : sx_E} {d : Nat} (hd : 1 ≤ d) {l1 : Int} {l2 : Int} {l4 : Int} {s0 : Int} {H : Int → Int → Int → Int → zi_M → Prop} {K56 : Int → zi_M → Prop} {Q : Int → zi_M → Prop} {g : zi_M} (h : w_Told_longestRunBegins_b35 l1 l2 l4 s0 g H K56 Q) (hH : ∀ (m1 : Int) (m2 : Int) (m3 : Int) (m4 : Int) (g : zi_M), H m1 m2 m3 m4 g → zi_W E d 166 9 [some (.ref 36), some (zi_i m1), some (zi_i m2), some (zi_i m3), some (zi_i m4)] [] g (zi_Q Q)) (hK56 : ∀ (k2 : Int) (g : zi_M), K56 k2 g → zi_W E d 166 56 [some (.ref 36), none, some (zi_i k2), none, none] [] g (zi_Q Q)) : zi_W E d 166 35 [some (.ref 36), some (zi_i l1), some (zi_i l2), none, some (zi_i l4)] [zi_i s0] g (zi_Q Q) := by
  unfold w_Told_longestRunBegins_b35 at h
  refine zi_istore_n (pc' := 36) [some _, some _, some _, some _, some _] rfl rfl rfl ?_
  refine zi_iload_n (pc' := 37) rfl rfl rfl ?_
  refine zi_iload_n (pc' := 38) rfl rfl rfl ?_
  obtain ⟨o5, o6, h⟩ := h
  refine zi_icmp_le (x := 50) (pc' := 41) rfl rfl o5 o6 (fun c7 => ?_) (fun c7 => ?_)
  · replace h := h.1 c7
    refine zi_iinc (pc' := 53) [some _, some _, some _, some _, some _] rfl rfl rfl rfl ?_
    refine zi_goto (x := 9) rfl ?_
    exact zi_wk (hH _ _ _ _ _ h) (And.intro rfl (And.intro rfl (And.intro rfl (And.intro rfl (And.intro rfl trivial)))))
  · replace h := h.2 c7
    refine zi_iload_n (pc' := 42) rfl rfl rfl ?_
    refine zi_istore_n (pc' := 43) [some _, some _, some _, some _, some _] rfl rfl rfl ?_
    refine zi_iload (pc' := 45) rfl rfl rfl ?_
    refine zi_iload_n (pc' := 46) rfl rfl rfl ?_
    refine zi_isub (pc' := 47) rfl rfl ?_
    refine zi_iconst (pc' := 48) rfl rfl ?_
    refine zi_iadd (pc' := 49) rfl rfl ?_
    refine zi_istore_n (pc' := 50) [some _, some _, some _, some _, some _] rfl rfl rfl ?_
    refine zi_iinc (pc' := 53) [some _, some _, some _, some _, some _] rfl rfl rfl rfl ?_
    refine zi_goto (x := 9) rfl ?_
    exact zi_wk (hH _ _ _ _ _ h) (And.intro rfl (And.intro rfl (And.intro rfl (And.intro rfl (And.intro rfl trivial)))))
set_option maxRecDepth 100000 in
theorem s_Told_longestRunBegins_l9_r {E : sx_E} {d : Nat} (hd : 1 ≤ d) {K56 : Int → zi_M → Prop} {Q : Int → zi_M → Prop} (hK56 : ∀ (k2 : Int) (g : zi_M), K56 k2 g → zi_W E d 166 56 [some (.ref 36), none, some (zi_i k2), none, none] [] g (zi_Q Q)) : ∀ (f : Nat) {l1 : Int} {l2 : Int} {l3 : Int} {l4 : Int} {g : zi_M}, w_Told_longestRunBegins_l9 K56 Q f l1 l2 l3 l4 g → zi_W E d 166 9 [some (.ref 36), some (zi_i l1), some (zi_i l2), some (zi_i l3), some (zi_i l4)] [] g (zi_Q Q)
  | 0, _, _, _, _, _, h => False.elim h
  | f + 1, l1, l2, l3, l4, g, h => by
    refine zi_iload (pc' := 11) rfl rfl rfl ?_
    refine zi_aload_n (pc' := 12) rfl rfl rfl ?_
    refine zi_geti (pc' := 15) 10 rfl rfl rfl rfl rfl rfl ?_
    obtain ⟨o1, o2, h⟩ := h
    refine zi_icmp_ge (x := 56) (pc' := 18) rfl rfl o1 o2 (fun c9 => ?_) (fun c9 => ?_)
    · replace h := h.1 c9
      exact zi_wk (hK56 _ _ h) (And.intro rfl (And.intro rfl trivial))
    · replace h := h.2 c9
      refine zi_aload_n (pc' := 19) rfl rfl rfl ?_
      refine zi_getr (pc' := 22) rfl rfl rfl rfl rfl ?_
      refine zi_iload (pc' := 24) rfl rfl rfl ?_
      obtain ⟨o3, h⟩ := h
      refine zi_iald (pc' := 25) rfl rfl rfl o3 ?_
      obtain ⟨o4, h⟩ := h
      refine zi_if_ne (x := 34) (pc' := 28) rfl rfl o4  (fun c8 => ?_) (fun c8 => ?_)
      · replace h := h.1 c8
        refine zi_iconst (pc' := 35) rfl rfl ?_
        exact zi_wk (s_Told_longestRunBegins_b35 hd h (fun _ _ _ _ _ h => s_Told_longestRunBegins_l9_r hd hK56 f h) hK56) (And.intro rfl (And.intro rfl (And.intro rfl (And.intro rfl trivial))))
      · replace h := h.2 c8
        refine zi_iload_n (pc' := 29) rfl rfl rfl ?_
        refine zi_iconst (pc' := 30) rfl rfl ?_
        refine zi_iadd (pc' := 31) rfl rfl ?_
        refine zi_goto (x := 35) rfl ?_
        exact zi_wk (s_Told_longestRunBegins_b35 hd h (fun _ _ _ _ _ h => s_Told_longestRunBegins_l9_r hd hK56 f h) hK56) (And.intro rfl (And.intro rfl (And.intro rfl (And.intro rfl trivial))))
set_option maxRecDepth 100000 in
theorem s_Told_longestRunBegins_l9 {E : sx_E} {d : Nat} (hd : 1 ≤ d) {K56 : Int → zi_M → Prop} {Q : Int → zi_M → Prop} {l1 : Int} {l2 : Int} {l3 : Int} {l4 : Int} {g : zi_M} (h : ∃ f, w_Told_longestRunBegins_l9 K56 Q f l1 l2 l3 l4 g) (hK56 : ∀ (k2 : Int) (g : zi_M), K56 k2 g → zi_W E d 166 56 [some (.ref 36), none, some (zi_i k2), none, none] [] g (zi_Q Q)) : zi_W E d 166 9 [some (.ref 36), some (zi_i l1), some (zi_i l2), some (zi_i l3), some (zi_i l4)] [] g (zi_Q Q) := by
  obtain ⟨f, h⟩ := h
  exact s_Told_longestRunBegins_l9_r hd hK56 f h
set_option maxRecDepth 100000 in
theorem s_Told_longestRunBegins {E : sx_E} {d : Nat} (hd : 1 ≤ d) {g : zi_M} {Q : Int → zi_M → Prop} (h : w_Told_longestRunBegins g Q) : zi_S E d 166 [.ref 36] g (zi_Q Q) := by
  refine zi_Sof jf_166 [some (.ref 36), none, none, none, none] rfl (And.intro rfl trivial) ?_
  unfold w_Told_longestRunBegins at h
  refine zi_iconst (pc' := 1) rfl rfl ?_
  refine zi_istore_n (pc' := 2) [some _, some _, none, none, none] rfl rfl rfl ?_
  refine zi_iconst (pc' := 3) rfl rfl ?_
  refine zi_istore_n (pc' := 4) [some _, some _, some _, none, none] rfl rfl rfl ?_
  refine zi_iconst (pc' := 5) rfl rfl ?_
  refine zi_istore_n (pc' := 6) [some _, some _, some _, some _, none] rfl rfl rfl ?_
  refine zi_iconst (pc' := 7) rfl rfl ?_
  refine zi_istore (pc' := 9) [some _, some _, some _, some _, some _] rfl rfl rfl ?_
  refine zi_wk (s_Told_longestRunBegins_l9 hd h (fun k10 g11 h => ?_)) (And.intro rfl (And.intro rfl (And.intro rfl (And.intro rfl (And.intro rfl trivial)))))
  refine zi_iload_n (pc' := 57) rfl rfl rfl ?_
  exact zi_iret rfl rfl h
-- SpoutNews$Told.longestRun()I
noncomputable def w_Told_longestRun_l9 (K39 : Int → zi_M → Prop) (Q : Int → zi_M → Prop) : Nat → Int → Int → zi_M → Prop
  | 0, _, _, _ => False
  | f + 1, l2, l3, g => (zi_r l3 ∧ ((l3 < 0 → K39 l2 g) ∧ (0 ≤ l3 → (zi_r (g 36 10) ∧ (((g 36 10) ≤ l3 → K39 l2 g) ∧ (l3 < (g 36 10) → ((0 ≤ l3 ∧ l3 < 40) ∧ (zi_r (g 44 l3) ∧ ((¬ (g 44 l3) = 0 → K39 l2 g) ∧ ((g 44 l3) = 0 → w_Told_longestRun_l9 K39 Q f (l2 + 1) (l3 + 1) g))))))))))
noncomputable def w_Told_longestRun (g : zi_M) (Q : Int → zi_M → Prop) : Prop := w_Told_longestRunBegins g (fun v1 g2 => (∃ f13, w_Told_longestRun_l9 (fun k11 g12 => Q k11 g12) Q f13 0 v1 g2))
set_option maxRecDepth 100000 in
theorem s_Told_longestRun_l9_r {E : sx_E} {d : Nat} (hd : 2 ≤ d) {K39 : Int → zi_M → Prop} {Q : Int → zi_M → Prop} (hK39 : ∀ (k2 : Int) (g : zi_M), K39 k2 g → zi_W E d 165 39 [some (.ref 36), none, some (zi_i k2), none] [] g (zi_Q Q)) : ∀ (f : Nat) {l2 : Int} {l3 : Int} {g : zi_M}, w_Told_longestRun_l9 K39 Q f l2 l3 g → zi_W E d 165 9 [some (.ref 36), none, some (zi_i l2), some (zi_i l3)] [] g (zi_Q Q)
  | 0, _, _, _, h => False.elim h
  | f + 1, l2, l3, g, h => by
    refine zi_iload_n (pc' := 10) rfl rfl rfl ?_
    obtain ⟨o4, h⟩ := h
    refine zi_if_lt (x := 39) (pc' := 13) rfl rfl o4  (fun c10 => ?_) (fun c10 => ?_)
    · replace h := h.1 c10
      exact zi_wk (hK39 _ _ h) (And.intro rfl (And.intro rfl trivial))
    · replace h := h.2 c10
      refine zi_iload_n (pc' := 14) rfl rfl rfl ?_
      refine zi_aload_n (pc' := 15) rfl rfl rfl ?_
      refine zi_geti (pc' := 18) 10 rfl rfl rfl rfl rfl rfl ?_
      obtain ⟨o5, h⟩ := h
      refine zi_icmp_ge (x := 39) (pc' := 21) rfl rfl o4 o5 (fun c9 => ?_) (fun c9 => ?_)
      · replace h := h.1 c9
        exact zi_wk (hK39 _ _ h) (And.intro rfl (And.intro rfl trivial))
      · replace h := h.2 c9
        refine zi_aload_n (pc' := 22) rfl rfl rfl ?_
        refine zi_getr (pc' := 25) rfl rfl rfl rfl rfl ?_
        refine zi_iload_n (pc' := 26) rfl rfl rfl ?_
        obtain ⟨o6, h⟩ := h
        refine zi_iald (pc' := 27) rfl rfl rfl o6 ?_
        obtain ⟨o7, h⟩ := h
        refine zi_if_ne (x := 39) (pc' := 30) rfl rfl o7  (fun c8 => ?_) (fun c8 => ?_)
        · replace h := h.1 c8
          exact zi_wk (hK39 _ _ h) (And.intro rfl (And.intro rfl trivial))
        · replace h := h.2 c8
          refine zi_iinc (pc' := 33) [some _, none, some _, some _] rfl rfl rfl rfl ?_
          refine zi_iinc (pc' := 36) [some _, none, some _, some _] rfl rfl rfl rfl ?_
          refine zi_goto (x := 9) rfl ?_
          exact zi_wk (s_Told_longestRun_l9_r hd hK39 f h) (And.intro rfl (And.intro rfl (And.intro rfl trivial)))
set_option maxRecDepth 100000 in
theorem s_Told_longestRun_l9 {E : sx_E} {d : Nat} (hd : 2 ≤ d) {K39 : Int → zi_M → Prop} {Q : Int → zi_M → Prop} {l2 : Int} {l3 : Int} {g : zi_M} (h : ∃ f, w_Told_longestRun_l9 K39 Q f l2 l3 g) (hK39 : ∀ (k2 : Int) (g : zi_M), K39 k2 g → zi_W E d 165 39 [some (.ref 36), none, some (zi_i k2), none] [] g (zi_Q Q)) : zi_W E d 165 9 [some (.ref 36), none, some (zi_i l2), some (zi_i l3)] [] g (zi_Q Q) := by
  obtain ⟨f, h⟩ := h
  exact s_Told_longestRun_l9_r hd hK39 f h
set_option maxRecDepth 100000 in
theorem s_Told_longestRun {E : sx_E} {d : Nat} (hd : 2 ≤ d) {g : zi_M} {Q : Int → zi_M → Prop} (h : w_Told_longestRun g Q) : zi_S E d 165 [.ref 36] g (zi_Q Q) := by
  refine zi_Sof jf_165 [some (.ref 36), none, none, none] rfl (And.intro rfl trivial) ?_
  unfold w_Told_longestRun at h
  refine zi_aload_n (pc' := 1) rfl rfl rfl ?_
  refine zi_callV (d' := 1) (as := []) (pc' := 4) rfl rfl rfl rfl (Nat.lt_of_lt_of_le (by decide) hd) (s_Told_longestRunBegins (Nat.le_refl _) h) (zi_ki (fun v1 g2 h => ?_))
  refine zi_istore_n (pc' := 5) [some _, some _, none, none] rfl rfl rfl ?_
  refine zi_iconst (pc' := 6) rfl rfl ?_
  refine zi_istore_n (pc' := 7) [some _, some _, some _, none] rfl rfl rfl ?_
  refine zi_iload_n (pc' := 8) rfl rfl rfl ?_
  refine zi_istore_n (pc' := 9) [some _, some _, some _, some _] rfl rfl rfl ?_
  refine zi_wk (s_Told_longestRun_l9 hd h (fun k11 g12 h => ?_)) (And.intro rfl (And.intro rfl (And.intro rfl trivial)))
  refine zi_iload_n (pc' := 40) rfl rfl rfl ?_
  exact zi_iret rfl rfl h
-- SpoutNews.longest(I)I
noncomputable def w_S_longest (l1 : Int) (g : zi_M) (Q : Int → zi_M → Prop) : Prop := (zi_r l1 ∧ ((l1 ≠ 0 → l1 ≠ 1 → Q (-1) g) ∧ (l1 = 0 → w_Told_longestRun g (fun v3 g4 => Q v3 g4)) ∧ (l1 = 1 → w_Told_longestRunBegins g (fun v6 g7 => Q v6 g7))))
set_option maxRecDepth 100000 in
theorem s_S_longest {E : sx_E} {d : Nat} (hd : 3 ≤ d) {l1 : Int} {g : zi_M} {Q : Int → zi_M → Prop} (h : w_S_longest l1 g Q) : zi_S E d 164 [.ref 0, zi_i l1] g (zi_Q Q) := by
  refine zi_Sof jf_164 [some (.ref 0), some (zi_i l1)] rfl (And.intro rfl (And.intro rfl trivial)) ?_
  unfold w_S_longest at h
  refine zi_iload_n (pc' := 1) rfl rfl rfl ?_
  obtain ⟨o1, h⟩ := h
  refine zi_lsw [(0, 28), (1, 39)] 50 rfl rfl o1 (fun c2 => ?_) (And.intro (fun c2 => ?_) (And.intro (fun c2 => ?_) trivial))
  · replace h := h.1 (c2 _ (List.mem_cons_self)) (c2 _ (List.mem_cons_of_mem _ (List.mem_cons_self)))
    refine zi_iconst (pc' := 51) rfl rfl ?_
    exact zi_iret rfl rfl h
  · replace h := h.2.1 c2
    refine zi_aload_n (pc' := 29) rfl rfl rfl ?_
    refine zi_getr (pc' := 32) rfl rfl rfl rfl rfl ?_
    refine zi_getr (pc' := 35) rfl rfl rfl rfl rfl ?_
    refine zi_callV (d' := 2) (as := []) (pc' := 38) rfl rfl rfl rfl (Nat.lt_of_lt_of_le (by decide) hd) (s_Told_longestRun (Nat.le_refl _) h) (zi_ki (fun v3 g4 h => ?_))
    exact zi_iret rfl rfl h
  · replace h := h.2.2 c2
    refine zi_aload_n (pc' := 40) rfl rfl rfl ?_
    refine zi_getr (pc' := 43) rfl rfl rfl rfl rfl ?_
    refine zi_getr (pc' := 46) rfl rfl rfl rfl rfl ?_
    refine zi_callV (d' := 1) (as := []) (pc' := 49) rfl rfl rfl rfl (Nat.lt_of_lt_of_le (by decide) hd) (s_Told_longestRunBegins (Nat.le_refl _) h) (zi_ki (fun v6 g7 h => ?_))
    exact zi_iret rfl rfl h
-- SpoutNewsModel.longest(I)I
noncomputable def w_M_longest_b53 (l3 : Int) (l4 : Int) (l5 : Int) (s0 : Int) (g : zi_M) (H : Int → Int → Int → Int → zi_M → Prop) (K78 : Int → Int → zi_M → Prop) (Q : Int → zi_M → Prop) : Prop := (zi_r s0 ∧ zi_r l3 ∧ ((l3 < s0 → H s0 s0 ((l5 - s0) + 1) (l5 + 1) g) ∧ (s0 ≤ l3 → H s0 l3 l4 (l5 + 1) g)))
noncomputable def w_M_longest_l27 (K78 : Int → Int → zi_M → Prop) (Q : Int → zi_M → Prop) : Nat → Int → Int → Int → Int → zi_M → Prop
  | 0, _, _, _, _, _ => False
  | f + 1, l2, l3, l4, l5, g => (zi_r l5 ∧ zi_r (g 214 56) ∧ (((g 214 56) ≤ l5 → K78 l3 l4 g) ∧ (l5 < (g 214 56) → ((0 ≤ l5 ∧ l5 < 40) ∧ (zi_r (g 247 l5) ∧ ((¬ (g 247 l5) = 0 → w_M_longest_b53 l3 l4 l5 0 g (w_M_longest_l27 K78 Q f) K78 Q) ∧ ((g 247 l5) = 0 → w_M_longest_b53 l3 l4 l5 (l2 + 1) g (w_M_longest_l27 K78 Q f) K78 Q)))))))
noncomputable def w_M_longest (l1 : Int) (g : zi_M) (Q : Int → zi_M → Prop) : Prop := (∀ g1, g1 = zi_u g 214 0 0 → w_M_isIn l1 0 1 g1 (fun v2 g3 => ((¬ v2 = 0 → (∃ f19, w_M_longest_l27 (fun k14 k15 g16 => (zi_r l1 ∧ ((¬ l1 = 0 → Q k15 g16) ∧ (l1 = 0 → Q k14 g16)))) Q f19 0 0 (-1) 0 g3)) ∧ (v2 = 0 → Q (-1) g3))))
set_option maxRecDepth 100000 in
theorem s_M_longest_b53 {E : sx_E} {d : Nat} (hd : 2 ≤ d) {l3 : Int} {l4 : Int} {l5 : Int} {s0 : Int} {x1 : Int} {H : Int → Int → Int → Int → zi_M → Prop} {K78 : Int → Int → zi_M → Prop} {Q : Int → zi_M → Prop} {g : zi_M} (h : w_M_longest_b53 l3 l4 l5 s0 g H K78 Q) (hH : ∀ (m2 : Int) (m3 : Int) (m4 : Int) (m5 : Int) (g : zi_M), H m2 m3 m4 m5 g → zi_W E d 312 27 [some (.ref 214), some (zi_i x1), some (zi_i m2), some (zi_i m3), some (zi_i m4), some (zi_i m5)] [] g (zi_Q Q)) (hK78 : ∀ (k3 : Int) (k4 : Int) (g : zi_M), K78 k3 k4 g → zi_W E d 312 78 [some (.ref 214), some (zi_i x1), none, some (zi_i k3), some (zi_i k4), none] [] g (zi_Q Q)) : zi_W E d 312 53 [some (.ref 214), some (zi_i x1), none, some (zi_i l3), some (zi_i l4), some (zi_i l5)] [zi_i s0] g (zi_Q Q) := by
  unfold w_M_longest_b53 at h
  refine zi_istore_n (pc' := 54) [some _, some _, some _, some _, some _, some _] rfl rfl rfl ?_
  refine zi_iload_n (pc' := 55) rfl rfl rfl ?_
  refine zi_iload_n (pc' := 56) rfl rfl rfl ?_
  obtain ⟨o9, o10, h⟩ := h
  refine zi_icmp_gt (x := 62) (pc' := 59) rfl rfl o9 o10 (fun c11 => ?_) (fun c11 => ?_)
  · replace h := h.1 c11
    refine zi_iload_n (pc' := 63) rfl rfl rfl ?_
    refine zi_istore_n (pc' := 64) [some _, some _, some _, some _, some _, some _] rfl rfl rfl ?_
    refine zi_iload (pc' := 66) rfl rfl rfl ?_
    refine zi_iload_n (pc' := 67) rfl rfl rfl ?_
    refine zi_isub (pc' := 68) rfl rfl ?_
    refine zi_iconst (pc' := 69) rfl rfl ?_
    refine zi_iadd (pc' := 70) rfl rfl ?_
    refine zi_istore (pc' := 72) [some _, some _, some _, some _, some _, some _] rfl rfl rfl ?_
    refine zi_iinc (pc' := 75) [some _, some _, some _, some _, some _, some _] rfl rfl rfl rfl ?_
    refine zi_goto (x := 27) rfl ?_
    exact zi_wk (hH _ _ _ _ _ h) (And.intro rfl (And.intro rfl (And.intro rfl (And.intro rfl (And.intro rfl (And.intro rfl trivial))))))
  · replace h := h.2 c11
    refine zi_goto (x := 72) rfl ?_
    refine zi_iinc (pc' := 75) [some _, some _, some _, some _, some _, some _] rfl rfl rfl rfl ?_
    refine zi_goto (x := 27) rfl ?_
    exact zi_wk (hH _ _ _ _ _ h) (And.intro rfl (And.intro rfl (And.intro rfl (And.intro rfl (And.intro rfl (And.intro rfl trivial))))))
set_option maxRecDepth 100000 in
theorem s_M_longest_l27_r {E : sx_E} {d : Nat} (hd : 2 ≤ d) {x1 : Int} {K78 : Int → Int → zi_M → Prop} {Q : Int → zi_M → Prop} (hK78 : ∀ (k3 : Int) (k4 : Int) (g : zi_M), K78 k3 k4 g → zi_W E d 312 78 [some (.ref 214), some (zi_i x1), none, some (zi_i k3), some (zi_i k4), none] [] g (zi_Q Q)) : ∀ (f : Nat) {l2 : Int} {l3 : Int} {l4 : Int} {l5 : Int} {g : zi_M}, w_M_longest_l27 K78 Q f l2 l3 l4 l5 g → zi_W E d 312 27 [some (.ref 214), some (zi_i x1), some (zi_i l2), some (zi_i l3), some (zi_i l4), some (zi_i l5)] [] g (zi_Q Q)
  | 0, _, _, _, _, _, h => False.elim h
  | f + 1, l2, l3, l4, l5, g, h => by
    refine zi_iload (pc' := 29) rfl rfl rfl ?_
    refine zi_aload_n (pc' := 30) rfl rfl rfl ?_
    refine zi_geti (pc' := 33) 56 rfl rfl rfl rfl rfl rfl ?_
    obtain ⟨o5, o6, h⟩ := h
    refine zi_icmp_ge (x := 78) (pc' := 36) rfl rfl o5 o6 (fun c13 => ?_) (fun c13 => ?_)
    · replace h := h.1 c13
      exact zi_wk (hK78 _ _ _ h) (And.intro rfl (And.intro rfl (And.intro rfl (And.intro rfl trivial))))
    · replace h := h.2 c13
      refine zi_aload_n (pc' := 37) rfl rfl rfl ?_
      refine zi_getr (pc' := 40) rfl rfl rfl rfl rfl ?_
      refine zi_iload (pc' := 42) rfl rfl rfl ?_
      obtain ⟨o7, h⟩ := h
      refine zi_iald (pc' := 43) rfl rfl rfl o7 ?_
      obtain ⟨o8, h⟩ := h
      refine zi_if_ne (x := 52) (pc' := 46) rfl rfl o8  (fun c12 => ?_) (fun c12 => ?_)
      · replace h := h.1 c12
        refine zi_iconst (pc' := 53) rfl rfl ?_
        exact zi_wk (s_M_longest_b53 hd h (fun _ _ _ _ _ h => s_M_longest_l27_r hd hK78 f h) hK78) (And.intro rfl (And.intro rfl (And.intro rfl (And.intro rfl (And.intro rfl trivial)))))
      · replace h := h.2 c12
        refine zi_iload_n (pc' := 47) rfl rfl rfl ?_
        refine zi_iconst (pc' := 48) rfl rfl ?_
        refine zi_iadd (pc' := 49) rfl rfl ?_
        refine zi_goto (x := 53) rfl ?_
        exact zi_wk (s_M_longest_b53 hd h (fun _ _ _ _ _ h => s_M_longest_l27_r hd hK78 f h) hK78) (And.intro rfl (And.intro rfl (And.intro rfl (And.intro rfl (And.intro rfl trivial)))))
set_option maxRecDepth 100000 in
theorem s_M_longest_l27 {E : sx_E} {d : Nat} (hd : 2 ≤ d) {x1 : Int} {K78 : Int → Int → zi_M → Prop} {Q : Int → zi_M → Prop} {l2 : Int} {l3 : Int} {l4 : Int} {l5 : Int} {g : zi_M} (h : ∃ f, w_M_longest_l27 K78 Q f l2 l3 l4 l5 g) (hK78 : ∀ (k3 : Int) (k4 : Int) (g : zi_M), K78 k3 k4 g → zi_W E d 312 78 [some (.ref 214), some (zi_i x1), none, some (zi_i k3), some (zi_i k4), none] [] g (zi_Q Q)) : zi_W E d 312 27 [some (.ref 214), some (zi_i x1), some (zi_i l2), some (zi_i l3), some (zi_i l4), some (zi_i l5)] [] g (zi_Q Q) := by
  obtain ⟨f, h⟩ := h
  exact s_M_longest_l27_r hd hK78 f h
set_option maxRecDepth 100000 in
theorem s_M_longest {E : sx_E} {d : Nat} (hd : 2 ≤ d) {l1 : Int} {g : zi_M} {Q : Int → zi_M → Prop} (h : w_M_longest l1 g Q) : zi_S E d 312 [.ref 214, zi_i l1] g (zi_Q Q) := by
  refine zi_Sof jf_312 [some (.ref 214), some (zi_i l1), none, none, none, none] rfl (And.intro rfl (And.intro rfl trivial)) ?_
  unfold w_M_longest at h
  refine zi_aload_n (pc' := 1) rfl rfl rfl ?_
  refine zi_iconst (pc' := 2) rfl rfl ?_
  refine zi_puti (pc' := 5) 0 rfl rfl rfl rfl rfl  ?_
  replace h := h _ rfl
  refine zi_aload_n (pc' := 6) rfl rfl rfl ?_
  refine zi_iload_n (pc' := 7) rfl rfl rfl ?_
  refine zi_iconst (pc' := 8) rfl rfl ?_
  refine zi_iconst (pc' := 9) rfl rfl ?_
  refine zi_callV (d' := 1) (as := [_, _, _]) (pc' := 12) rfl rfl rfl rfl (Nat.lt_of_lt_of_le (by decide) hd) (s_M_isIn (Nat.le_refl _) h) (zi_kb (fun v2 g3 b4 h => ?_))
  refine zi_if_ne (x := 17) (pc' := 15) rfl rfl (zi_r_bit b4)  (fun c20 => ?_) (fun c20 => ?_)
  · replace h := h.1 c20
    refine zi_iconst (pc' := 18) rfl rfl ?_
    refine zi_istore_n (pc' := 19) [some _, some _, some _, none, none, none] rfl rfl rfl ?_
    refine zi_iconst (pc' := 20) rfl rfl ?_
    refine zi_istore_n (pc' := 21) [some _, some _, some _, some _, none, none] rfl rfl rfl ?_
    refine zi_iconst (pc' := 22) rfl rfl ?_
    refine zi_istore (pc' := 24) [some _, some _, some _, some _, some _, none] rfl rfl rfl ?_
    refine zi_iconst (pc' := 25) rfl rfl ?_
    refine zi_istore (pc' := 27) [some _, some _, some _, some _, some _, some _] rfl rfl rfl ?_
    refine zi_wk (s_M_longest_l27 hd h (fun k14 k15 g16 h => ?_)) (And.intro rfl (And.intro rfl (And.intro rfl (And.intro rfl (And.intro rfl (And.intro rfl trivial))))))
    refine zi_iload_n (pc' := 79) rfl rfl rfl ?_
    obtain ⟨o17, h⟩ := h
    refine zi_if_ne (x := 86) (pc' := 82) rfl rfl o17  (fun c18 => ?_) (fun c18 => ?_)
    · replace h := h.1 c18
      refine zi_iload (pc' := 88) rfl rfl rfl ?_
      exact zi_iret rfl rfl h
    · replace h := h.2 c18
      refine zi_iload_n (pc' := 83) rfl rfl rfl ?_
      refine zi_goto (x := 88) rfl ?_
      exact zi_iret rfl rfl h
  · replace h := h.2 c20
    refine zi_iconst (pc' := 16) rfl rfl ?_
    exact zi_iret rfl rfl h
-- SpoutNews$Thought.centuries(LSpoutNews$World;I)I
noncomputable def w_Thought_centuries_l26 (l1 : Int) (K60 : Int → zi_M → Prop) (Q : Int → zi_M → Prop) : Nat → Int → Int → Int → zi_M → Prop
  | 0, _, _, _, _ => False
  | f + 1, l4, l5, l6, g => (zi_r l6 ∧ ((99 ≤ l6 → K60 l5 g) ∧ (l6 < 99 → (zi_r l4 ∧ zi_r l1 ∧ ((l1 ≤ l4 → K60 l5 g) ∧ (l4 < l1 → w_Thought_centuries_l26 l1 K60 Q f (l4 + ((Int.tdiv l4 10) + 1)) (l5 + 1) (l6 + 1) g))))))
noncomputable def w_Thought_centuries_l4 (l1 : Int) (K73 : Int → zi_M → Prop) (Q : Int → zi_M → Prop) : Nat → Int → Int → zi_M → Prop
  | 0, _, _, _ => False
  | f + 1, l2, l3, g => (zi_r l3 ∧ zi_r (g 2 8) ∧ (((g 2 8) ≤ l3 → K73 l2 g) ∧ (l3 < (g 2 8) → ((0 ≤ l3 ∧ l3 < 10) ∧ (∃ f13, w_Thought_centuries_l26 l1 (fun k9 g10 => (zi_r l2 ∧ zi_r k9 ∧ w_Thought_centuries_l4 l1 K73 Q f (max l2 k9) (l3 + 1) g10)) Q f13 (g 5 l3) 0 0 g)))))
noncomputable def w_Thought_centuries (l1 : Int) (g : zi_M) (Q : Int → zi_M → Prop) : Prop := (∃ f17, w_Thought_centuries_l4 l1 (fun k15 g16 => Q k15 g16) Q f17 0 0 g)
set_option maxRecDepth 100000 in
theorem s_Thought_centuries_l26_r {E : sx_E} {d : Nat} (hd : 1 ≤ d) {l1 : Int} {x2 : Int} {x3 : Int} {K60 : Int → zi_M → Prop} {Q : Int → zi_M → Prop} (hK60 : ∀ (k5 : Int) (g : zi_M), K60 k5 g → zi_W E d 168 60 [some (.ref 2), some (zi_i l1), some (zi_i x2), some (zi_i x3), none, some (zi_i k5), none] [] g (zi_Q Q)) : ∀ (f : Nat) {l4 : Int} {l5 : Int} {l6 : Int} {g : zi_M}, w_Thought_centuries_l26 l1 K60 Q f l4 l5 l6 g → zi_W E d 168 26 [some (.ref 2), some (zi_i l1), some (zi_i x2), some (zi_i x3), some (zi_i l4), some (zi_i l5), some (zi_i l6)] [] g (zi_Q Q)
  | 0, _, _, _, _, h => False.elim h
  | f + 1, l4, l5, l6, g, h => by
    refine zi_iload (pc' := 28) rfl rfl rfl ?_
    refine zi_bipush (pc' := 30) rfl rfl (by decide) ?_
    obtain ⟨o4, h⟩ := h
    refine zi_icmp_ge (x := 60) (pc' := 33) rfl rfl o4 (by decide) (fun c8 => ?_) (fun c8 => ?_)
    · replace h := h.1 c8
      exact zi_wk (hK60 _ _ h) (And.intro rfl (And.intro rfl (And.intro rfl (And.intro rfl (And.intro rfl trivial)))))
    · replace h := h.2 c8
      refine zi_iload (pc' := 35) rfl rfl rfl ?_
      refine zi_iload_n (pc' := 36) rfl rfl rfl ?_
      obtain ⟨o5, o6, h⟩ := h
      refine zi_icmp_ge (x := 60) (pc' := 39) rfl rfl o5 o6 (fun c7 => ?_) (fun c7 => ?_)
      · replace h := h.1 c7
        exact zi_wk (hK60 _ _ h) (And.intro rfl (And.intro rfl (And.intro rfl (And.intro rfl (And.intro rfl trivial)))))
      · replace h := h.2 c7
        refine zi_iload (pc' := 41) rfl rfl rfl ?_
        refine zi_iload (pc' := 43) rfl rfl rfl ?_
        refine zi_bipush (pc' := 45) rfl rfl (by decide) ?_
        refine zi_idiv (pc' := 46) rfl rfl o5 (by decide) (by decide) ?_
        refine zi_iconst (pc' := 47) rfl rfl ?_
        refine zi_iadd (pc' := 48) rfl rfl ?_
        refine zi_iadd (pc' := 49) rfl rfl ?_
        refine zi_istore (pc' := 51) [some _, some _, some _, some _, some _, some _, some _] rfl rfl rfl ?_
        refine zi_iinc (pc' := 54) [some _, some _, some _, some _, some _, some _, some _] rfl rfl rfl rfl ?_
        refine zi_iinc (pc' := 57) [some _, some _, some _, some _, some _, some _, some _] rfl rfl rfl rfl ?_
        refine zi_goto (x := 26) rfl ?_
        exact zi_wk (s_Thought_centuries_l26_r hd hK60 f h) (And.intro rfl (And.intro rfl (And.intro rfl (And.intro rfl (And.intro rfl (And.intro rfl (And.intro rfl trivial)))))))
set_option maxRecDepth 100000 in
theorem s_Thought_centuries_l26 {E : sx_E} {d : Nat} (hd : 1 ≤ d) {l1 : Int} {x2 : Int} {x3 : Int} {K60 : Int → zi_M → Prop} {Q : Int → zi_M → Prop} {l4 : Int} {l5 : Int} {l6 : Int} {g : zi_M} (h : ∃ f, w_Thought_centuries_l26 l1 K60 Q f l4 l5 l6 g) (hK60 : ∀ (k5 : Int) (g : zi_M), K60 k5 g → zi_W E d 168 60 [some (.ref 2), some (zi_i l1), some (zi_i x2), some (zi_i x3), none, some (zi_i k5), none] [] g (zi_Q Q)) : zi_W E d 168 26 [some (.ref 2), some (zi_i l1), some (zi_i x2), some (zi_i x3), some (zi_i l4), some (zi_i l5), some (zi_i l6)] [] g (zi_Q Q) := by
  obtain ⟨f, h⟩ := h
  exact s_Thought_centuries_l26_r hd hK60 f h
set_option maxRecDepth 100000 in
theorem s_Thought_centuries_l4_r {E : sx_E} {d : Nat} (hd : 1 ≤ d) {l1 : Int} {K73 : Int → zi_M → Prop} {Q : Int → zi_M → Prop} (hK73 : ∀ (k2 : Int) (g : zi_M), K73 k2 g → zi_W E d 168 73 [some (.ref 2), some (zi_i l1), some (zi_i k2), none, none, none, none] [] g (zi_Q Q)) : ∀ (f : Nat) {l2 : Int} {l3 : Int} {g : zi_M}, w_Thought_centuries_l4 l1 K73 Q f l2 l3 g → zi_W E d 168 4 [some (.ref 2), some (zi_i l1), some (zi_i l2), some (zi_i l3), none, none, none] [] g (zi_Q Q)
  | 0, _, _, _, h => False.elim h
  | f + 1, l2, l3, g, h => by
    refine zi_iload_n (pc' := 5) rfl rfl rfl ?_
    refine zi_aload_n (pc' := 6) rfl rfl rfl ?_
    refine zi_geti (pc' := 9) 8 rfl rfl rfl rfl rfl rfl ?_
    obtain ⟨o1, o2, h⟩ := h
    refine zi_icmp_ge (x := 73) (pc' := 12) rfl rfl o1 o2 (fun c14 => ?_) (fun c14 => ?_)
    · replace h := h.1 c14
      exact zi_wk (hK73 _ _ h) (And.intro rfl (And.intro rfl (And.intro rfl trivial)))
    · replace h := h.2 c14
      refine zi_aload_n (pc' := 13) rfl rfl rfl ?_
      refine zi_getr (pc' := 16) rfl rfl rfl rfl rfl ?_
      refine zi_iload_n (pc' := 17) rfl rfl rfl ?_
      obtain ⟨o3, h⟩ := h
      refine zi_iald (pc' := 18) rfl rfl rfl o3 ?_
      refine zi_istore (pc' := 20) [some _, some _, some _, some _, some _, none, none] rfl rfl rfl ?_
      refine zi_iconst (pc' := 21) rfl rfl ?_
      refine zi_istore (pc' := 23) [some _, some _, some _, some _, some _, some _, none] rfl rfl rfl ?_
      refine zi_iconst (pc' := 24) rfl rfl ?_
      refine zi_istore (pc' := 26) [some _, some _, some _, some _, some _, some _, some _] rfl rfl rfl ?_
      refine zi_wk (s_Thought_centuries_l26 hd h (fun k9 g10 h => ?_)) (And.intro rfl (And.intro rfl (And.intro rfl (And.intro rfl (And.intro rfl (And.intro rfl (And.intro rfl trivial)))))))
      refine zi_iload_n (pc' := 61) rfl rfl rfl ?_
      refine zi_iload (pc' := 63) rfl rfl rfl ?_
      obtain ⟨o11, o12, h⟩ := h
      refine zi_max (pc' := 66) rfl rfl o11 o12 (Nat.le_trans (by decide) hd) rfl ?_
      refine zi_istore_n (pc' := 67) [some _, some _, some _, some _, none, some _, none] rfl rfl rfl ?_
      refine zi_iinc (pc' := 70) [some _, some _, some _, some _, none, some _, none] rfl rfl rfl rfl ?_
      refine zi_goto (x := 4) rfl ?_
      exact zi_wk (s_Thought_centuries_l4_r hd hK73 f h) (And.intro rfl (And.intro rfl (And.intro rfl (And.intro rfl trivial))))
set_option maxRecDepth 100000 in
theorem s_Thought_centuries_l4 {E : sx_E} {d : Nat} (hd : 1 ≤ d) {l1 : Int} {K73 : Int → zi_M → Prop} {Q : Int → zi_M → Prop} {l2 : Int} {l3 : Int} {g : zi_M} (h : ∃ f, w_Thought_centuries_l4 l1 K73 Q f l2 l3 g) (hK73 : ∀ (k2 : Int) (g : zi_M), K73 k2 g → zi_W E d 168 73 [some (.ref 2), some (zi_i l1), some (zi_i k2), none, none, none, none] [] g (zi_Q Q)) : zi_W E d 168 4 [some (.ref 2), some (zi_i l1), some (zi_i l2), some (zi_i l3), none, none, none] [] g (zi_Q Q) := by
  obtain ⟨f, h⟩ := h
  exact s_Thought_centuries_l4_r hd hK73 f h
set_option maxRecDepth 100000 in
theorem s_Thought_centuries {E : sx_E} {d : Nat} (hd : 1 ≤ d) {l1 : Int} {g : zi_M} {Q : Int → zi_M → Prop} (h : w_Thought_centuries l1 g Q) : zi_S E d 168 [.ref 2, zi_i l1] g (zi_Q Q) := by
  refine zi_Sof jf_168 [some (.ref 2), some (zi_i l1), none, none, none, none, none] rfl (And.intro rfl (And.intro rfl trivial)) ?_
  unfold w_Thought_centuries at h
  refine zi_iconst (pc' := 1) rfl rfl ?_
  refine zi_istore_n (pc' := 2) [some _, some _, some _, none, none, none, none] rfl rfl rfl ?_
  refine zi_iconst (pc' := 3) rfl rfl ?_
  refine zi_istore_n (pc' := 4) [some _, some _, some _, some _, none, none, none] rfl rfl rfl ?_
  refine zi_wk (s_Thought_centuries_l4 hd h (fun k15 g16 h => ?_)) (And.intro rfl (And.intro rfl (And.intro rfl (And.intro rfl trivial))))
  refine zi_iload_n (pc' := 74) rfl rfl rfl ?_
  exact zi_iret rfl rfl h
-- SpoutNews.leans(I)I
noncomputable def w_S_leans (l1 : Int) (g : zi_M) (Q : Int → zi_M → Prop) : Prop := (zi_r l1 ∧ ((l1 < 1 → Q (-1) g) ∧ (1 ≤ l1 → ((l1 ≤ 99 → w_Thought_centuries l1 g (fun v2 g3 => Q v2 g3)) ∧ (99 < l1 → Q (-1) g)))))
set_option maxRecDepth 100000 in
theorem s_S_leans {E : sx_E} {d : Nat} (hd : 2 ≤ d) {l1 : Int} {g : zi_M} {Q : Int → zi_M → Prop} (h : w_S_leans l1 g Q) : zi_S E d 167 [.ref 0, zi_i l1] g (zi_Q Q) := by
  refine zi_Sof jf_167 [some (.ref 0), some (zi_i l1)] rfl (And.intro rfl (And.intro rfl trivial)) ?_
  unfold w_S_leans at h
  refine zi_iload_n (pc' := 1) rfl rfl rfl ?_
  refine zi_iconst (pc' := 2) rfl rfl ?_
  obtain ⟨o1, h⟩ := h
  refine zi_icmp_lt (x := 11) (pc' := 5) rfl rfl o1 (by decide) (fun c6 => ?_) (fun c6 => ?_)
  · replace h := h.1 c6
    refine zi_iconst (pc' := 12) rfl rfl ?_
    exact zi_iret rfl rfl h
  · replace h := h.2 c6
    refine zi_iload_n (pc' := 6) rfl rfl rfl ?_
    refine zi_bipush (pc' := 8) rfl rfl (by decide) ?_
    refine zi_icmp_le (x := 13) (pc' := 11) rfl rfl o1 (by decide) (fun c5 => ?_) (fun c5 => ?_)
    · replace h := h.1 c5
      refine zi_aload_n (pc' := 14) rfl rfl rfl ?_
      refine zi_getr (pc' := 17) rfl rfl rfl rfl rfl ?_
      refine zi_getr (pc' := 20) rfl rfl rfl rfl rfl ?_
      refine zi_iload_n (pc' := 21) rfl rfl rfl ?_
      refine zi_callS (d' := 1) (as := [_, _]) (pc' := 24) rfl rfl rfl (Nat.lt_of_lt_of_le (by decide) hd) (s_Thought_centuries (Nat.le_refl _) h) (zi_ki (fun v2 g3 h => ?_))
      exact zi_iret rfl rfl h
    · replace h := h.2 c5
      refine zi_iconst (pc' := 12) rfl rfl ?_
      exact zi_iret rfl rfl h
-- SpoutNewsModel.leansFrom(II)I
noncomputable def w_M_leansFrom_l5 (l2 : Int) (K30 : Int → zi_M → Prop) (Q : Int → zi_M → Prop) : Nat → Int → Int → zi_M → Prop
  | 0, _, _, _ => False
  | f + 1, l3, l4, g => (zi_r l4 ∧ zi_r l2 ∧ ((l2 ≤ l4 → K30 l3 g) ∧ (l4 < l2 → w_M_leansFrom_l5 l2 K30 Q f (l3 + 1) ((l4 + (Int.tdiv l4 10)) + 1) g)))
noncomputable def w_M_leansFrom (l1 : Int) (l2 : Int) (g : zi_M) (Q : Int → zi_M → Prop) : Prop := (∃ f6, w_M_leansFrom_l5 l2 (fun k4 g5 => Q k4 g5) Q f6 0 l1 g)
set_option maxRecDepth 100000 in
theorem s_M_leansFrom_l5_r {E : sx_E} {d : Nat} (hd : 1 ≤ d) {l2 : Int} {K30 : Int → zi_M → Prop} {Q : Int → zi_M → Prop} (hK30 : ∀ (k3 : Int) (g : zi_M), K30 k3 g → zi_W E d 314 30 [none, none, some (zi_i l2), some (zi_i k3), none] [] g (zi_Q Q)) : ∀ (f : Nat) {l3 : Int} {l4 : Int} {g : zi_M}, w_M_leansFrom_l5 l2 K30 Q f l3 l4 g → zi_W E d 314 5 [none, none, some (zi_i l2), some (zi_i l3), some (zi_i l4)] [] g (zi_Q Q)
  | 0, _, _, _, h => False.elim h
  | f + 1, l3, l4, g, h => by
    refine zi_iload (pc' := 7) rfl rfl rfl ?_
    refine zi_iload_n (pc' := 8) rfl rfl rfl ?_
    obtain ⟨o1, o2, h⟩ := h
    refine zi_icmp_ge (x := 30) (pc' := 11) rfl rfl o1 o2 (fun c3 => ?_) (fun c3 => ?_)
    · replace h := h.1 c3
      exact zi_wk (hK30 _ _ h) (And.intro rfl (And.intro rfl trivial))
    · replace h := h.2 c3
      refine zi_iload (pc' := 13) rfl rfl rfl ?_
      refine zi_iload (pc' := 15) rfl rfl rfl ?_
      refine zi_bipush (pc' := 17) rfl rfl (by decide) ?_
      refine zi_idiv (pc' := 18) rfl rfl o1 (by decide) (by decide) ?_
      refine zi_iadd (pc' := 19) rfl rfl ?_
      refine zi_iconst (pc' := 20) rfl rfl ?_
      refine zi_iadd (pc' := 21) rfl rfl ?_
      refine zi_istore (pc' := 23) [none, none, some _, some _, some _] rfl rfl rfl ?_
      refine zi_iload_n (pc' := 24) rfl rfl rfl ?_
      refine zi_iconst (pc' := 25) rfl rfl ?_
      refine zi_iadd (pc' := 26) rfl rfl ?_
      refine zi_istore_n (pc' := 27) [none, none, some _, some _, some _] rfl rfl rfl ?_
      refine zi_goto (x := 5) rfl ?_
      exact zi_wk (s_M_leansFrom_l5_r hd hK30 f h) (And.intro rfl (And.intro rfl (And.intro rfl trivial)))
set_option maxRecDepth 100000 in
theorem s_M_leansFrom_l5 {E : sx_E} {d : Nat} (hd : 1 ≤ d) {l2 : Int} {K30 : Int → zi_M → Prop} {Q : Int → zi_M → Prop} {l3 : Int} {l4 : Int} {g : zi_M} (h : ∃ f, w_M_leansFrom_l5 l2 K30 Q f l3 l4 g) (hK30 : ∀ (k3 : Int) (g : zi_M), K30 k3 g → zi_W E d 314 30 [none, none, some (zi_i l2), some (zi_i k3), none] [] g (zi_Q Q)) : zi_W E d 314 5 [none, none, some (zi_i l2), some (zi_i l3), some (zi_i l4)] [] g (zi_Q Q) := by
  obtain ⟨f, h⟩ := h
  exact s_M_leansFrom_l5_r hd hK30 f h
set_option maxRecDepth 100000 in
theorem s_M_leansFrom {E : sx_E} {d : Nat} (hd : 1 ≤ d) {l1 : Int} {l2 : Int} {g : zi_M} {Q : Int → zi_M → Prop} (h : w_M_leansFrom l1 l2 g Q) : zi_S E d 314 [.ref 214, zi_i l1, zi_i l2] g (zi_Q Q) := by
  refine zi_Sof jf_314 [some (.ref 214), some (zi_i l1), some (zi_i l2), none, none] rfl (And.intro rfl (And.intro rfl (And.intro rfl trivial))) ?_
  unfold w_M_leansFrom at h
  refine zi_iconst (pc' := 1) rfl rfl ?_
  refine zi_istore_n (pc' := 2) [some _, some _, some _, some _, none] rfl rfl rfl ?_
  refine zi_iload_n (pc' := 3) rfl rfl rfl ?_
  refine zi_istore (pc' := 5) [some _, some _, some _, some _, some _] rfl rfl rfl ?_
  refine zi_wk (s_M_leansFrom_l5 hd h (fun k4 g5 h => ?_)) (And.intro rfl (And.intro rfl (And.intro rfl trivial)))
  refine zi_iload_n (pc' := 31) rfl rfl rfl ?_
  exact zi_iret rfl rfl h
-- SpoutNewsModel.leans(I)I
noncomputable def w_M_leans_l22 (l1 : Int) (K53 : Int → zi_M → Prop) (Q : Int → zi_M → Prop) : Nat → Int → Int → zi_M → Prop
  | 0, _, _, _ => False
  | f + 1, l2, l3, g => (zi_r l3 ∧ zi_r (g 214 6) ∧ (((g 214 6) ≤ l3 → K53 l2 g) ∧ (l3 < (g 214 6) → ((0 ≤ l3 ∧ l3 < 10) ∧ w_M_leansFrom (g 220 l3) l1 g (fun v8 g9 => w_M_greater l2 v8 g9 (fun v11 g12 => w_M_leans_l22 l1 K53 Q f v11 (l3 + 1) g12))))))
noncomputable def w_M_leans (l1 : Int) (g : zi_M) (Q : Int → zi_M → Prop) : Prop := (∀ g1, g1 = zi_u g 214 0 0 → w_M_isIn l1 1 99 g1 (fun v2 g3 => ((¬ v2 = 0 → (∃ f17, w_M_leans_l22 l1 (fun k15 g16 => Q k15 g16) Q f17 0 0 g3)) ∧ (v2 = 0 → Q (-1) g3))))
set_option maxRecDepth 100000 in
theorem s_M_leans_l22_r {E : sx_E} {d : Nat} (hd : 2 ≤ d) {l1 : Int} {K53 : Int → zi_M → Prop} {Q : Int → zi_M → Prop} (hK53 : ∀ (k2 : Int) (g : zi_M), K53 k2 g → zi_W E d 313 53 [some (.ref 214), some (zi_i l1), some (zi_i k2), none] [] g (zi_Q Q)) : ∀ (f : Nat) {l2 : Int} {l3 : Int} {g : zi_M}, w_M_leans_l22 l1 K53 Q f l2 l3 g → zi_W E d 313 22 [some (.ref 214), some (zi_i l1), some (zi_i l2), some (zi_i l3)] [] g (zi_Q Q)
  | 0, _, _, _, h => False.elim h
  | f + 1, l2, l3, g, h => by
    refine zi_iload_n (pc' := 23) rfl rfl rfl ?_
    refine zi_aload_n (pc' := 24) rfl rfl rfl ?_
    refine zi_geti (pc' := 27) 6 rfl rfl rfl rfl rfl rfl ?_
    obtain ⟨o5, o6, h⟩ := h
    refine zi_icmp_ge (x := 53) (pc' := 30) rfl rfl o5 o6 (fun c14 => ?_) (fun c14 => ?_)
    · replace h := h.1 c14
      exact zi_wk (hK53 _ _ h) (And.intro rfl (And.intro rfl (And.intro rfl trivial)))
    · replace h := h.2 c14
      refine zi_aload_n (pc' := 31) rfl rfl rfl ?_
      refine zi_iload_n (pc' := 32) rfl rfl rfl ?_
      refine zi_aload_n (pc' := 33) rfl rfl rfl ?_
      refine zi_aload_n (pc' := 34) rfl rfl rfl ?_
      refine zi_getr (pc' := 37) rfl rfl rfl rfl rfl ?_
      refine zi_iload_n (pc' := 38) rfl rfl rfl ?_
      obtain ⟨o7, h⟩ := h
      refine zi_iald (pc' := 39) rfl rfl rfl o7 ?_
      refine zi_iload_n (pc' := 40) rfl rfl rfl ?_
      refine zi_callV (d' := 1) (as := [_, _]) (pc' := 43) rfl rfl rfl rfl (Nat.lt_of_lt_of_le (by decide) hd) (s_M_leansFrom (Nat.le_refl _) h) (zi_ki (fun v8 g9 h => ?_))
      refine zi_callV (d' := 1) (as := [_, _]) (pc' := 46) rfl rfl rfl rfl (Nat.lt_of_lt_of_le (by decide) hd) (s_M_greater (Nat.le_refl _) h) (zi_ki (fun v11 g12 h => ?_))
      refine zi_istore_n (pc' := 47) [some _, some _, some _, some _] rfl rfl rfl ?_
      refine zi_iinc (pc' := 50) [some _, some _, some _, some _] rfl rfl rfl rfl ?_
      refine zi_goto (x := 22) rfl ?_
      exact zi_wk (s_M_leans_l22_r hd hK53 f h) (And.intro rfl (And.intro rfl (And.intro rfl (And.intro rfl trivial))))
set_option maxRecDepth 100000 in
theorem s_M_leans_l22 {E : sx_E} {d : Nat} (hd : 2 ≤ d) {l1 : Int} {K53 : Int → zi_M → Prop} {Q : Int → zi_M → Prop} {l2 : Int} {l3 : Int} {g : zi_M} (h : ∃ f, w_M_leans_l22 l1 K53 Q f l2 l3 g) (hK53 : ∀ (k2 : Int) (g : zi_M), K53 k2 g → zi_W E d 313 53 [some (.ref 214), some (zi_i l1), some (zi_i k2), none] [] g (zi_Q Q)) : zi_W E d 313 22 [some (.ref 214), some (zi_i l1), some (zi_i l2), some (zi_i l3)] [] g (zi_Q Q) := by
  obtain ⟨f, h⟩ := h
  exact s_M_leans_l22_r hd hK53 f h
set_option maxRecDepth 100000 in
theorem s_M_leans {E : sx_E} {d : Nat} (hd : 2 ≤ d) {l1 : Int} {g : zi_M} {Q : Int → zi_M → Prop} (h : w_M_leans l1 g Q) : zi_S E d 313 [.ref 214, zi_i l1] g (zi_Q Q) := by
  refine zi_Sof jf_313 [some (.ref 214), some (zi_i l1), none, none] rfl (And.intro rfl (And.intro rfl trivial)) ?_
  unfold w_M_leans at h
  refine zi_aload_n (pc' := 1) rfl rfl rfl ?_
  refine zi_iconst (pc' := 2) rfl rfl ?_
  refine zi_puti (pc' := 5) 0 rfl rfl rfl rfl rfl  ?_
  replace h := h _ rfl
  refine zi_aload_n (pc' := 6) rfl rfl rfl ?_
  refine zi_iload_n (pc' := 7) rfl rfl rfl ?_
  refine zi_iconst (pc' := 8) rfl rfl ?_
  refine zi_bipush (pc' := 10) rfl rfl (by decide) ?_
  refine zi_callV (d' := 1) (as := [_, _, _]) (pc' := 13) rfl rfl rfl rfl (Nat.lt_of_lt_of_le (by decide) hd) (s_M_isIn (Nat.le_refl _) h) (zi_kb (fun v2 g3 b4 h => ?_))
  refine zi_if_ne (x := 18) (pc' := 16) rfl rfl (zi_r_bit b4)  (fun c18 => ?_) (fun c18 => ?_)
  · replace h := h.1 c18
    refine zi_iconst (pc' := 19) rfl rfl ?_
    refine zi_istore_n (pc' := 20) [some _, some _, some _, none] rfl rfl rfl ?_
    refine zi_iconst (pc' := 21) rfl rfl ?_
    refine zi_istore_n (pc' := 22) [some _, some _, some _, some _] rfl rfl rfl ?_
    refine zi_wk (s_M_leans_l22 hd h (fun k15 g16 h => ?_)) (And.intro rfl (And.intro rfl (And.intro rfl (And.intro rfl trivial))))
    refine zi_iload_n (pc' := 54) rfl rfl rfl ?_
    exact zi_iret rfl rfl h
  · replace h := h.2 c18
    refine zi_iconst (pc' := 17) rfl rfl ?_
    exact zi_iret rfl rfl h
-- SpoutNews.chapter(I)I
noncomputable def w_S_chapter (l1 : Int) (g : zi_M) (Q : Int → zi_M → Prop) : Prop := (zi_r l1 ∧ ((¬ l1 = (-1) → ((l1 < 1 → Q (-1) g) ∧ (1 ≤ l1 → ((60 < l1 → Q (-1) g) ∧ (l1 ≤ 60 → (zi_r (g 36 12) ∧ (((g 36 12) < 12 → ((0 ≤ (g 36 12) ∧ (g 36 12) < 12) ∧ (∀ g4, g4 = zi_u g 45 (g 36 12) l1 → (∀ g5, g5 = zi_u g4 36 12 ((g4 36 12) + 1) → Q (g5 36 12) g5)))) ∧ (12 ≤ (g 36 12) → Q (-1) g)))))))) ∧ (l1 = (-1) → (∀ g9, g9 = zi_u g 36 12 0 → Q 0 g9))))
set_option maxRecDepth 100000 in
theorem s_S_chapter {E : sx_E} {d : Nat} (hd : 1 ≤ d) {l1 : Int} {g : zi_M} {Q : Int → zi_M → Prop} (h : w_S_chapter l1 g Q) : zi_S E d 169 [.ref 0, zi_i l1] g (zi_Q Q) := by
  refine zi_Sof jf_169 [some (.ref 0), some (zi_i l1), none] rfl (And.intro rfl (And.intro rfl trivial)) ?_
  unfold w_S_chapter at h
  refine zi_aload_n (pc' := 1) rfl rfl rfl ?_
  refine zi_getr (pc' := 4) rfl rfl rfl rfl rfl ?_
  refine zi_getr (pc' := 7) rfl rfl rfl rfl rfl ?_
  refine zi_astore_n (pc' := 8) [some _, some _, some _] rfl rfl rfl ?_
  refine zi_iload_n (pc' := 9) rfl rfl rfl ?_
  refine zi_iconst (pc' := 10) rfl rfl ?_
  obtain ⟨o1, h⟩ := h
  refine zi_icmp_ne (x := 20) (pc' := 13) rfl rfl o1 (by decide) (fun c10 => ?_) (fun c10 => ?_)
  · replace h := h.1 c10
    refine zi_iload_n (pc' := 21) rfl rfl rfl ?_
    refine zi_iconst (pc' := 22) rfl rfl ?_
    refine zi_icmp_lt (x := 40) (pc' := 25) rfl rfl o1 (by decide) (fun c8 => ?_) (fun c8 => ?_)
    · replace h := h.1 c8
      refine zi_iconst (pc' := 41) rfl rfl ?_
      exact zi_iret rfl rfl h
    · replace h := h.2 c8
      refine zi_iload_n (pc' := 26) rfl rfl rfl ?_
      refine zi_bipush (pc' := 28) rfl rfl (by decide) ?_
      refine zi_icmp_gt (x := 40) (pc' := 31) rfl rfl o1 (by decide) (fun c7 => ?_) (fun c7 => ?_)
      · replace h := h.1 c7
        refine zi_iconst (pc' := 41) rfl rfl ?_
        exact zi_iret rfl rfl h
      · replace h := h.2 c7
        refine zi_aload_n (pc' := 32) rfl rfl rfl ?_
        refine zi_geti (pc' := 35) 12 rfl rfl rfl rfl rfl rfl ?_
        refine zi_bipush (pc' := 37) rfl rfl (by decide) ?_
        obtain ⟨o2, h⟩ := h
        refine zi_icmp_lt (x := 42) (pc' := 40) rfl rfl o2 (by decide) (fun c6 => ?_) (fun c6 => ?_)
        · replace h := h.1 c6
          refine zi_aload_n (pc' := 43) rfl rfl rfl ?_
          refine zi_getr (pc' := 46) rfl rfl rfl rfl rfl ?_
          refine zi_aload_n (pc' := 47) rfl rfl rfl ?_
          refine zi_geti (pc' := 50) 12 rfl rfl rfl rfl rfl rfl ?_
          refine zi_iload_n (pc' := 51) rfl rfl rfl ?_
          obtain ⟨o3, h⟩ := h
          refine zi_iast (pc' := 52) rfl rfl rfl o3 ?_
          replace h := h _ rfl
          refine zi_aload_n (pc' := 53) rfl rfl rfl ?_
          refine zi_dup (pc' := 54) rfl rfl rfl ?_
          refine zi_geti (pc' := 57) 12 rfl rfl rfl rfl rfl rfl ?_
          refine zi_iconst (pc' := 58) rfl rfl ?_
          refine zi_iadd (pc' := 59) rfl rfl ?_
          refine zi_puti (pc' := 62) 12 rfl rfl rfl rfl rfl  ?_
          replace h := h _ rfl
          refine zi_aload_n (pc' := 63) rfl rfl rfl ?_
          refine zi_geti (pc' := 66) 12 rfl rfl rfl rfl rfl rfl ?_
          exact zi_iret rfl rfl h
        · replace h := h.2 c6
          refine zi_iconst (pc' := 41) rfl rfl ?_
          exact zi_iret rfl rfl h
  · replace h := h.2 c10
    refine zi_aload_n (pc' := 14) rfl rfl rfl ?_
    refine zi_iconst (pc' := 15) rfl rfl ?_
    refine zi_puti (pc' := 18) 12 rfl rfl rfl rfl rfl  ?_
    replace h := h _ rfl
    refine zi_iconst (pc' := 19) rfl rfl ?_
    exact zi_iret rfl rfl h
-- SpoutNewsModel.chapter(I)I
noncomputable def w_M_chapter (l1 : Int) (g : zi_M) (Q : Int → zi_M → Prop) : Prop := (∀ g1, g1 = zi_u g 214 0 0 → (zi_r l1 ∧ ((¬ l1 = (-1) → w_M_isIn l1 1 60 g1 (fun v3 g4 => ((v3 = 0 → Q (-1) g4) ∧ (¬ v3 = 0 → (zi_r (g4 214 58) ∧ ((¬ (g4 214 58) = 12 → ((0 ≤ (g4 214 58) ∧ (g4 214 58) < 12) ∧ (∀ g8, g8 = zi_u g4 248 (g4 214 58) l1 → (∀ g9, g9 = zi_u g8 214 58 ((g8 214 58) + 1) → Q (g9 214 58) g9)))) ∧ ((g4 214 58) = 12 → Q (-1) g4))))))) ∧ (l1 = (-1) → (∀ g12, g12 = zi_u g1 214 58 0 → Q 0 g12)))))
set_option maxRecDepth 100000 in
theorem s_M_chapter {E : sx_E} {d : Nat} (hd : 2 ≤ d) {l1 : Int} {g : zi_M} {Q : Int → zi_M → Prop} (h : w_M_chapter l1 g Q) : zi_S E d 315 [.ref 214, zi_i l1] g (zi_Q Q) := by
  refine zi_Sof jf_315 [some (.ref 214), some (zi_i l1)] rfl (And.intro rfl (And.intro rfl trivial)) ?_
  unfold w_M_chapter at h
  refine zi_aload_n (pc' := 1) rfl rfl rfl ?_
  refine zi_iconst (pc' := 2) rfl rfl ?_
  refine zi_puti (pc' := 5) 0 rfl rfl rfl rfl rfl  ?_
  replace h := h _ rfl
  refine zi_iload_n (pc' := 6) rfl rfl rfl ?_
  refine zi_iconst (pc' := 7) rfl rfl ?_
  obtain ⟨o2, h⟩ := h
  refine zi_icmp_ne (x := 17) (pc' := 10) rfl rfl o2 (by decide) (fun c13 => ?_) (fun c13 => ?_)
  · replace h := h.1 c13
    refine zi_aload_n (pc' := 18) rfl rfl rfl ?_
    refine zi_iload_n (pc' := 19) rfl rfl rfl ?_
    refine zi_iconst (pc' := 20) rfl rfl ?_
    refine zi_bipush (pc' := 22) rfl rfl (by decide) ?_
    refine zi_callV (d' := 1) (as := [_, _, _]) (pc' := 25) rfl rfl rfl rfl (Nat.lt_of_lt_of_le (by decide) hd) (s_M_isIn (Nat.le_refl _) h) (zi_kb (fun v3 g4 b5 h => ?_))
    refine zi_if_eq (x := 37) (pc' := 28) rfl rfl (zi_r_bit b5)  (fun c11 => ?_) (fun c11 => ?_)
    · replace h := h.1 c11
      refine zi_iconst (pc' := 38) rfl rfl ?_
      exact zi_iret rfl rfl h
    · replace h := h.2 c11
      refine zi_aload_n (pc' := 29) rfl rfl rfl ?_
      refine zi_geti (pc' := 32) 58 rfl rfl rfl rfl rfl rfl ?_
      refine zi_bipush (pc' := 34) rfl rfl (by decide) ?_
      obtain ⟨o6, h⟩ := h
      refine zi_icmp_ne (x := 39) (pc' := 37) rfl rfl o6 (by decide) (fun c10 => ?_) (fun c10 => ?_)
      · replace h := h.1 c10
        refine zi_aload_n (pc' := 40) rfl rfl rfl ?_
        refine zi_getr (pc' := 43) rfl rfl rfl rfl rfl ?_
        refine zi_aload_n (pc' := 44) rfl rfl rfl ?_
        refine zi_geti (pc' := 47) 58 rfl rfl rfl rfl rfl rfl ?_
        refine zi_iload_n (pc' := 48) rfl rfl rfl ?_
        obtain ⟨o7, h⟩ := h
        refine zi_iast (pc' := 49) rfl rfl rfl o7 ?_
        replace h := h _ rfl
        refine zi_aload_n (pc' := 50) rfl rfl rfl ?_
        refine zi_aload_n (pc' := 51) rfl rfl rfl ?_
        refine zi_geti (pc' := 54) 58 rfl rfl rfl rfl rfl rfl ?_
        refine zi_iconst (pc' := 55) rfl rfl ?_
        refine zi_iadd (pc' := 56) rfl rfl ?_
        refine zi_puti (pc' := 59) 58 rfl rfl rfl rfl rfl  ?_
        replace h := h _ rfl
        refine zi_aload_n (pc' := 60) rfl rfl rfl ?_
        refine zi_geti (pc' := 63) 58 rfl rfl rfl rfl rfl rfl ?_
        exact zi_iret rfl rfl h
      · replace h := h.2 c10
        refine zi_iconst (pc' := 38) rfl rfl ?_
        exact zi_iret rfl rfl h
  · replace h := h.2 c13
    refine zi_aload_n (pc' := 11) rfl rfl rfl ?_
    refine zi_iconst (pc' := 12) rfl rfl ?_
    refine zi_puti (pc' := 15) 58 rfl rfl rfl rfl rfl  ?_
    replace h := h _ rfl
    refine zi_iconst (pc' := 16) rfl rfl ?_
    exact zi_iret rfl rfl h
-- SpoutNews$Thought.storm(II)I
noncomputable def w_Thought_storm (l0 : Int) (l1 : Int) (g : zi_M) (Q : Int → zi_M → Prop) : Prop := Q ((l0 * 13) + l1) g
set_option maxRecDepth 100000 in
theorem s_Thought_storm {E : sx_E} {d : Nat} (hd : 1 ≤ d) {l0 : Int} {l1 : Int} {g : zi_M} {Q : Int → zi_M → Prop} (h : w_Thought_storm l0 l1 g Q) : zi_S E d 172 [zi_i l0, zi_i l1] g (zi_Q Q) := by
  refine zi_Sof jf_172 [some (zi_i l0), some (zi_i l1)] rfl (And.intro rfl (And.intro rfl trivial)) ?_
  unfold w_Thought_storm at h
  refine zi_iload_n (pc' := 1) rfl rfl rfl ?_
  refine zi_bipush (pc' := 3) rfl rfl (by decide) ?_
  refine zi_imul (pc' := 4) rfl rfl ?_
  refine zi_iload_n (pc' := 5) rfl rfl rfl ?_
  refine zi_iadd (pc' := 6) rfl rfl ?_
  exact zi_iret rfl rfl h
-- SpoutNews$Told.minutes(II)I
noncomputable def w_Told_minutes_l5 (l2 : Int) (K36 : Int → zi_M → Prop) (Q : Int → zi_M → Prop) : Nat → Int → Int → zi_M → Prop
  | 0, _, _, _ => False
  | f + 1, l3, l4, g => (zi_r l4 ∧ zi_r l2 ∧ ((l2 ≤ l4 → K36 l3 g) ∧ (l4 < l2 → (zi_r (g 36 12) ∧ (((g 36 12) ≤ l4 → K36 l3 g) ∧ (l4 < (g 36 12) → ((0 ≤ l4 ∧ l4 < 12) ∧ w_Told_minutes_l5 l2 K36 Q f (l3 + (g 45 l4)) (l4 + 1) g)))))))
noncomputable def w_Told_minutes (l1 : Int) (l2 : Int) (g : zi_M) (Q : Int → zi_M → Prop) : Prop := (∃ f9, w_Told_minutes_l5 l2 (fun k7 g8 => Q k7 g8) Q f9 0 l1 g)
set_option maxRecDepth 100000 in
theorem s_Told_minutes_l5_r {E : sx_E} {d : Nat} (hd : 1 ≤ d) {l2 : Int} {K36 : Int → zi_M → Prop} {Q : Int → zi_M → Prop} (hK36 : ∀ (k3 : Int) (g : zi_M), K36 k3 g → zi_W E d 173 36 [some (.ref 36), none, some (zi_i l2), some (zi_i k3), none] [] g (zi_Q Q)) : ∀ (f : Nat) {l3 : Int} {l4 : Int} {g : zi_M}, w_Told_minutes_l5 l2 K36 Q f l3 l4 g → zi_W E d 173 5 [some (.ref 36), none, some (zi_i l2), some (zi_i l3), some (zi_i l4)] [] g (zi_Q Q)
  | 0, _, _, _, h => False.elim h
  | f + 1, l3, l4, g, h => by
    refine zi_iload (pc' := 7) rfl rfl rfl ?_
    refine zi_iload_n (pc' := 8) rfl rfl rfl ?_
    obtain ⟨o1, o2, h⟩ := h
    refine zi_icmp_ge (x := 36) (pc' := 11) rfl rfl o1 o2 (fun c6 => ?_) (fun c6 => ?_)
    · replace h := h.1 c6
      exact zi_wk (hK36 _ _ h) (And.intro rfl (And.intro rfl (And.intro rfl trivial)))
    · replace h := h.2 c6
      refine zi_iload (pc' := 13) rfl rfl rfl ?_
      refine zi_aload_n (pc' := 14) rfl rfl rfl ?_
      refine zi_geti (pc' := 17) 12 rfl rfl rfl rfl rfl rfl ?_
      obtain ⟨o3, h⟩ := h
      refine zi_icmp_ge (x := 36) (pc' := 20) rfl rfl o1 o3 (fun c5 => ?_) (fun c5 => ?_)
      · replace h := h.1 c5
        exact zi_wk (hK36 _ _ h) (And.intro rfl (And.intro rfl (And.intro rfl trivial)))
      · replace h := h.2 c5
        refine zi_iload_n (pc' := 21) rfl rfl rfl ?_
        refine zi_aload_n (pc' := 22) rfl rfl rfl ?_
        refine zi_getr (pc' := 25) rfl rfl rfl rfl rfl ?_
        refine zi_iload (pc' := 27) rfl rfl rfl ?_
        obtain ⟨o4, h⟩ := h
        refine zi_iald (pc' := 28) rfl rfl rfl o4 ?_
        refine zi_iadd (pc' := 29) rfl rfl ?_
        refine zi_istore_n (pc' := 30) [some _, none, some _, some _, some _] rfl rfl rfl ?_
        refine zi_iinc (pc' := 33) [some _, none, some _, some _, some _] rfl rfl rfl rfl ?_
        refine zi_goto (x := 5) rfl ?_
        exact zi_wk (s_Told_minutes_l5_r hd hK36 f h) (And.intro rfl (And.intro rfl (And.intro rfl (And.intro rfl trivial))))
set_option maxRecDepth 100000 in
theorem s_Told_minutes_l5 {E : sx_E} {d : Nat} (hd : 1 ≤ d) {l2 : Int} {K36 : Int → zi_M → Prop} {Q : Int → zi_M → Prop} {l3 : Int} {l4 : Int} {g : zi_M} (h : ∃ f, w_Told_minutes_l5 l2 K36 Q f l3 l4 g) (hK36 : ∀ (k3 : Int) (g : zi_M), K36 k3 g → zi_W E d 173 36 [some (.ref 36), none, some (zi_i l2), some (zi_i k3), none] [] g (zi_Q Q)) : zi_W E d 173 5 [some (.ref 36), none, some (zi_i l2), some (zi_i l3), some (zi_i l4)] [] g (zi_Q Q) := by
  obtain ⟨f, h⟩ := h
  exact s_Told_minutes_l5_r hd hK36 f h
set_option maxRecDepth 100000 in
theorem s_Told_minutes {E : sx_E} {d : Nat} (hd : 1 ≤ d) {l1 : Int} {l2 : Int} {g : zi_M} {Q : Int → zi_M → Prop} (h : w_Told_minutes l1 l2 g Q) : zi_S E d 173 [.ref 36, zi_i l1, zi_i l2] g (zi_Q Q) := by
  refine zi_Sof jf_173 [some (.ref 36), some (zi_i l1), some (zi_i l2), none, none] rfl (And.intro rfl (And.intro rfl (And.intro rfl trivial))) ?_
  unfold w_Told_minutes at h
  refine zi_iconst (pc' := 1) rfl rfl ?_
  refine zi_istore_n (pc' := 2) [some _, some _, some _, some _, none] rfl rfl rfl ?_
  refine zi_iload_n (pc' := 3) rfl rfl rfl ?_
  refine zi_istore (pc' := 5) [some _, some _, some _, some _, some _] rfl rfl rfl ?_
  refine zi_wk (s_Told_minutes_l5 hd h (fun k7 g8 h => ?_)) (And.intro rfl (And.intro rfl (And.intro rfl (And.intro rfl trivial))))
  refine zi_iload_n (pc' := 37) rfl rfl rfl ?_
  exact zi_iret rfl rfl h
-- SpoutNews$Thought.greatestSum(LSpoutNews$Told;III)I
noncomputable def w_Thought_greatestSum (l2 : Int) (l3 : Int) (l4 : Int) (g : zi_M) (Q : Int → zi_M → Prop) : Prop := w_Told_minutes l3 l4 g (fun v1 g2 => w_Thought_storm (l2 - 1) l4 g2 (fun v4 g5 => ((0 ≤ v4 ∧ v4 < 91) ∧ (zi_r v1 ∧ zi_r (g5 189 v4) ∧ Q (max v1 (g5 189 v4)) g5))))
set_option maxRecDepth 100000 in
theorem s_Thought_greatestSum {E : sx_E} {d : Nat} (hd : 2 ≤ d) {l2 : Int} {l3 : Int} {l4 : Int} {g : zi_M} {Q : Int → zi_M → Prop} (h : w_Thought_greatestSum l2 l3 l4 g Q) : zi_S E d 174 [.ref 180, .ref 36, zi_i l2, zi_i l3, zi_i l4] g (zi_Q Q) := by
  refine zi_Sof jf_174 [some (.ref 180), some (.ref 36), some (zi_i l2), some (zi_i l3), some (zi_i l4)] rfl (And.intro rfl (And.intro rfl (And.intro rfl (And.intro rfl (And.intro rfl trivial))))) ?_
  unfold w_Thought_greatestSum at h
  refine zi_aload_n (pc' := 1) rfl rfl rfl ?_
  refine zi_iload_n (pc' := 2) rfl rfl rfl ?_
  refine zi_iload (pc' := 4) rfl rfl rfl ?_
  refine zi_callV (d' := 1) (as := [_, _]) (pc' := 7) rfl rfl rfl rfl (Nat.lt_of_lt_of_le (by decide) hd) (s_Told_minutes (Nat.le_refl _) h) (zi_ki (fun v1 g2 h => ?_))
  refine zi_aload_n (pc' := 8) rfl rfl rfl ?_
  refine zi_getr (pc' := 11) rfl rfl rfl rfl rfl ?_
  refine zi_iload_n (pc' := 12) rfl rfl rfl ?_
  refine zi_iconst (pc' := 13) rfl rfl ?_
  refine zi_isub (pc' := 14) rfl rfl ?_
  refine zi_iload (pc' := 16) rfl rfl rfl ?_
  refine zi_callS (d' := 1) (as := [_, _]) (pc' := 19) rfl rfl rfl (Nat.lt_of_lt_of_le (by decide) hd) (s_Thought_storm (Nat.le_refl _) h) (zi_ki (fun v4 g5 h => ?_))
  obtain ⟨o7, h⟩ := h
  refine zi_iald (pc' := 20) rfl rfl rfl o7 ?_
  obtain ⟨o8, o9, h⟩ := h
  refine zi_max (pc' := 23) rfl rfl o8 o9 (Nat.le_trans (by decide) hd) rfl ?_
  exact zi_iret rfl rfl h
-- SpoutNews$Thought.readInStorms(LSpoutNews$Told;I)V
noncomputable def w_Thought_readInStorms_l2 (K35 : zi_M → Prop) (Q : Int → zi_M → Prop) : Nat → Int → zi_M → Prop
  | 0, _, _ => False
  | f + 1, l3, g => (zi_r l3 ∧ zi_r (g 36 12) ∧ (((g 36 12) < l3 → K35 g) ∧ (l3 ≤ (g 36 12) → w_Thought_storm 1 l3 g (fun v3 g4 => w_Told_minutes l3 (g4 36 12) g4 (fun v6 g7 => ((0 ≤ v3 ∧ v3 < 91) ∧ (∀ g10, g10 = zi_u g7 189 v3 v6 → w_Thought_readInStorms_l2 K35 Q f (l3 + 1) g10)))))))
noncomputable def w_Thought_readInStorms_l73 (l3 : Int) (l4 : Int) (K109 : Int → zi_M → Prop) (Q : Int → zi_M → Prop) : Nat → Int → Int → zi_M → Prop
  | 0, _, _, _ => False
  | f + 1, l5, l6, g => (zi_r l6 ∧ zi_r (((g 36 12) - l3) + 1) ∧ (((((g 36 12) - l3) + 1) < l6 → K109 l5 g) ∧ (l6 ≤ (((g 36 12) - l3) + 1) → w_Thought_greatestSum l3 l4 l6 g (fun v22 g23 => (zi_r l5 ∧ zi_r v22 ∧ w_Thought_readInStorms_l73 l3 l4 K109 Q f (min l5 v22) (l6 + 1) g23)))))
noncomputable def w_Thought_readInStorms_l45 (l3 : Int) (K128 : zi_M → Prop) (Q : Int → zi_M → Prop) : Nat → Int → zi_M → Prop
  | 0, _, _ => False
  | f + 1, l4, g => (zi_r l4 ∧ zi_r ((g 36 12) - l3) ∧ ((((g 36 12) - l3) < l4 → K128 g) ∧ (l4 ≤ ((g 36 12) - l3) → w_Told_minutes 0 (g 36 12) g (fun v17 g18 => (∃ f35, w_Thought_readInStorms_l73 l3 l4 (fun k28 g29 => w_Thought_storm l3 l4 g29 (fun v30 g31 => ((0 ≤ v30 ∧ v30 < 91) ∧ (∀ g34, g34 = zi_u g31 189 v30 k28 → w_Thought_readInStorms_l45 l3 K128 Q f (l4 + 1) g34)))) Q f35 v17 (l4 + 1) g18)))))
noncomputable def w_Thought_readInStorms_l37 (l2 : Int) (K134 : zi_M → Prop) (Q : Int → zi_M → Prop) : Nat → Int → zi_M → Prop
  | 0, _, _ => False
  | f + 1, l3, g => (zi_r l3 ∧ zi_r l2 ∧ ((l2 < l3 → K134 g) ∧ (l3 ≤ l2 → (∃ f38, w_Thought_readInStorms_l45 l3 (fun g37 => w_Thought_readInStorms_l37 l2 K134 Q f (l3 + 1) g37) Q f38 0 g))))
noncomputable def w_Thought_readInStorms (l2 : Int) (g : zi_M) (Q : Int → zi_M → Prop) : Prop := (∃ f42, w_Thought_readInStorms_l2 (fun g12 => (∃ f41, w_Thought_readInStorms_l37 l2 (fun g40 => Q 0 g40) Q f41 2 g12)) Q f42 0 g)
set_option maxRecDepth 100000 in
theorem s_Thought_readInStorms_l2_r {E : sx_E} {d : Nat} (hd : 3 ≤ d) {x2 : Int} {K35 : zi_M → Prop} {Q : Int → zi_M → Prop} (hK35 : ∀ (g : zi_M), K35 g → zi_W E d 171 35 [some (.ref 180), some (.ref 36), some (zi_i x2), none, none, none, none] [] g (zi_Qv Q)) : ∀ (f : Nat) {l3 : Int} {g : zi_M}, w_Thought_readInStorms_l2 K35 Q f l3 g → zi_W E d 171 2 [some (.ref 180), some (.ref 36), some (zi_i x2), some (zi_i l3), none, none, none] [] g (zi_Qv Q)
  | 0, _, _, h => False.elim h
  | f + 1, l3, g, h => by
    refine zi_iload_n (pc' := 3) rfl rfl rfl ?_
    refine zi_aload_n (pc' := 4) rfl rfl rfl ?_
    refine zi_geti (pc' := 7) 12 rfl rfl rfl rfl rfl rfl ?_
    obtain ⟨o1, o2, h⟩ := h
    refine zi_icmp_gt (x := 35) (pc' := 10) rfl rfl o1 o2 (fun c11 => ?_) (fun c11 => ?_)
    · replace h := h.1 c11
      exact zi_wk (hK35 _ h) (And.intro rfl (And.intro rfl (And.intro rfl trivial)))
    · replace h := h.2 c11
      refine zi_aload_n (pc' := 11) rfl rfl rfl ?_
      refine zi_getr (pc' := 14) rfl rfl rfl rfl rfl ?_
      refine zi_iconst (pc' := 15) rfl rfl ?_
      refine zi_iload_n (pc' := 16) rfl rfl rfl ?_
      refine zi_callS (d' := 1) (as := [_, _]) (pc' := 19) rfl rfl rfl (Nat.lt_of_lt_of_le (by decide) hd) (s_Thought_storm (Nat.le_refl _) h) (zi_ki (fun v3 g4 h => ?_))
      refine zi_aload_n (pc' := 20) rfl rfl rfl ?_
      refine zi_iload_n (pc' := 21) rfl rfl rfl ?_
      refine zi_aload_n (pc' := 22) rfl rfl rfl ?_
      refine zi_geti (pc' := 25) 12 rfl rfl rfl rfl rfl rfl ?_
      refine zi_callV (d' := 1) (as := [_, _]) (pc' := 28) rfl rfl rfl rfl (Nat.lt_of_lt_of_le (by decide) hd) (s_Told_minutes (Nat.le_refl _) h) (zi_ki (fun v6 g7 h => ?_))
      obtain ⟨o9, h⟩ := h
      refine zi_iast (pc' := 29) rfl rfl rfl o9 ?_
      replace h := h _ rfl
      refine zi_iinc (pc' := 32) [some _, some _, some _, some _, none, none, none] rfl rfl rfl rfl ?_
      refine zi_goto (x := 2) rfl ?_
      exact zi_wk (s_Thought_readInStorms_l2_r hd hK35 f h) (And.intro rfl (And.intro rfl (And.intro rfl (And.intro rfl trivial))))
set_option maxRecDepth 100000 in
theorem s_Thought_readInStorms_l2 {E : sx_E} {d : Nat} (hd : 3 ≤ d) {x2 : Int} {K35 : zi_M → Prop} {Q : Int → zi_M → Prop} {l3 : Int} {g : zi_M} (h : ∃ f, w_Thought_readInStorms_l2 K35 Q f l3 g) (hK35 : ∀ (g : zi_M), K35 g → zi_W E d 171 35 [some (.ref 180), some (.ref 36), some (zi_i x2), none, none, none, none] [] g (zi_Qv Q)) : zi_W E d 171 2 [some (.ref 180), some (.ref 36), some (zi_i x2), some (zi_i l3), none, none, none] [] g (zi_Qv Q) := by
  obtain ⟨f, h⟩ := h
  exact s_Thought_readInStorms_l2_r hd hK35 f h
set_option maxRecDepth 100000 in
theorem s_Thought_readInStorms_l73_r {E : sx_E} {d : Nat} (hd : 3 ≤ d) {l3 : Int} {l4 : Int} {x2 : Int} {K109 : Int → zi_M → Prop} {Q : Int → zi_M → Prop} (hK109 : ∀ (k5 : Int) (g : zi_M), K109 k5 g → zi_W E d 171 109 [some (.ref 180), some (.ref 36), some (zi_i x2), some (zi_i l3), some (zi_i l4), some (zi_i k5), none] [] g (zi_Qv Q)) : ∀ (f : Nat) {l5 : Int} {l6 : Int} {g : zi_M}, w_Thought_readInStorms_l73 l3 l4 K109 Q f l5 l6 g → zi_W E d 171 73 [some (.ref 180), some (.ref 36), some (zi_i x2), some (zi_i l3), some (zi_i l4), some (zi_i l5), some (zi_i l6)] [] g (zi_Qv Q)
  | 0, _, _, _, h => False.elim h
  | f + 1, l5, l6, g, h => by
    refine zi_iload (pc' := 75) rfl rfl rfl ?_
    refine zi_aload_n (pc' := 76) rfl rfl rfl ?_
    refine zi_geti (pc' := 79) 12 rfl rfl rfl rfl rfl rfl ?_
    refine zi_iload_n (pc' := 80) rfl rfl rfl ?_
    refine zi_isub (pc' := 81) rfl rfl ?_
    refine zi_iconst (pc' := 82) rfl rfl ?_
    refine zi_iadd (pc' := 83) rfl rfl ?_
    obtain ⟨o20, o21, h⟩ := h
    refine zi_icmp_gt (x := 109) (pc' := 86) rfl rfl o20 o21 (fun c27 => ?_) (fun c27 => ?_)
    · replace h := h.1 c27
      exact zi_wk (hK109 _ _ h) (And.intro rfl (And.intro rfl (And.intro rfl (And.intro rfl (And.intro rfl (And.intro rfl trivial))))))
    · replace h := h.2 c27
      refine zi_iload (pc' := 88) rfl rfl rfl ?_
      refine zi_aload_n (pc' := 89) rfl rfl rfl ?_
      refine zi_aload_n (pc' := 90) rfl rfl rfl ?_
      refine zi_iload_n (pc' := 91) rfl rfl rfl ?_
      refine zi_iload (pc' := 93) rfl rfl rfl ?_
      refine zi_iload (pc' := 95) rfl rfl rfl ?_
      refine zi_callV (d' := 2) (as := [_, _, _, _]) (pc' := 98) rfl rfl rfl rfl (Nat.lt_of_lt_of_le (by decide) hd) (s_Thought_greatestSum (Nat.le_refl _) h) (zi_ki (fun v22 g23 h => ?_))
      obtain ⟨o25, o26, h⟩ := h
      refine zi_min (pc' := 101) rfl rfl o25 o26 (Nat.le_trans (by decide) hd) rfl ?_
      refine zi_istore (pc' := 103) [some _, some _, some _, some _, some _, some _, some _] rfl rfl rfl ?_
      refine zi_iinc (pc' := 106) [some _, some _, some _, some _, some _, some _, some _] rfl rfl rfl rfl ?_
      refine zi_goto (x := 73) rfl ?_
      exact zi_wk (s_Thought_readInStorms_l73_r hd hK109 f h) (And.intro rfl (And.intro rfl (And.intro rfl (And.intro rfl (And.intro rfl (And.intro rfl (And.intro rfl trivial)))))))
set_option maxRecDepth 100000 in
theorem s_Thought_readInStorms_l73 {E : sx_E} {d : Nat} (hd : 3 ≤ d) {l3 : Int} {l4 : Int} {x2 : Int} {K109 : Int → zi_M → Prop} {Q : Int → zi_M → Prop} {l5 : Int} {l6 : Int} {g : zi_M} (h : ∃ f, w_Thought_readInStorms_l73 l3 l4 K109 Q f l5 l6 g) (hK109 : ∀ (k5 : Int) (g : zi_M), K109 k5 g → zi_W E d 171 109 [some (.ref 180), some (.ref 36), some (zi_i x2), some (zi_i l3), some (zi_i l4), some (zi_i k5), none] [] g (zi_Qv Q)) : zi_W E d 171 73 [some (.ref 180), some (.ref 36), some (zi_i x2), some (zi_i l3), some (zi_i l4), some (zi_i l5), some (zi_i l6)] [] g (zi_Qv Q) := by
  obtain ⟨f, h⟩ := h
  exact s_Thought_readInStorms_l73_r hd hK109 f h
set_option maxRecDepth 100000 in
theorem s_Thought_readInStorms_l45_r {E : sx_E} {d : Nat} (hd : 3 ≤ d) {l3 : Int} {x2 : Int} {K128 : zi_M → Prop} {Q : Int → zi_M → Prop} (hK128 : ∀ (g : zi_M), K128 g → zi_W E d 171 128 [some (.ref 180), some (.ref 36), some (zi_i x2), some (zi_i l3), none, none, none] [] g (zi_Qv Q)) : ∀ (f : Nat) {l4 : Int} {g : zi_M}, w_Thought_readInStorms_l45 l3 K128 Q f l4 g → zi_W E d 171 45 [some (.ref 180), some (.ref 36), some (zi_i x2), some (zi_i l3), some (zi_i l4), none, none] [] g (zi_Qv Q)
  | 0, _, _, h => False.elim h
  | f + 1, l4, g, h => by
    refine zi_iload (pc' := 47) rfl rfl rfl ?_
    refine zi_aload_n (pc' := 48) rfl rfl rfl ?_
    refine zi_geti (pc' := 51) 12 rfl rfl rfl rfl rfl rfl ?_
    refine zi_iload_n (pc' := 52) rfl rfl rfl ?_
    refine zi_isub (pc' := 53) rfl rfl ?_
    obtain ⟨o15, o16, h⟩ := h
    refine zi_icmp_gt (x := 128) (pc' := 56) rfl rfl o15 o16 (fun c36 => ?_) (fun c36 => ?_)
    · replace h := h.1 c36
      exact zi_wk (hK128 _ h) (And.intro rfl (And.intro rfl (And.intro rfl (And.intro rfl trivial))))
    · replace h := h.2 c36
      refine zi_aload_n (pc' := 57) rfl rfl rfl ?_
      refine zi_iconst (pc' := 58) rfl rfl ?_
      refine zi_aload_n (pc' := 59) rfl rfl rfl ?_
      refine zi_geti (pc' := 62) 12 rfl rfl rfl rfl rfl rfl ?_
      refine zi_callV (d' := 1) (as := [_, _]) (pc' := 65) rfl rfl rfl rfl (Nat.lt_of_lt_of_le (by decide) hd) (s_Told_minutes (Nat.le_refl _) h) (zi_ki (fun v17 g18 h => ?_))
      refine zi_istore (pc' := 67) [some _, some _, some _, some _, some _, some _, none] rfl rfl rfl ?_
      refine zi_iload (pc' := 69) rfl rfl rfl ?_
      refine zi_iconst (pc' := 70) rfl rfl ?_
      refine zi_iadd (pc' := 71) rfl rfl ?_
      refine zi_istore (pc' := 73) [some _, some _, some _, some _, some _, some _, some _] rfl rfl rfl ?_
      refine zi_wk (s_Thought_readInStorms_l73 hd h (fun k28 g29 h => ?_)) (And.intro rfl (And.intro rfl (And.intro rfl (And.intro rfl (And.intro rfl (And.intro rfl (And.intro rfl trivial)))))))
      refine zi_aload_n (pc' := 110) rfl rfl rfl ?_
      refine zi_getr (pc' := 113) rfl rfl rfl rfl rfl ?_
      refine zi_iload_n (pc' := 114) rfl rfl rfl ?_
      refine zi_iload (pc' := 116) rfl rfl rfl ?_
      refine zi_callS (d' := 1) (as := [_, _]) (pc' := 119) rfl rfl rfl (Nat.lt_of_lt_of_le (by decide) hd) (s_Thought_storm (Nat.le_refl _) h) (zi_ki (fun v30 g31 h => ?_))
      refine zi_iload (pc' := 121) rfl rfl rfl ?_
      obtain ⟨o33, h⟩ := h
      refine zi_iast (pc' := 122) rfl rfl rfl o33 ?_
      replace h := h _ rfl
      refine zi_iinc (pc' := 125) [some _, some _, some _, some _, some _, some _, none] rfl rfl rfl rfl ?_
      refine zi_goto (x := 45) rfl ?_
      exact zi_wk (s_Thought_readInStorms_l45_r hd hK128 f h) (And.intro rfl (And.intro rfl (And.intro rfl (And.intro rfl (And.intro rfl trivial)))))
set_option maxRecDepth 100000 in
theorem s_Thought_readInStorms_l45 {E : sx_E} {d : Nat} (hd : 3 ≤ d) {l3 : Int} {x2 : Int} {K128 : zi_M → Prop} {Q : Int → zi_M → Prop} {l4 : Int} {g : zi_M} (h : ∃ f, w_Thought_readInStorms_l45 l3 K128 Q f l4 g) (hK128 : ∀ (g : zi_M), K128 g → zi_W E d 171 128 [some (.ref 180), some (.ref 36), some (zi_i x2), some (zi_i l3), none, none, none] [] g (zi_Qv Q)) : zi_W E d 171 45 [some (.ref 180), some (.ref 36), some (zi_i x2), some (zi_i l3), some (zi_i l4), none, none] [] g (zi_Qv Q) := by
  obtain ⟨f, h⟩ := h
  exact s_Thought_readInStorms_l45_r hd hK128 f h
set_option maxRecDepth 100000 in
theorem s_Thought_readInStorms_l37_r {E : sx_E} {d : Nat} (hd : 3 ≤ d) {l2 : Int} {K134 : zi_M → Prop} {Q : Int → zi_M → Prop} (hK134 : ∀ (g : zi_M), K134 g → zi_W E d 171 134 [some (.ref 180), some (.ref 36), some (zi_i l2), none, none, none, none] [] g (zi_Qv Q)) : ∀ (f : Nat) {l3 : Int} {g : zi_M}, w_Thought_readInStorms_l37 l2 K134 Q f l3 g → zi_W E d 171 37 [some (.ref 180), some (.ref 36), some (zi_i l2), some (zi_i l3), none, none, none] [] g (zi_Qv Q)
  | 0, _, _, h => False.elim h
  | f + 1, l3, g, h => by
    refine zi_iload_n (pc' := 38) rfl rfl rfl ?_
    refine zi_iload_n (pc' := 39) rfl rfl rfl ?_
    obtain ⟨o13, o14, h⟩ := h
    refine zi_icmp_gt (x := 134) (pc' := 42) rfl rfl o13 o14 (fun c39 => ?_) (fun c39 => ?_)
    · replace h := h.1 c39
      exact zi_wk (hK134 _ h) (And.intro rfl (And.intro rfl (And.intro rfl trivial)))
    · replace h := h.2 c39
      refine zi_iconst (pc' := 43) rfl rfl ?_
      refine zi_istore (pc' := 45) [some _, some _, some _, some _, some _, none, none] rfl rfl rfl ?_
      refine zi_wk (s_Thought_readInStorms_l45 hd h (fun g37 h => ?_)) (And.intro rfl (And.intro rfl (And.intro rfl (And.intro rfl (And.intro rfl trivial)))))
      refine zi_iinc (pc' := 131) [some _, some _, some _, some _, none, none, none] rfl rfl rfl rfl ?_
      refine zi_goto (x := 37) rfl ?_
      exact zi_wk (s_Thought_readInStorms_l37_r hd hK134 f h) (And.intro rfl (And.intro rfl (And.intro rfl (And.intro rfl trivial))))
set_option maxRecDepth 100000 in
theorem s_Thought_readInStorms_l37 {E : sx_E} {d : Nat} (hd : 3 ≤ d) {l2 : Int} {K134 : zi_M → Prop} {Q : Int → zi_M → Prop} {l3 : Int} {g : zi_M} (h : ∃ f, w_Thought_readInStorms_l37 l2 K134 Q f l3 g) (hK134 : ∀ (g : zi_M), K134 g → zi_W E d 171 134 [some (.ref 180), some (.ref 36), some (zi_i l2), none, none, none, none] [] g (zi_Qv Q)) : zi_W E d 171 37 [some (.ref 180), some (.ref 36), some (zi_i l2), some (zi_i l3), none, none, none] [] g (zi_Qv Q) := by
  obtain ⟨f, h⟩ := h
  exact s_Thought_readInStorms_l37_r hd hK134 f h
set_option maxRecDepth 100000 in
theorem s_Thought_readInStorms {E : sx_E} {d : Nat} (hd : 3 ≤ d) {l2 : Int} {g : zi_M} {Q : Int → zi_M → Prop} (h : w_Thought_readInStorms l2 g Q) : zi_S E d 171 [.ref 180, .ref 36, zi_i l2] g (zi_Qv Q) := by
  refine zi_Sof jf_171 [some (.ref 180), some (.ref 36), some (zi_i l2), none, none, none, none] rfl (And.intro rfl (And.intro rfl (And.intro rfl trivial))) ?_
  unfold w_Thought_readInStorms at h
  refine zi_iconst (pc' := 1) rfl rfl ?_
  refine zi_istore_n (pc' := 2) [some _, some _, some _, some _, none, none, none] rfl rfl rfl ?_
  refine zi_wk (s_Thought_readInStorms_l2 hd h (fun g12 h => ?_)) (And.intro rfl (And.intro rfl (And.intro rfl (And.intro rfl trivial))))
  refine zi_iconst (pc' := 36) rfl rfl ?_
  refine zi_istore_n (pc' := 37) [some _, some _, some _, some _, none, none, none] rfl rfl rfl ?_
  refine zi_wk (s_Thought_readInStorms_l37 hd h (fun g40 h => ?_)) (And.intro rfl (And.intro rfl (And.intro rfl (And.intro rfl trivial))))
  exact zi_vret rfl rfl h
-- SpoutNews$Thought.leastSum(I)I
noncomputable def w_Thought_leastSum (l1 : Int) (g : zi_M) (Q : Int → zi_M → Prop) : Prop := w_Thought_storm l1 0 g (fun v1 g2 => ((0 ≤ v1 ∧ v1 < 91) ∧ Q (g2 189 v1) g2))
set_option maxRecDepth 100000 in
theorem s_Thought_leastSum {E : sx_E} {d : Nat} (hd : 2 ≤ d) {l1 : Int} {g : zi_M} {Q : Int → zi_M → Prop} (h : w_Thought_leastSum l1 g Q) : zi_S E d 175 [.ref 180, zi_i l1] g (zi_Q Q) := by
  refine zi_Sof jf_175 [some (.ref 180), some (zi_i l1)] rfl (And.intro rfl (And.intro rfl trivial)) ?_
  unfold w_Thought_leastSum at h
  refine zi_aload_n (pc' := 1) rfl rfl rfl ?_
  refine zi_getr (pc' := 4) rfl rfl rfl rfl rfl ?_
  refine zi_iload_n (pc' := 5) rfl rfl rfl ?_
  refine zi_iconst (pc' := 6) rfl rfl ?_
  refine zi_callS (d' := 1) (as := [_, _]) (pc' := 9) rfl rfl rfl (Nat.lt_of_lt_of_le (by decide) hd) (s_Thought_storm (Nat.le_refl _) h) (zi_ki (fun v1 g2 h => ?_))
  obtain ⟨o4, h⟩ := h
  refine zi_iald (pc' := 10) rfl rfl rfl o4 ?_
  exact zi_iret rfl rfl h
-- SpoutNews$Thought.secondStorm(LSpoutNews$Told;I)I
noncomputable def w_Thought_secondStorm_l2 (l2 : Int) (K35 : Int → zi_M → Prop) (K43 : zi_M → Prop) (Q : Int → zi_M → Prop) : Nat → Int → zi_M → Prop
  | 0, _, _ => False
  | f + 1, l3, g => (zi_r l2 ∧ ((l2 ≤ 1 → K43 g) ∧ (1 < l2 → (zi_r l3 ∧ zi_r (((g 36 12) - l2) + 1) ∧ (((((g 36 12) - l2) + 1) < l3 → K43 g) ∧ (l3 ≤ (((g 36 12) - l2) + 1) → w_Thought_greatestSum l2 0 l3 g (fun v4 g5 => w_Thought_leastSum l2 g5 (fun v7 g8 => (zi_r v4 ∧ zi_r v7 ∧ ((¬ v4 = v7 → w_Thought_secondStorm_l2 l2 K35 K43 Q f (l3 + 1) g8) ∧ (v4 = v7 → K35 l3 g8)))))))))))
noncomputable def w_Thought_secondStorm (l2 : Int) (g : zi_M) (Q : Int → zi_M → Prop) : Prop := (∃ f18, w_Thought_secondStorm_l2 l2 (fun k15 g16 => Q k15 g16) (fun g17 => Q (-1) g17) Q f18 1 g)
set_option maxRecDepth 100000 in
theorem s_Thought_secondStorm_l2_r {E : sx_E} {d : Nat} (hd : 3 ≤ d) {l2 : Int} {K35 : Int → zi_M → Prop} {K43 : zi_M → Prop} {Q : Int → zi_M → Prop} (hK35 : ∀ (k3 : Int) (g : zi_M), K35 k3 g → zi_W E d 176 35 [some (.ref 180), some (.ref 36), some (zi_i l2), some (zi_i k3)] [] g (zi_Q Q)) (hK43 : ∀ (g : zi_M), K43 g → zi_W E d 176 43 [some (.ref 180), some (.ref 36), some (zi_i l2), none] [] g (zi_Q Q)) : ∀ (f : Nat) {l3 : Int} {g : zi_M}, w_Thought_secondStorm_l2 l2 K35 K43 Q f l3 g → zi_W E d 176 2 [some (.ref 180), some (.ref 36), some (zi_i l2), some (zi_i l3)] [] g (zi_Q Q)
  | 0, _, _, h => False.elim h
  | f + 1, l3, g, h => by
    refine zi_iload_n (pc' := 3) rfl rfl rfl ?_
    refine zi_iconst (pc' := 4) rfl rfl ?_
    obtain ⟨o1, h⟩ := h
    refine zi_icmp_le (x := 43) (pc' := 7) rfl rfl o1 (by decide) (fun c14 => ?_) (fun c14 => ?_)
    · replace h := h.1 c14
      exact zi_wk (hK43 _ h) (And.intro rfl (And.intro rfl (And.intro rfl trivial)))
    · replace h := h.2 c14
      refine zi_iload_n (pc' := 8) rfl rfl rfl ?_
      refine zi_aload_n (pc' := 9) rfl rfl rfl ?_
      refine zi_geti (pc' := 12) 12 rfl rfl rfl rfl rfl rfl ?_
      refine zi_iload_n (pc' := 13) rfl rfl rfl ?_
      refine zi_isub (pc' := 14) rfl rfl ?_
      refine zi_iconst (pc' := 15) rfl rfl ?_
      refine zi_iadd (pc' := 16) rfl rfl ?_
      obtain ⟨o2, o3, h⟩ := h
      refine zi_icmp_gt (x := 43) (pc' := 19) rfl rfl o2 o3 (fun c13 => ?_) (fun c13 => ?_)
      · replace h := h.1 c13
        exact zi_wk (hK43 _ h) (And.intro rfl (And.intro rfl (And.intro rfl trivial)))
      · replace h := h.2 c13
        refine zi_aload_n (pc' := 20) rfl rfl rfl ?_
        refine zi_aload_n (pc' := 21) rfl rfl rfl ?_
        refine zi_iload_n (pc' := 22) rfl rfl rfl ?_
        refine zi_iconst (pc' := 23) rfl rfl ?_
        refine zi_iload_n (pc' := 24) rfl rfl rfl ?_
        refine zi_callV (d' := 2) (as := [_, _, _, _]) (pc' := 27) rfl rfl rfl rfl (Nat.lt_of_lt_of_le (by decide) hd) (s_Thought_greatestSum (Nat.le_refl _) h) (zi_ki (fun v4 g5 h => ?_))
        refine zi_aload_n (pc' := 28) rfl rfl rfl ?_
        refine zi_iload_n (pc' := 29) rfl rfl rfl ?_
        refine zi_callV (d' := 2) (as := [_]) (pc' := 32) rfl rfl rfl rfl (Nat.lt_of_lt_of_le (by decide) hd) (s_Thought_leastSum (Nat.le_refl _) h) (zi_ki (fun v7 g8 h => ?_))
        obtain ⟨o10, o11, h⟩ := h
        refine zi_icmp_ne (x := 37) (pc' := 35) rfl rfl o10 o11 (fun c12 => ?_) (fun c12 => ?_)
        · replace h := h.1 c12
          refine zi_iinc (pc' := 40) [some _, some _, some _, some _] rfl rfl rfl rfl ?_
          refine zi_goto (x := 2) rfl ?_
          exact zi_wk (s_Thought_secondStorm_l2_r hd hK35 hK43 f h) (And.intro rfl (And.intro rfl (And.intro rfl (And.intro rfl trivial))))
        · replace h := h.2 c12
          exact zi_wk (hK35 _ _ h) (And.intro rfl (And.intro rfl (And.intro rfl (And.intro rfl trivial))))
set_option maxRecDepth 100000 in
theorem s_Thought_secondStorm_l2 {E : sx_E} {d : Nat} (hd : 3 ≤ d) {l2 : Int} {K35 : Int → zi_M → Prop} {K43 : zi_M → Prop} {Q : Int → zi_M → Prop} {l3 : Int} {g : zi_M} (h : ∃ f, w_Thought_secondStorm_l2 l2 K35 K43 Q f l3 g) (hK35 : ∀ (k3 : Int) (g : zi_M), K35 k3 g → zi_W E d 176 35 [some (.ref 180), some (.ref 36), some (zi_i l2), some (zi_i k3)] [] g (zi_Q Q)) (hK43 : ∀ (g : zi_M), K43 g → zi_W E d 176 43 [some (.ref 180), some (.ref 36), some (zi_i l2), none] [] g (zi_Q Q)) : zi_W E d 176 2 [some (.ref 180), some (.ref 36), some (zi_i l2), some (zi_i l3)] [] g (zi_Q Q) := by
  obtain ⟨f, h⟩ := h
  exact s_Thought_secondStorm_l2_r hd hK35 hK43 f h
set_option maxRecDepth 100000 in
theorem s_Thought_secondStorm {E : sx_E} {d : Nat} (hd : 3 ≤ d) {l2 : Int} {g : zi_M} {Q : Int → zi_M → Prop} (h : w_Thought_secondStorm l2 g Q) : zi_S E d 176 [.ref 180, .ref 36, zi_i l2] g (zi_Q Q) := by
  refine zi_Sof jf_176 [some (.ref 180), some (.ref 36), some (zi_i l2), none] rfl (And.intro rfl (And.intro rfl (And.intro rfl trivial))) ?_
  unfold w_Thought_secondStorm at h
  refine zi_iconst (pc' := 1) rfl rfl ?_
  refine zi_istore_n (pc' := 2) [some _, some _, some _, some _] rfl rfl rfl ?_
  refine zi_wk (s_Thought_secondStorm_l2 hd h (fun k15 g16 h => ?_) (fun g17 h => ?_)) (And.intro rfl (And.intro rfl (And.intro rfl (And.intro rfl trivial))))
  · refine zi_iload_n (pc' := 36) rfl rfl rfl ?_
    exact zi_iret rfl rfl h
  · refine zi_iconst (pc' := 44) rfl rfl ?_
    exact zi_iret rfl rfl h
-- SpoutNews.read(II)I
noncomputable def w_S_read_b36 (l1 : Int) (l2 : Int) (g : zi_M) (Q : Int → zi_M → Prop) : Prop := w_Thought_readInStorms l1 g (fun _ g5 => (zi_r l2 ∧ ((¬ l2 = 0 → w_Thought_secondStorm l1 g5 (fun v8 g9 => Q v8 g9)) ∧ (l2 = 0 → w_Thought_leastSum l1 g5 (fun v11 g12 => Q v11 g12)))))
noncomputable def w_S_read (l1 : Int) (l2 : Int) (g : zi_M) (Q : Int → zi_M → Prop) : Prop := (zi_r l1 ∧ ((l1 < 1 → Q (-1) g) ∧ (1 ≤ l1 → ((6 < l1 → Q (-1) g) ∧ (l1 ≤ 6 → (zi_r (g 36 12) ∧ (((g 36 12) < l1 → Q (-1) g) ∧ (l1 ≤ (g 36 12) → (zi_r l2 ∧ ((l2 = 0 → w_S_read_b36 l1 l2 g Q) ∧ (¬ l2 = 0 → ((l2 = 1 → w_S_read_b36 l1 l2 g Q) ∧ (¬ l2 = 1 → Q (-1) g)))))))))))))
set_option maxRecDepth 100000 in
theorem s_S_read_b36 {E : sx_E} {d : Nat} (hd : 4 ≤ d) {l1 : Int} {l2 : Int} {Q : Int → zi_M → Prop} {g : zi_M} (h : w_S_read_b36 l1 l2 g Q) : zi_W E d 170 36 [some (.ref 0), some (zi_i l1), some (zi_i l2)] [] g (zi_Q Q) := by
  unfold w_S_read_b36 at h
  refine zi_aload_n (pc' := 37) rfl rfl rfl ?_
  refine zi_getr (pc' := 40) rfl rfl rfl rfl rfl ?_
  refine zi_aload_n (pc' := 41) rfl rfl rfl ?_
  refine zi_getr (pc' := 44) rfl rfl rfl rfl rfl ?_
  refine zi_getr (pc' := 47) rfl rfl rfl rfl rfl ?_
  refine zi_iload_n (pc' := 48) rfl rfl rfl ?_
  refine zi_callV (d' := 3) (as := [_, _]) (pc' := 51) rfl rfl rfl rfl (Nat.lt_of_lt_of_le (by decide) hd) (s_Thought_readInStorms (Nat.le_refl _) h) (zi_kv (fun g5 h => ?_))
  refine zi_iload_n (pc' := 52) rfl rfl rfl ?_
  obtain ⟨o7, h⟩ := h
  refine zi_if_ne (x := 66) (pc' := 55) rfl rfl o7  (fun c14 => ?_) (fun c14 => ?_)
  · replace h := h.1 c14
    refine zi_aload_n (pc' := 67) rfl rfl rfl ?_
    refine zi_getr (pc' := 70) rfl rfl rfl rfl rfl ?_
    refine zi_aload_n (pc' := 71) rfl rfl rfl ?_
    refine zi_getr (pc' := 74) rfl rfl rfl rfl rfl ?_
    refine zi_getr (pc' := 77) rfl rfl rfl rfl rfl ?_
    refine zi_iload_n (pc' := 78) rfl rfl rfl ?_
    refine zi_callV (d' := 3) (as := [_, _]) (pc' := 81) rfl rfl rfl rfl (Nat.lt_of_lt_of_le (by decide) hd) (s_Thought_secondStorm (Nat.le_refl _) h) (zi_ki (fun v8 g9 h => ?_))
    exact zi_iret rfl rfl h
  · replace h := h.2 c14
    refine zi_aload_n (pc' := 56) rfl rfl rfl ?_
    refine zi_getr (pc' := 59) rfl rfl rfl rfl rfl ?_
    refine zi_iload_n (pc' := 60) rfl rfl rfl ?_
    refine zi_callV (d' := 2) (as := [_]) (pc' := 63) rfl rfl rfl rfl (Nat.lt_of_lt_of_le (by decide) hd) (s_Thought_leastSum (Nat.le_refl _) h) (zi_ki (fun v11 g12 h => ?_))
    refine zi_goto (x := 81) rfl ?_
    exact zi_iret rfl rfl h
set_option maxRecDepth 100000 in
theorem s_S_read {E : sx_E} {d : Nat} (hd : 4 ≤ d) {l1 : Int} {l2 : Int} {g : zi_M} {Q : Int → zi_M → Prop} (h : w_S_read l1 l2 g Q) : zi_S E d 170 [.ref 0, zi_i l1, zi_i l2] g (zi_Q Q) := by
  refine zi_Sof jf_170 [some (.ref 0), some (zi_i l1), some (zi_i l2)] rfl (And.intro rfl (And.intro rfl (And.intro rfl trivial))) ?_
  unfold w_S_read at h
  refine zi_iload_n (pc' := 1) rfl rfl rfl ?_
  refine zi_iconst (pc' := 2) rfl rfl ?_
  obtain ⟨o1, h⟩ := h
  refine zi_icmp_lt (x := 34) (pc' := 5) rfl rfl o1 (by decide) (fun c19 => ?_) (fun c19 => ?_)
  · replace h := h.1 c19
    refine zi_iconst (pc' := 35) rfl rfl ?_
    exact zi_iret rfl rfl h
  · replace h := h.2 c19
    refine zi_iload_n (pc' := 6) rfl rfl rfl ?_
    refine zi_bipush (pc' := 8) rfl rfl (by decide) ?_
    refine zi_icmp_gt (x := 34) (pc' := 11) rfl rfl o1 (by decide) (fun c18 => ?_) (fun c18 => ?_)
    · replace h := h.1 c18
      refine zi_iconst (pc' := 35) rfl rfl ?_
      exact zi_iret rfl rfl h
    · replace h := h.2 c18
      refine zi_iload_n (pc' := 12) rfl rfl rfl ?_
      refine zi_aload_n (pc' := 13) rfl rfl rfl ?_
      refine zi_getr (pc' := 16) rfl rfl rfl rfl rfl ?_
      refine zi_getr (pc' := 19) rfl rfl rfl rfl rfl ?_
      refine zi_geti (pc' := 22) 12 rfl rfl rfl rfl rfl rfl ?_
      obtain ⟨o2, h⟩ := h
      refine zi_icmp_gt (x := 34) (pc' := 25) rfl rfl o1 o2 (fun c17 => ?_) (fun c17 => ?_)
      · replace h := h.1 c17
        refine zi_iconst (pc' := 35) rfl rfl ?_
        exact zi_iret rfl rfl h
      · replace h := h.2 c17
        refine zi_iload_n (pc' := 26) rfl rfl rfl ?_
        obtain ⟨o3, h⟩ := h
        refine zi_if_eq (x := 36) (pc' := 29) rfl rfl o3  (fun c16 => ?_) (fun c16 => ?_)
        · replace h := h.1 c16
          exact zi_wk (s_S_read_b36 hd h) (And.intro rfl (And.intro rfl (And.intro rfl trivial)))
        · replace h := h.2 c16
          refine zi_iload_n (pc' := 30) rfl rfl rfl ?_
          refine zi_iconst (pc' := 31) rfl rfl ?_
          refine zi_icmp_eq (x := 36) (pc' := 34) rfl rfl o3 (by decide) (fun c15 => ?_) (fun c15 => ?_)
          · replace h := h.1 c15
            exact zi_wk (s_S_read_b36 hd h) (And.intro rfl (And.intro rfl (And.intro rfl trivial)))
          · replace h := h.2 c15
            refine zi_iconst (pc' := 35) rfl rfl ?_
            exact zi_iret rfl rfl h
-- SpoutNewsModel.minutesOf(II)I
noncomputable def w_M_minutesOf_l5 (l2 : Int) (K27 : Int → zi_M → Prop) (Q : Int → zi_M → Prop) : Nat → Int → Int → zi_M → Prop
  | 0, _, _, _ => False
  | f + 1, l3, l4, g => (zi_r l4 ∧ zi_r l2 ∧ ((l2 ≤ l4 → K27 l3 g) ∧ (l4 < l2 → ((0 ≤ l4 ∧ l4 < 12) ∧ w_M_minutesOf_l5 l2 K27 Q f (l3 + (g 248 l4)) (l4 + 1) g))))
noncomputable def w_M_minutesOf (l1 : Int) (l2 : Int) (g : zi_M) (Q : Int → zi_M → Prop) : Prop := (∃ f7, w_M_minutesOf_l5 l2 (fun k5 g6 => Q k5 g6) Q f7 0 l1 g)
set_option maxRecDepth 100000 in
theorem s_M_minutesOf_l5_r {E : sx_E} {d : Nat} (hd : 1 ≤ d) {l2 : Int} {K27 : Int → zi_M → Prop} {Q : Int → zi_M → Prop} (hK27 : ∀ (k3 : Int) (g : zi_M), K27 k3 g → zi_W E d 318 27 [some (.ref 214), none, some (zi_i l2), some (zi_i k3), none] [] g (zi_Q Q)) : ∀ (f : Nat) {l3 : Int} {l4 : Int} {g : zi_M}, w_M_minutesOf_l5 l2 K27 Q f l3 l4 g → zi_W E d 318 5 [some (.ref 214), none, some (zi_i l2), some (zi_i l3), some (zi_i l4)] [] g (zi_Q Q)
  | 0, _, _, _, h => False.elim h
  | f + 1, l3, l4, g, h => by
    refine zi_iload (pc' := 7) rfl rfl rfl ?_
    refine zi_iload_n (pc' := 8) rfl rfl rfl ?_
    obtain ⟨o1, o2, h⟩ := h
    refine zi_icmp_ge (x := 27) (pc' := 11) rfl rfl o1 o2 (fun c4 => ?_) (fun c4 => ?_)
    · replace h := h.1 c4
      exact zi_wk (hK27 _ _ h) (And.intro rfl (And.intro rfl (And.intro rfl trivial)))
    · replace h := h.2 c4
      refine zi_iload_n (pc' := 12) rfl rfl rfl ?_
      refine zi_aload_n (pc' := 13) rfl rfl rfl ?_
      refine zi_getr (pc' := 16) rfl rfl rfl rfl rfl ?_
      refine zi_iload (pc' := 18) rfl rfl rfl ?_
      obtain ⟨o3, h⟩ := h
      refine zi_iald (pc' := 19) rfl rfl rfl o3 ?_
      refine zi_iadd (pc' := 20) rfl rfl ?_
      refine zi_istore_n (pc' := 21) [some _, none, some _, some _, some _] rfl rfl rfl ?_
      refine zi_iinc (pc' := 24) [some _, none, some _, some _, some _] rfl rfl rfl rfl ?_
      refine zi_goto (x := 5) rfl ?_
      exact zi_wk (s_M_minutesOf_l5_r hd hK27 f h) (And.intro rfl (And.intro rfl (And.intro rfl (And.intro rfl trivial))))
set_option maxRecDepth 100000 in
theorem s_M_minutesOf_l5 {E : sx_E} {d : Nat} (hd : 1 ≤ d) {l2 : Int} {K27 : Int → zi_M → Prop} {Q : Int → zi_M → Prop} {l3 : Int} {l4 : Int} {g : zi_M} (h : ∃ f, w_M_minutesOf_l5 l2 K27 Q f l3 l4 g) (hK27 : ∀ (k3 : Int) (g : zi_M), K27 k3 g → zi_W E d 318 27 [some (.ref 214), none, some (zi_i l2), some (zi_i k3), none] [] g (zi_Q Q)) : zi_W E d 318 5 [some (.ref 214), none, some (zi_i l2), some (zi_i l3), some (zi_i l4)] [] g (zi_Q Q) := by
  obtain ⟨f, h⟩ := h
  exact s_M_minutesOf_l5_r hd hK27 f h
set_option maxRecDepth 100000 in
theorem s_M_minutesOf {E : sx_E} {d : Nat} (hd : 1 ≤ d) {l1 : Int} {l2 : Int} {g : zi_M} {Q : Int → zi_M → Prop} (h : w_M_minutesOf l1 l2 g Q) : zi_S E d 318 [.ref 214, zi_i l1, zi_i l2] g (zi_Q Q) := by
  refine zi_Sof jf_318 [some (.ref 214), some (zi_i l1), some (zi_i l2), none, none] rfl (And.intro rfl (And.intro rfl (And.intro rfl trivial))) ?_
  unfold w_M_minutesOf at h
  refine zi_iconst (pc' := 1) rfl rfl ?_
  refine zi_istore_n (pc' := 2) [some _, some _, some _, some _, none] rfl rfl rfl ?_
  refine zi_iload_n (pc' := 3) rfl rfl rfl ?_
  refine zi_istore (pc' := 5) [some _, some _, some _, some _, some _] rfl rfl rfl ?_
  refine zi_wk (s_M_minutesOf_l5 hd h (fun k5 g6 h => ?_)) (And.intro rfl (And.intro rfl (And.intro rfl (And.intro rfl trivial))))
  refine zi_iload_n (pc' := 28) rfl rfl rfl ?_
  exact zi_iret rfl rfl h
-- SpoutNewsModel.findsRead(I)V
noncomputable def w_M_findsRead_l50 (l2 : Int) (l3 : Int) (K98 : Int → zi_M → Prop) (Q : Int → zi_M → Prop) : Nat → Int → Int → zi_M → Prop
  | 0, _, _, _ => False
  | f + 1, l4, l5, g => (zi_r l5 ∧ zi_r (g 214 58) ∧ (((g 214 58) < l5 → K98 l4 g) ∧ (l5 ≤ (g 214 58) → w_M_minutesOf l2 l5 g (fun v9 g10 => ((0 ≤ (((7 * l5) + l3) - 1) ∧ (((7 * l5) + l3) - 1) < 91) ∧ w_M_greater v9 (g10 249 (((7 * l5) + l3) - 1)) g10 (fun v13 g14 => w_M_lesser l4 v13 g14 (fun v16 g17 => w_M_findsRead_l50 l2 l3 K98 Q f v16 (l5 + 1) g17)))))))
noncomputable def w_M_findsRead_l35 (l1 : Int) (l2 : Int) (K117 : zi_M → Prop) (Q : Int → zi_M → Prop) : Nat → Int → zi_M → Prop
  | 0, _, _ => False
  | f + 1, l3, g => (zi_r l3 ∧ zi_r l1 ∧ ((l1 < l3 → K117 g) ∧ (l3 ≤ l1 → (∃ f24, w_M_findsRead_l50 l2 l3 (fun k20 g21 => ((0 ≤ ((7 * l2) + l3) ∧ ((7 * l2) + l3) < 91) ∧ (∀ g23, g23 = zi_u g21 249 ((7 * l2) + l3) k20 → w_M_findsRead_l35 l1 l2 K117 Q f (l3 + 1) g23))) Q f24 100000000 (l2 + 1) g))))
noncomputable def w_M_findsRead_l5 (l1 : Int) (K123 : zi_M → Prop) (Q : Int → zi_M → Prop) : Nat → Int → zi_M → Prop
  | 0, _, _ => False
  | f + 1, l2, g => (zi_r l2 ∧ ((l2 < 0 → K123 g) ∧ (0 ≤ l2 → (zi_r (g 214 58) ∧ ((¬ l2 = (g 214 58) → ((0 ≤ (7 * l2) ∧ (7 * l2) < 91) ∧ (∀ g4, g4 = zi_u g 249 (7 * l2) 100000000 → (∃ f27, w_M_findsRead_l35 l1 l2 (fun g26 => w_M_findsRead_l5 l1 K123 Q f (l2 + (-1)) g26) Q f27 1 g4)))) ∧ (l2 = (g 214 58) → ((0 ≤ (7 * l2) ∧ (7 * l2) < 91) ∧ (∀ g29, g29 = zi_u g 249 (7 * l2) 0 → (∃ f31, w_M_findsRead_l35 l1 l2 (fun g30 => w_M_findsRead_l5 l1 K123 Q f (l2 + (-1)) g30) Q f31 1 g29)))))))))
noncomputable def w_M_findsRead (l1 : Int) (g : zi_M) (Q : Int → zi_M → Prop) : Prop := (∃ f35, w_M_findsRead_l5 l1 (fun g34 => Q 0 g34) Q f35 (g 214 58) g)
set_option maxRecDepth 100000 in
theorem s_M_findsRead_l50_r {E : sx_E} {d : Nat} (hd : 2 ≤ d) {l2 : Int} {l3 : Int} {x1 : Int} {K98 : Int → zi_M → Prop} {Q : Int → zi_M → Prop} (hK98 : ∀ (k4 : Int) (g : zi_M), K98 k4 g → zi_W E d 317 98 [some (.ref 214), some (zi_i x1), some (zi_i l2), some (zi_i l3), some (zi_i k4), none] [] g (zi_Qv Q)) : ∀ (f : Nat) {l4 : Int} {l5 : Int} {g : zi_M}, w_M_findsRead_l50 l2 l3 K98 Q f l4 l5 g → zi_W E d 317 50 [some (.ref 214), some (zi_i x1), some (zi_i l2), some (zi_i l3), some (zi_i l4), some (zi_i l5)] [] g (zi_Qv Q)
  | 0, _, _, _, h => False.elim h
  | f + 1, l4, l5, g, h => by
    refine zi_iload (pc' := 52) rfl rfl rfl ?_
    refine zi_aload_n (pc' := 53) rfl rfl rfl ?_
    refine zi_geti (pc' := 56) 58 rfl rfl rfl rfl rfl rfl ?_
    obtain ⟨o7, o8, h⟩ := h
    refine zi_icmp_gt (x := 98) (pc' := 59) rfl rfl o7 o8 (fun c19 => ?_) (fun c19 => ?_)
    · replace h := h.1 c19
      exact zi_wk (hK98 _ _ h) (And.intro rfl (And.intro rfl (And.intro rfl (And.intro rfl (And.intro rfl trivial)))))
    · replace h := h.2 c19
      refine zi_aload_n (pc' := 60) rfl rfl rfl ?_
      refine zi_iload (pc' := 62) rfl rfl rfl ?_
      refine zi_aload_n (pc' := 63) rfl rfl rfl ?_
      refine zi_aload_n (pc' := 64) rfl rfl rfl ?_
      refine zi_iload_n (pc' := 65) rfl rfl rfl ?_
      refine zi_iload (pc' := 67) rfl rfl rfl ?_
      refine zi_callV (d' := 1) (as := [_, _]) (pc' := 70) rfl rfl rfl rfl (Nat.lt_of_lt_of_le (by decide) hd) (s_M_minutesOf (Nat.le_refl _) h) (zi_ki (fun v9 g10 h => ?_))
      refine zi_aload_n (pc' := 71) rfl rfl rfl ?_
      refine zi_getr (pc' := 74) rfl rfl rfl rfl rfl ?_
      refine zi_bipush (pc' := 76) rfl rfl (by decide) ?_
      refine zi_iload (pc' := 78) rfl rfl rfl ?_
      refine zi_imul (pc' := 79) rfl rfl ?_
      refine zi_iload_n (pc' := 80) rfl rfl rfl ?_
      refine zi_iadd (pc' := 81) rfl rfl ?_
      refine zi_iconst (pc' := 82) rfl rfl ?_
      refine zi_isub (pc' := 83) rfl rfl ?_
      obtain ⟨o12, h⟩ := h
      refine zi_iald (pc' := 84) rfl rfl rfl o12 ?_
      refine zi_callV (d' := 1) (as := [_, _]) (pc' := 87) rfl rfl rfl rfl (Nat.lt_of_lt_of_le (by decide) hd) (s_M_greater (Nat.le_refl _) h) (zi_ki (fun v13 g14 h => ?_))
      refine zi_callV (d' := 1) (as := [_, _]) (pc' := 90) rfl rfl rfl rfl (Nat.lt_of_lt_of_le (by decide) hd) (s_M_lesser (Nat.le_refl _) h) (zi_ki (fun v16 g17 h => ?_))
      refine zi_istore (pc' := 92) [some _, some _, some _, some _, some _, some _] rfl rfl rfl ?_
      refine zi_iinc (pc' := 95) [some _, some _, some _, some _, some _, some _] rfl rfl rfl rfl ?_
      refine zi_goto (x := 50) rfl ?_
      exact zi_wk (s_M_findsRead_l50_r hd hK98 f h) (And.intro rfl (And.intro rfl (And.intro rfl (And.intro rfl (And.intro rfl (And.intro rfl trivial))))))
set_option maxRecDepth 100000 in
theorem s_M_findsRead_l50 {E : sx_E} {d : Nat} (hd : 2 ≤ d) {l2 : Int} {l3 : Int} {x1 : Int} {K98 : Int → zi_M → Prop} {Q : Int → zi_M → Prop} {l4 : Int} {l5 : Int} {g : zi_M} (h : ∃ f, w_M_findsRead_l50 l2 l3 K98 Q f l4 l5 g) (hK98 : ∀ (k4 : Int) (g : zi_M), K98 k4 g → zi_W E d 317 98 [some (.ref 214), some (zi_i x1), some (zi_i l2), some (zi_i l3), some (zi_i k4), none] [] g (zi_Qv Q)) : zi_W E d 317 50 [some (.ref 214), some (zi_i x1), some (zi_i l2), some (zi_i l3), some (zi_i l4), some (zi_i l5)] [] g (zi_Qv Q) := by
  obtain ⟨f, h⟩ := h
  exact s_M_findsRead_l50_r hd hK98 f h
set_option maxRecDepth 100000 in
theorem s_M_findsRead_l35_r {E : sx_E} {d : Nat} (hd : 2 ≤ d) {l1 : Int} {l2 : Int} {K117 : zi_M → Prop} {Q : Int → zi_M → Prop} (hK117 : ∀ (g : zi_M), K117 g → zi_W E d 317 117 [some (.ref 214), some (zi_i l1), some (zi_i l2), none, none, none] [] g (zi_Qv Q)) : ∀ (f : Nat) {l3 : Int} {g : zi_M}, w_M_findsRead_l35 l1 l2 K117 Q f l3 g → zi_W E d 317 35 [some (.ref 214), some (zi_i l1), some (zi_i l2), some (zi_i l3), none, none] [] g (zi_Qv Q)
  | 0, _, _, h => False.elim h
  | f + 1, l3, g, h => by
    refine zi_iload_n (pc' := 36) rfl rfl rfl ?_
    refine zi_iload_n (pc' := 37) rfl rfl rfl ?_
    obtain ⟨o5, o6, h⟩ := h
    refine zi_icmp_gt (x := 117) (pc' := 40) rfl rfl o5 o6 (fun c25 => ?_) (fun c25 => ?_)
    · replace h := h.1 c25
      exact zi_wk (hK117 _ h) (And.intro rfl (And.intro rfl (And.intro rfl trivial)))
    · replace h := h.2 c25
      refine zi_ldcw (v := 100000000) (pc' := 43) rfl rfl (by decide +kernel) ?_
      refine zi_istore (pc' := 45) [some _, some _, some _, some _, some _, none] rfl rfl rfl ?_
      refine zi_iload_n (pc' := 46) rfl rfl rfl ?_
      refine zi_iconst (pc' := 47) rfl rfl ?_
      refine zi_iadd (pc' := 48) rfl rfl ?_
      refine zi_istore (pc' := 50) [some _, some _, some _, some _, some _, some _] rfl rfl rfl ?_
      refine zi_wk (s_M_findsRead_l50 hd h (fun k20 g21 h => ?_)) (And.intro rfl (And.intro rfl (And.intro rfl (And.intro rfl (And.intro rfl (And.intro rfl trivial))))))
      refine zi_aload_n (pc' := 99) rfl rfl rfl ?_
      refine zi_getr (pc' := 102) rfl rfl rfl rfl rfl ?_
      refine zi_bipush (pc' := 104) rfl rfl (by decide) ?_
      refine zi_iload_n (pc' := 105) rfl rfl rfl ?_
      refine zi_imul (pc' := 106) rfl rfl ?_
      refine zi_iload_n (pc' := 107) rfl rfl rfl ?_
      refine zi_iadd (pc' := 108) rfl rfl ?_
      refine zi_iload (pc' := 110) rfl rfl rfl ?_
      obtain ⟨o22, h⟩ := h
      refine zi_iast (pc' := 111) rfl rfl rfl o22 ?_
      replace h := h _ rfl
      refine zi_iinc (pc' := 114) [some _, some _, some _, some _, some _, none] rfl rfl rfl rfl ?_
      refine zi_goto (x := 35) rfl ?_
      exact zi_wk (s_M_findsRead_l35_r hd hK117 f h) (And.intro rfl (And.intro rfl (And.intro rfl (And.intro rfl trivial))))
set_option maxRecDepth 100000 in
theorem s_M_findsRead_l35 {E : sx_E} {d : Nat} (hd : 2 ≤ d) {l1 : Int} {l2 : Int} {K117 : zi_M → Prop} {Q : Int → zi_M → Prop} {l3 : Int} {g : zi_M} (h : ∃ f, w_M_findsRead_l35 l1 l2 K117 Q f l3 g) (hK117 : ∀ (g : zi_M), K117 g → zi_W E d 317 117 [some (.ref 214), some (zi_i l1), some (zi_i l2), none, none, none] [] g (zi_Qv Q)) : zi_W E d 317 35 [some (.ref 214), some (zi_i l1), some (zi_i l2), some (zi_i l3), none, none] [] g (zi_Qv Q) := by
  obtain ⟨f, h⟩ := h
  exact s_M_findsRead_l35_r hd hK117 f h
set_option maxRecDepth 100000 in
theorem s_M_findsRead_l5_r {E : sx_E} {d : Nat} (hd : 2 ≤ d) {l1 : Int} {K123 : zi_M → Prop} {Q : Int → zi_M → Prop} (hK123 : ∀ (g : zi_M), K123 g → zi_W E d 317 123 [some (.ref 214), some (zi_i l1), none, none, none, none] [] g (zi_Qv Q)) : ∀ (f : Nat) {l2 : Int} {g : zi_M}, w_M_findsRead_l5 l1 K123 Q f l2 g → zi_W E d 317 5 [some (.ref 214), some (zi_i l1), some (zi_i l2), none, none, none] [] g (zi_Qv Q)
  | 0, _, _, h => False.elim h
  | f + 1, l2, g, h => by
    refine zi_iload_n (pc' := 6) rfl rfl rfl ?_
    obtain ⟨o1, h⟩ := h
    refine zi_if_lt (x := 123) (pc' := 9) rfl rfl o1  (fun c33 => ?_) (fun c33 => ?_)
    · replace h := h.1 c33
      exact zi_wk (hK123 _ h) (And.intro rfl (And.intro rfl trivial))
    · replace h := h.2 c33
      refine zi_aload_n (pc' := 10) rfl rfl rfl ?_
      refine zi_getr (pc' := 13) rfl rfl rfl rfl rfl ?_
      refine zi_bipush (pc' := 15) rfl rfl (by decide) ?_
      refine zi_iload_n (pc' := 16) rfl rfl rfl ?_
      refine zi_imul (pc' := 17) rfl rfl ?_
      refine zi_iload_n (pc' := 18) rfl rfl rfl ?_
      refine zi_aload_n (pc' := 19) rfl rfl rfl ?_
      refine zi_geti (pc' := 22) 58 rfl rfl rfl rfl rfl rfl ?_
      obtain ⟨o2, h⟩ := h
      refine zi_icmp_ne (x := 29) (pc' := 25) rfl rfl o1 o2 (fun c32 => ?_) (fun c32 => ?_)
      · replace h := h.1 c32
        refine zi_ldcw (v := 100000000) (pc' := 32) rfl rfl (by decide +kernel) ?_
        obtain ⟨o3, h⟩ := h
        refine zi_iast (pc' := 33) rfl rfl rfl o3 ?_
        replace h := h _ rfl
        refine zi_iconst (pc' := 34) rfl rfl ?_
        refine zi_istore_n (pc' := 35) [some _, some _, some _, some _, none, none] rfl rfl rfl ?_
        refine zi_wk (s_M_findsRead_l35 hd h (fun g26 h => ?_)) (And.intro rfl (And.intro rfl (And.intro rfl (And.intro rfl trivial))))
        refine zi_iinc (pc' := 120) [some _, some _, some _, none, none, none] rfl rfl rfl rfl ?_
        refine zi_goto (x := 5) rfl ?_
        exact zi_wk (s_M_findsRead_l5_r hd hK123 f h) (And.intro rfl (And.intro rfl (And.intro rfl trivial)))
      · replace h := h.2 c32
        refine zi_iconst (pc' := 26) rfl rfl ?_
        refine zi_goto (x := 32) rfl ?_
        obtain ⟨o28, h⟩ := h
        refine zi_iast (pc' := 33) rfl rfl rfl o28 ?_
        replace h := h _ rfl
        refine zi_iconst (pc' := 34) rfl rfl ?_
        refine zi_istore_n (pc' := 35) [some _, some _, some _, some _, none, none] rfl rfl rfl ?_
        refine zi_wk (s_M_findsRead_l35 hd h (fun g30 h => ?_)) (And.intro rfl (And.intro rfl (And.intro rfl (And.intro rfl trivial))))
        refine zi_iinc (pc' := 120) [some _, some _, some _, none, none, none] rfl rfl rfl rfl ?_
        refine zi_goto (x := 5) rfl ?_
        exact zi_wk (s_M_findsRead_l5_r hd hK123 f h) (And.intro rfl (And.intro rfl (And.intro rfl trivial)))
set_option maxRecDepth 100000 in
theorem s_M_findsRead_l5 {E : sx_E} {d : Nat} (hd : 2 ≤ d) {l1 : Int} {K123 : zi_M → Prop} {Q : Int → zi_M → Prop} {l2 : Int} {g : zi_M} (h : ∃ f, w_M_findsRead_l5 l1 K123 Q f l2 g) (hK123 : ∀ (g : zi_M), K123 g → zi_W E d 317 123 [some (.ref 214), some (zi_i l1), none, none, none, none] [] g (zi_Qv Q)) : zi_W E d 317 5 [some (.ref 214), some (zi_i l1), some (zi_i l2), none, none, none] [] g (zi_Qv Q) := by
  obtain ⟨f, h⟩ := h
  exact s_M_findsRead_l5_r hd hK123 f h
set_option maxRecDepth 100000 in
theorem s_M_findsRead {E : sx_E} {d : Nat} (hd : 2 ≤ d) {l1 : Int} {g : zi_M} {Q : Int → zi_M → Prop} (h : w_M_findsRead l1 g Q) : zi_S E d 317 [.ref 214, zi_i l1] g (zi_Qv Q) := by
  refine zi_Sof jf_317 [some (.ref 214), some (zi_i l1), none, none, none, none] rfl (And.intro rfl (And.intro rfl trivial)) ?_
  unfold w_M_findsRead at h
  refine zi_aload_n (pc' := 1) rfl rfl rfl ?_
  refine zi_geti (pc' := 4) 58 rfl rfl rfl rfl rfl rfl ?_
  refine zi_istore_n (pc' := 5) [some _, some _, some _, none, none, none] rfl rfl rfl ?_
  refine zi_wk (s_M_findsRead_l5 hd h (fun g34 h => ?_)) (And.intro rfl (And.intro rfl (And.intro rfl trivial)))
  exact zi_vret rfl rfl h
-- SpoutNewsModel.read(II)I
noncomputable def w_M_read_l61 (l1 : Int) (K100 : Int → zi_M → Prop) (Q : Int → zi_M → Prop) : Nat → Int → zi_M → Prop
  | 0, _, _ => False
  | f + 1, l3, g => w_M_minutesOf 0 l3 g (fun v14 g15 => ((0 ≤ (((7 * l3) + l1) - 1) ∧ (((7 * l3) + l1) - 1) < 91) ∧ w_M_greater v14 (g15 249 (((7 * l3) + l1) - 1)) g15 (fun v18 g19 => ((0 ≤ l1 ∧ l1 < 91) ∧ (zi_r v18 ∧ zi_r (g19 249 l1) ∧ ((v18 = (g19 249 l1) → K100 l3 g19) ∧ (¬ v18 = (g19 249 l1) → w_M_read_l61 l1 K100 Q f (l3 + 1) g19)))))))
noncomputable def w_M_read (l1 : Int) (l2 : Int) (g : zi_M) (Q : Int → zi_M → Prop) : Prop := (∀ g1, g1 = zi_u g 214 0 0 → w_M_isIn l1 1 6 g1 (fun v2 g3 => ((v2 = 0 → Q (-1) g3) ∧ (¬ v2 = 0 → (zi_r l1 ∧ zi_r (g3 214 58) ∧ (((g3 214 58) < l1 → Q (-1) g3) ∧ (l1 ≤ (g3 214 58) → w_M_isIn l2 0 1 g3 (fun v7 g8 => ((¬ v7 = 0 → w_M_findsRead l1 g8 (fun _ g11 => (zi_r l2 ∧ ((¬ l2 = 0 → ((¬ l1 = 1 → (∃ f27, w_M_read_l61 l1 (fun k25 g26 => Q k25 g26) Q f27 1 g11)) ∧ (l1 = 1 → Q (-1) g11))) ∧ (l2 = 0 → ((0 ≤ l1 ∧ l1 < 91) ∧ Q (g11 249 l1) g11)))))) ∧ (v7 = 0 → Q (-1) g8))))))))))
set_option maxRecDepth 100000 in
theorem s_M_read_l61_r {E : sx_E} {d : Nat} (hd : 3 ≤ d) {l1 : Int} {K100 : Int → zi_M → Prop} {Q : Int → zi_M → Prop} (hK100 : ∀ (k3 : Int) (g : zi_M), K100 k3 g → zi_W E d 316 100 [some (.ref 214), some (zi_i l1), none, some (zi_i k3)] [] g (zi_Q Q)) : ∀ (f : Nat) {l3 : Int} {g : zi_M}, w_M_read_l61 l1 K100 Q f l3 g → zi_W E d 316 61 [some (.ref 214), some (zi_i l1), none, some (zi_i l3)] [] g (zi_Q Q)
  | 0, _, _, h => False.elim h
  | f + 1, l3, g, h => by
    refine zi_aload_n (pc' := 62) rfl rfl rfl ?_
    refine zi_aload_n (pc' := 63) rfl rfl rfl ?_
    refine zi_iconst (pc' := 64) rfl rfl ?_
    refine zi_iload_n (pc' := 65) rfl rfl rfl ?_
    refine zi_callV (d' := 1) (as := [_, _]) (pc' := 68) rfl rfl rfl rfl (Nat.lt_of_lt_of_le (by decide) hd) (s_M_minutesOf (Nat.le_refl _) h) (zi_ki (fun v14 g15 h => ?_))
    refine zi_aload_n (pc' := 69) rfl rfl rfl ?_
    refine zi_getr (pc' := 72) rfl rfl rfl rfl rfl ?_
    refine zi_bipush (pc' := 74) rfl rfl (by decide) ?_
    refine zi_iload_n (pc' := 75) rfl rfl rfl ?_
    refine zi_imul (pc' := 76) rfl rfl ?_
    refine zi_iload_n (pc' := 77) rfl rfl rfl ?_
    refine zi_iadd (pc' := 78) rfl rfl ?_
    refine zi_iconst (pc' := 79) rfl rfl ?_
    refine zi_isub (pc' := 80) rfl rfl ?_
    obtain ⟨o17, h⟩ := h
    refine zi_iald (pc' := 81) rfl rfl rfl o17 ?_
    refine zi_callV (d' := 1) (as := [_, _]) (pc' := 84) rfl rfl rfl rfl (Nat.lt_of_lt_of_le (by decide) hd) (s_M_greater (Nat.le_refl _) h) (zi_ki (fun v18 g19 h => ?_))
    refine zi_aload_n (pc' := 85) rfl rfl rfl ?_
    refine zi_getr (pc' := 88) rfl rfl rfl rfl rfl ?_
    refine zi_iload_n (pc' := 89) rfl rfl rfl ?_
    obtain ⟨o21, h⟩ := h
    refine zi_iald (pc' := 90) rfl rfl rfl o21 ?_
    obtain ⟨o22, o23, h⟩ := h
    refine zi_icmp_eq (x := 100) (pc' := 93) rfl rfl o22 o23 (fun c24 => ?_) (fun c24 => ?_)
    · replace h := h.1 c24
      exact zi_wk (hK100 _ _ h) (And.intro rfl (And.intro rfl (And.intro rfl trivial)))
    · replace h := h.2 c24
      refine zi_iload_n (pc' := 94) rfl rfl rfl ?_
      refine zi_iconst (pc' := 95) rfl rfl ?_
      refine zi_iadd (pc' := 96) rfl rfl ?_
      refine zi_istore_n (pc' := 97) [some _, some _, none, some _] rfl rfl rfl ?_
      refine zi_goto (x := 61) rfl ?_
      exact zi_wk (s_M_read_l61_r hd hK100 f h) (And.intro rfl (And.intro rfl (And.intro rfl trivial)))
set_option maxRecDepth 100000 in
theorem s_M_read_l61 {E : sx_E} {d : Nat} (hd : 3 ≤ d) {l1 : Int} {K100 : Int → zi_M → Prop} {Q : Int → zi_M → Prop} {l3 : Int} {g : zi_M} (h : ∃ f, w_M_read_l61 l1 K100 Q f l3 g) (hK100 : ∀ (k3 : Int) (g : zi_M), K100 k3 g → zi_W E d 316 100 [some (.ref 214), some (zi_i l1), none, some (zi_i k3)] [] g (zi_Q Q)) : zi_W E d 316 61 [some (.ref 214), some (zi_i l1), none, some (zi_i l3)] [] g (zi_Q Q) := by
  obtain ⟨f, h⟩ := h
  exact s_M_read_l61_r hd hK100 f h
set_option maxRecDepth 100000 in
theorem s_M_read {E : sx_E} {d : Nat} (hd : 3 ≤ d) {l1 : Int} {l2 : Int} {g : zi_M} {Q : Int → zi_M → Prop} (h : w_M_read l1 l2 g Q) : zi_S E d 316 [.ref 214, zi_i l1, zi_i l2] g (zi_Q Q) := by
  refine zi_Sof jf_316 [some (.ref 214), some (zi_i l1), some (zi_i l2), none] rfl (And.intro rfl (And.intro rfl (And.intro rfl trivial))) ?_
  unfold w_M_read at h
  refine zi_aload_n (pc' := 1) rfl rfl rfl ?_
  refine zi_iconst (pc' := 2) rfl rfl ?_
  refine zi_puti (pc' := 5) 0 rfl rfl rfl rfl rfl  ?_
  replace h := h _ rfl
  refine zi_aload_n (pc' := 6) rfl rfl rfl ?_
  refine zi_iload_n (pc' := 7) rfl rfl rfl ?_
  refine zi_iconst (pc' := 8) rfl rfl ?_
  refine zi_bipush (pc' := 10) rfl rfl (by decide) ?_
  refine zi_callV (d' := 1) (as := [_, _, _]) (pc' := 13) rfl rfl rfl rfl (Nat.lt_of_lt_of_le (by decide) hd) (s_M_isIn (Nat.le_refl _) h) (zi_kb (fun v2 g3 b4 h => ?_))
  refine zi_if_eq (x := 34) (pc' := 16) rfl rfl (zi_r_bit b4)  (fun c33 => ?_) (fun c33 => ?_)
  · replace h := h.1 c33
    refine zi_iconst (pc' := 35) rfl rfl ?_
    exact zi_iret rfl rfl h
  · replace h := h.2 c33
    refine zi_iload_n (pc' := 17) rfl rfl rfl ?_
    refine zi_aload_n (pc' := 18) rfl rfl rfl ?_
    refine zi_geti (pc' := 21) 58 rfl rfl rfl rfl rfl rfl ?_
    obtain ⟨o5, o6, h⟩ := h
    refine zi_icmp_gt (x := 34) (pc' := 24) rfl rfl o5 o6 (fun c32 => ?_) (fun c32 => ?_)
    · replace h := h.1 c32
      refine zi_iconst (pc' := 35) rfl rfl ?_
      exact zi_iret rfl rfl h
    · replace h := h.2 c32
      refine zi_aload_n (pc' := 25) rfl rfl rfl ?_
      refine zi_iload_n (pc' := 26) rfl rfl rfl ?_
      refine zi_iconst (pc' := 27) rfl rfl ?_
      refine zi_iconst (pc' := 28) rfl rfl ?_
      refine zi_callV (d' := 1) (as := [_, _, _]) (pc' := 31) rfl rfl rfl rfl (Nat.lt_of_lt_of_le (by decide) hd) (s_M_isIn (Nat.le_refl _) h) (zi_kb (fun v7 g8 b9 h => ?_))
      refine zi_if_ne (x := 36) (pc' := 34) rfl rfl (zi_r_bit b9)  (fun c31 => ?_) (fun c31 => ?_)
      · replace h := h.1 c31
        refine zi_aload_n (pc' := 37) rfl rfl rfl ?_
        refine zi_iload_n (pc' := 38) rfl rfl rfl ?_
        refine zi_callV (d' := 2) (as := [_]) (pc' := 41) rfl rfl rfl rfl (Nat.lt_of_lt_of_le (by decide) hd) (s_M_findsRead (Nat.le_refl _) h) (zi_kv (fun g11 h => ?_))
        refine zi_iload_n (pc' := 42) rfl rfl rfl ?_
        obtain ⟨o13, h⟩ := h
        refine zi_if_ne (x := 52) (pc' := 45) rfl rfl o13  (fun c30 => ?_) (fun c30 => ?_)
        · replace h := h.1 c30
          refine zi_iload_n (pc' := 53) rfl rfl rfl ?_
          refine zi_iconst (pc' := 54) rfl rfl ?_
          refine zi_icmp_ne (x := 59) (pc' := 57) rfl rfl o5 (by decide) (fun c28 => ?_) (fun c28 => ?_)
          · replace h := h.1 c28
            refine zi_iconst (pc' := 60) rfl rfl ?_
            refine zi_istore_n (pc' := 61) [some _, some _, some _, some _] rfl rfl rfl ?_
            refine zi_wk (s_M_read_l61 hd h (fun k25 g26 h => ?_)) (And.intro rfl (And.intro rfl (And.intro rfl trivial)))
            refine zi_iload_n (pc' := 101) rfl rfl rfl ?_
            exact zi_iret rfl rfl h
          · replace h := h.2 c28
            refine zi_iconst (pc' := 58) rfl rfl ?_
            exact zi_iret rfl rfl h
        · replace h := h.2 c30
          refine zi_aload_n (pc' := 46) rfl rfl rfl ?_
          refine zi_getr (pc' := 49) rfl rfl rfl rfl rfl ?_
          refine zi_iload_n (pc' := 50) rfl rfl rfl ?_
          obtain ⟨o29, h⟩ := h
          refine zi_iald (pc' := 51) rfl rfl rfl o29 ?_
          exact zi_iret rfl rfl h
      · replace h := h.2 c31
        refine zi_iconst (pc' := 35) rfl rfl ?_
        exact zi_iret rfl rfl h
