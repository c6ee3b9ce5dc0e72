-- by program (wip/gen/mkz.py)
-- SpoutNews.parts(I)I
noncomputable def w_S_parts_b11 (l1 : Int) (g : zi_M) (Q : Int → zi_M → Prop) : Prop := w_Thought_partGroups g (fun _ g3 => (zi_r l1 ∧ ((¬ l1 = 0 → Q (g3 180 5) g3) ∧ (l1 = 0 → Q (g3 180 6) g3))))
noncomputable def w_S_parts (l1 : Int) (g : zi_M) (Q : Int → zi_M → Prop) : Prop := (zi_r l1 ∧ ((l1 = 0 → w_S_parts_b11 l1 g Q) ∧ (¬ l1 = 0 → ((l1 = 1 → w_S_parts_b11 l1 g Q) ∧ (¬ l1 = 1 → Q (-1) g)))))
set_option maxRecDepth 100000 in
theorem s_S_parts_b11 {E : sx_E} {d : Nat} (hd : 4 ≤ d) {l1 : Int} {Q : Int → zi_M → Prop} {g : zi_M} (h : w_S_parts_b11 l1 g Q) : zi_W E d 141 11 [some (.ref 0), some (zi_i l1)] [] g (zi_Q Q) := by
  unfold w_S_parts_b11 at h
  refine zi_aload_n (pc' := 12) rfl rfl rfl ?_
  refine zi_getr (pc' := 15) rfl rfl rfl rfl rfl ?_
  refine zi_aload_n (pc' := 16) rfl rfl rfl ?_
  refine zi_getr (pc' := 19) rfl rfl rfl rfl rfl ?_
  refine zi_getr (pc' := 22) rfl rfl rfl rfl rfl ?_
  refine zi_callV (d' := 3) (as := [_]) (pc' := 25) rfl rfl rfl rfl (Nat.lt_of_lt_of_le (by decide) hd) (s_Thought_partGroups (Nat.le_refl _) h) (zi_kv (fun g3 h => ?_))
  refine zi_iload_n (pc' := 26) rfl rfl rfl ?_
  obtain ⟨o5, h⟩ := h
  refine zi_if_ne (x := 39) (pc' := 29) rfl rfl o5  (fun c6 => ?_) (fun c6 => ?_)
  · replace h := h.1 c6
    refine zi_aload_n (pc' := 40) rfl rfl rfl ?_
    refine zi_getr (pc' := 43) rfl rfl rfl rfl rfl ?_
    refine zi_geti (pc' := 46) 5 rfl rfl rfl rfl rfl rfl ?_
    exact zi_iret rfl rfl h
  · replace h := h.2 c6
    refine zi_aload_n (pc' := 30) rfl rfl rfl ?_
    refine zi_getr (pc' := 33) rfl rfl rfl rfl rfl ?_
    refine zi_geti (pc' := 36) 6 rfl rfl rfl rfl rfl rfl ?_
    refine zi_goto (x := 46) rfl ?_
    exact zi_iret rfl rfl h
set_option maxRecDepth 100000 in
theorem s_S_parts {E : sx_E} {d : Nat} (hd : 4 ≤ d) {l1 : Int} {g : zi_M} {Q : Int → zi_M → Prop} (h : w_S_parts l1 g Q) : zi_S E d 141 [.ref 0, zi_i l1] g (zi_Q Q) := by
  refine zi_Sof jf_141 [some (.ref 0), some (zi_i l1)] rfl (And.intro rfl (And.intro rfl trivial)) ?_
  unfold w_S_parts at h
  refine zi_iload_n (pc' := 1) rfl rfl rfl ?_
  obtain ⟨o1, h⟩ := h
  refine zi_if_eq (x := 11) (pc' := 4) rfl rfl o1  (fun c8 => ?_) (fun c8 => ?_)
  · replace h := h.1 c8
    exact zi_wk (s_S_parts_b11 hd h) (And.intro rfl (And.intro rfl trivial))
  · replace h := h.2 c8
    refine zi_iload_n (pc' := 5) rfl rfl rfl ?_
    refine zi_iconst (pc' := 6) rfl rfl ?_
    refine zi_icmp_eq (x := 11) (pc' := 9) rfl rfl o1 (by decide) (fun c7 => ?_) (fun c7 => ?_)
    · replace h := h.1 c7
      exact zi_wk (s_S_parts_b11 hd h) (And.intro rfl (And.intro rfl trivial))
    · replace h := h.2 c7
      refine zi_iconst (pc' := 10) rfl rfl ?_
      exact zi_iret rfl rfl h
-- SpoutNewsModel.besideAll(I)I
noncomputable def w_M_besideAll_l4 (l1 : Int) (K34 : Int → zi_M → Prop) (Q : Int → zi_M → Prop) : Nat → Int → Int → zi_M → Prop
  | 0, _, _, _ => False
  | f + 1, l2, l3, g => (zi_r l3 ∧ ((10 ≤ l3 → K34 l2 g) ∧ (l3 < 10 → w_M_has l1 l3 g (fun v2 g3 => ((v2 = 0 → w_M_besideAll_l4 l1 K34 Q f l2 (l3 + 1) g3) ∧ (¬ v2 = 0 → ((0 ≤ l3 ∧ l3 < 10) ∧ w_M_besideAll_l4 l1 K34 Q f (zi_or l2 (g3 242 l3)) (l3 + 1) g3)))))))
noncomputable def w_M_besideAll (l1 : Int) (g : zi_M) (Q : Int → zi_M → Prop) : Prop := (∃ f10, w_M_besideAll_l4 l1 (fun k8 g9 => Q k8 g9) Q f10 0 0 g)
set_option maxRecDepth 100000 in
theorem s_M_besideAll_l4_r {E : sx_E} {d : Nat} (hd : 2 ≤ d) {l1 : Int} {K34 : Int → zi_M → Prop} {Q : Int → zi_M → Prop} (hK34 : ∀ (k2 : Int) (g : zi_M), K34 k2 g → zi_W E d 292 34 [some (.ref 214), some (zi_i l1), some (zi_i k2), none] [] g (zi_Q Q)) : ∀ (f : Nat) {l2 : Int} {l3 : Int} {g : zi_M}, w_M_besideAll_l4 l1 K34 Q f l2 l3 g → zi_W E d 292 4 [some (.ref 214), some (zi_i l1), some (zi_i l2), some (zi_i l3)] [] g (zi_Q Q)
  | 0, _, _, _, h => False.elim h
  | f + 1, l2, l3, g, h => by
    refine zi_iload_n (pc' := 5) rfl rfl rfl ?_
    refine zi_bipush (pc' := 7) rfl rfl (by decide) ?_
    obtain ⟨o1, h⟩ := h
    refine zi_icmp_ge (x := 34) (pc' := 10) rfl rfl o1 (by decide) (fun c7 => ?_) (fun c7 => ?_)
    · replace h := h.1 c7
      exact zi_wk (hK34 _ _ h) (And.intro rfl (And.intro rfl (And.intro rfl trivial)))
    · replace h := h.2 c7
      refine zi_aload_n (pc' := 11) rfl rfl rfl ?_
      refine zi_iload_n (pc' := 12) rfl rfl rfl ?_
      refine zi_iload_n (pc' := 13) rfl rfl rfl ?_
      refine zi_callV (d' := 1) (as := [_, _]) (pc' := 16) rfl rfl rfl rfl (Nat.lt_of_lt_of_le (by decide) hd) (s_M_has (Nat.le_refl _) h) (zi_kb (fun v2 g3 b4 h => ?_))
      refine zi_if_eq (x := 28) (pc' := 19) rfl rfl (zi_r_bit b4)  (fun c6 => ?_) (fun c6 => ?_)
      · replace h := h.1 c6
        refine zi_iinc (pc' := 31) [some _, some _, some _, some _] rfl rfl rfl rfl ?_
        refine zi_goto (x := 4) rfl ?_
        exact zi_wk (s_M_besideAll_l4_r hd hK34 f h) (And.intro rfl (And.intro rfl (And.intro rfl (And.intro rfl trivial))))
      · replace h := h.2 c6
        refine zi_iload_n (pc' := 20) rfl rfl rfl ?_
        refine zi_aload_n (pc' := 21) rfl rfl rfl ?_
        refine zi_getr (pc' := 24) rfl rfl rfl rfl rfl ?_
        refine zi_iload_n (pc' := 25) rfl rfl rfl ?_
        obtain ⟨o5, h⟩ := h
        refine zi_iald (pc' := 26) rfl rfl rfl o5 ?_
        refine zi_ior (pc' := 27) rfl rfl ?_
        refine zi_istore_n (pc' := 28) [some _, some _, some _, some _] rfl rfl rfl ?_
        refine zi_iinc (pc' := 31) [some _, some _, some _, some _] rfl rfl rfl rfl ?_
        refine zi_goto (x := 4) rfl ?_
        exact zi_wk (s_M_besideAll_l4_r hd hK34 f h) (And.intro rfl (And.intro rfl (And.intro rfl (And.intro rfl trivial))))
set_option maxRecDepth 100000 in
theorem s_M_besideAll_l4 {E : sx_E} {d : Nat} (hd : 2 ≤ d) {l1 : Int} {K34 : Int → zi_M → Prop} {Q : Int → zi_M → Prop} {l2 : Int} {l3 : Int} {g : zi_M} (h : ∃ f, w_M_besideAll_l4 l1 K34 Q f l2 l3 g) (hK34 : ∀ (k2 : Int) (g : zi_M), K34 k2 g → zi_W E d 292 34 [some (.ref 214), some (zi_i l1), some (zi_i k2), none] [] g (zi_Q Q)) : zi_W E d 292 4 [some (.ref 214), some (zi_i l1), some (zi_i l2), some (zi_i l3)] [] g (zi_Q Q) := by
  obtain ⟨f, h⟩ := h
  exact s_M_besideAll_l4_r hd hK34 f h
set_option maxRecDepth 100000 in
theorem s_M_besideAll {E : sx_E} {d : Nat} (hd : 2 ≤ d) {l1 : Int} {g : zi_M} {Q : Int → zi_M → Prop} (h : w_M_besideAll l1 g Q) : zi_S E d 292 [.ref 214, zi_i l1] g (zi_Q Q) := by
  refine zi_Sof jf_292 [some (.ref 214), some (zi_i l1), none, none] rfl (And.intro rfl (And.intro rfl trivial)) ?_
  unfold w_M_besideAll at h
  refine zi_iconst (pc' := 1) rfl rfl ?_
  refine zi_istore_n (pc' := 2) [some _, some _, some _, none] rfl rfl rfl ?_
  refine zi_iconst (pc' := 3) rfl rfl ?_
  refine zi_istore_n (pc' := 4) [some _, some _, some _, some _] rfl rfl rfl ?_
  refine zi_wk (s_M_besideAll_l4 hd h (fun k8 g9 h => ?_)) (And.intro rfl (And.intro rfl (And.intro rfl (And.intro rfl trivial))))
  refine zi_iload_n (pc' := 35) rfl rfl rfl ?_
  exact zi_iret rfl rfl h
-- SpoutNewsModel.sideFrom(IZ)I
noncomputable def w_M_sideFrom_l10 (K42 : Int → Int → zi_M → Prop) (Q : Int → zi_M → Prop) : Nat → Int → Int → Int → zi_M → Prop
  | 0, _, _, _, _ => False
  | f + 1, l3, l4, l5, g => (zi_r l5 ∧ ((10 ≤ l5 → K42 l3 l4 g) ∧ (l5 < 10 → w_M_besideAll l3 g (fun v2 g3 => w_M_besideAll (zi_or l4 v2) g3 (fun v5 g6 => w_M_sideFrom_l10 K42 Q f (zi_or l3 v5) (zi_or l4 v2) (l5 + 1) g6)))))
noncomputable def w_M_sideFrom (l1 : Int) (l2 : Int) (g : zi_M) (Q : Int → zi_M → Prop) : Prop := (∃ f14, w_M_sideFrom_l10 (fun k9 k10 g11 => (zi_r l2 ∧ ((l2 = 0 → Q k10 g11) ∧ (¬ l2 = 0 → Q k9 g11)))) Q f14 (zi_shl 1 l1) 0 0 g)
set_option maxRecDepth 100000 in
theorem s_M_sideFrom_l10_r {E : sx_E} {d : Nat} (hd : 3 ≤ d) {x2 : Int} {K42 : Int → Int → zi_M → Prop} {Q : Int → zi_M → Prop} (hK42 : ∀ (k3 : Int) (k4 : Int) (g : zi_M), K42 k3 k4 g → zi_W E d 291 42 [some (.ref 214), none, some (zi_i x2), some (zi_i k3), some (zi_i k4), none] [] g (zi_Q Q)) : ∀ (f : Nat) {l3 : Int} {l4 : Int} {l5 : Int} {g : zi_M}, w_M_sideFrom_l10 K42 Q f l3 l4 l5 g → zi_W E d 291 10 [some (.ref 214), none, some (zi_i x2), some (zi_i l3), some (zi_i l4), some (zi_i l5)] [] g (zi_Q Q)
  | 0, _, _, _, _, h => False.elim h
  | f + 1, l3, l4, l5, g, h => by
    refine zi_iload (pc' := 12) rfl rfl rfl ?_
    refine zi_bipush (pc' := 14) rfl rfl (by decide) ?_
    obtain ⟨o1, h⟩ := h
    refine zi_icmp_ge (x := 42) (pc' := 17) rfl rfl o1 (by decide) (fun c8 => ?_) (fun c8 => ?_)
    · replace h := h.1 c8
      exact zi_wk (hK42 _ _ _ h) (And.intro rfl (And.intro rfl (And.intro rfl (And.intro rfl trivial))))
    · replace h := h.2 c8
      refine zi_iload (pc' := 19) rfl rfl rfl ?_
      refine zi_aload_n (pc' := 20) rfl rfl rfl ?_
      refine zi_iload_n (pc' := 21) rfl rfl rfl ?_
      refine zi_callV (d' := 2) (as := [_]) (pc' := 24) rfl rfl rfl rfl (Nat.lt_of_lt_of_le (by decide) hd) (s_M_besideAll (Nat.le_refl _) h) (zi_ki (fun v2 g3 h => ?_))
      refine zi_ior (pc' := 25) rfl rfl ?_
      refine zi_istore (pc' := 27) [some _, none, some _, some _, some _, some _] rfl rfl rfl ?_
      refine zi_iload_n (pc' := 28) rfl rfl rfl ?_
      refine zi_aload_n (pc' := 29) rfl rfl rfl ?_
      refine zi_iload (pc' := 31) rfl rfl rfl ?_
      refine zi_callV (d' := 2) (as := [_]) (pc' := 34) rfl rfl rfl rfl (Nat.lt_of_lt_of_le (by decide) hd) (s_M_besideAll (Nat.le_refl _) h) (zi_ki (fun v5 g6 h => ?_))
      refine zi_ior (pc' := 35) rfl rfl ?_
      refine zi_istore_n (pc' := 36) [some _, none, some _, some _, some _, some _] rfl rfl rfl ?_
      refine zi_iinc (pc' := 39) [some _, none, some _, some _, some _, some _] rfl rfl rfl rfl ?_
      refine zi_goto (x := 10) rfl ?_
      exact zi_wk (s_M_sideFrom_l10_r hd hK42 f h) (And.intro rfl (And.intro rfl (And.intro rfl (And.intro rfl (And.intro rfl trivial)))))
set_option maxRecDepth 100000 in
theorem s_M_sideFrom_l10 {E : sx_E} {d : Nat} (hd : 3 ≤ d) {x2 : Int} {K42 : Int → Int → zi_M → Prop} {Q : Int → zi_M → Prop} {l3 : Int} {l4 : Int} {l5 : Int} {g : zi_M} (h : ∃ f, w_M_sideFrom_l10 K42 Q f l3 l4 l5 g) (hK42 : ∀ (k3 : Int) (k4 : Int) (g : zi_M), K42 k3 k4 g → zi_W E d 291 42 [some (.ref 214), none, some (zi_i x2), some (zi_i k3), some (zi_i k4), none] [] g (zi_Q Q)) : zi_W E d 291 10 [some (.ref 214), none, some (zi_i x2), some (zi_i l3), some (zi_i l4), some (zi_i l5)] [] g (zi_Q Q) := by
  obtain ⟨f, h⟩ := h
  exact s_M_sideFrom_l10_r hd hK42 f h
set_option maxRecDepth 100000 in
theorem s_M_sideFrom {E : sx_E} {d : Nat} (hd : 3 ≤ d) {l1 : Int} {l2 : Int} {g : zi_M} {Q : Int → zi_M → Prop} (h : w_M_sideFrom l1 l2 g Q) : zi_S E d 291 [.ref 214, zi_i l1, zi_i l2] g (zi_Q Q) := by
  refine zi_Sof jf_291 [some (.ref 214), some (zi_i l1), some (zi_i l2), none, none, none] rfl (And.intro rfl (And.intro rfl (And.intro rfl trivial))) ?_
  unfold w_M_sideFrom at h
  refine zi_iconst (pc' := 1) rfl rfl ?_
  refine zi_iload_n (pc' := 2) rfl rfl rfl ?_
  refine zi_ishl (pc' := 3) rfl rfl ?_
  refine zi_istore_n (pc' := 4) [some _, some _, some _, some _, none, none] rfl rfl rfl ?_
  refine zi_iconst (pc' := 5) rfl rfl ?_
  refine zi_istore (pc' := 7) [some _, some _, some _, some _, some _, none] rfl rfl rfl ?_
  refine zi_iconst (pc' := 8) rfl rfl ?_
  refine zi_istore (pc' := 10) [some _, some _, some _, some _, some _, some _] rfl rfl rfl ?_
  refine zi_wk (s_M_sideFrom_l10 hd h (fun k9 k10 g11 h => ?_)) (And.intro rfl (And.intro rfl (And.intro rfl (And.intro rfl (And.intro rfl trivial)))))
  refine zi_iload_n (pc' := 43) rfl rfl rfl ?_
  obtain ⟨o12, h⟩ := h
  refine zi_if_eq (x := 50) (pc' := 46) rfl rfl o12  (fun c13 => ?_) (fun c13 => ?_)
  · replace h := h.1 c13
    refine zi_iload (pc' := 52) rfl rfl rfl ?_
    exact zi_iret rfl rfl h
  · replace h := h.2 c13
    refine zi_iload_n (pc' := 47) rfl rfl rfl ?_
    refine zi_goto (x := 52) rfl ?_
    exact zi_iret rfl rfl h
-- SpoutNewsModel.parts(I)I
noncomputable def w_M_parts_b101 (l1 : Int) (l2 : Int) (l3 : Int) (l4 : Int) (l5 : Int) (l6 : Int) (l7 : Int) (g : zi_M) (H : Int → Int → Int → Int → zi_M → Prop) (K99 : zi_M → Prop) (K128 : Int → Int → zi_M → Prop) (Q : Int → zi_M → Prop) : Prop := w_M_onesOf l6 g (fun v17 g18 => w_M_onesOf l7 g18 (fun v20 g21 => w_M_greater v17 v20 g21 (fun v23 g24 => H l2 l3 (l4 + v23) (l5 + 1) g24)))
noncomputable def w_M_parts_l27 (l1 : Int) (K99 : zi_M → Prop) (K128 : Int → Int → zi_M → Prop) (Q : Int → zi_M → Prop) : Nat → Int → Int → Int → Int → zi_M → Prop
  | 0, _, _, _, _, _ => False
  | f + 1, l2, l3, l4, l5, g => (zi_r l5 ∧ ((10 ≤ l5 → K128 l3 l4 g) ∧ (l5 < 10 → ((0 ≤ l5 ∧ l5 < 10) ∧ (zi_r (g 242 l5) ∧ (((g 242 l5) = 0 → w_M_parts_l27 l1 K99 K128 Q f l2 l3 l4 (l5 + 1) g) ∧ (¬ (g 242 l5) = 0 → w_M_has l2 l5 g (fun v8 g9 => ((v8 = 0 → w_M_sideFrom l5 1 g9 (fun v11 g12 => w_M_sideFrom l5 0 g12 (fun v14 g15 => (((zi_and v11 v14) = 0 → w_M_parts_b101 l1 (zi_or (zi_or l2 v11) v14) (l3 + 1) l4 l5 v11 v14 g15 (w_M_parts_l27 l1 K99 K128 Q f) K99 K128 Q) ∧ (¬ (zi_and v11 v14) = 0 → (zi_r l1 ∧ ((¬ l1 = 0 → w_M_parts_b101 l1 (zi_or (zi_or l2 v11) v14) (l3 + 1) l4 l5 v11 v14 g15 (w_M_parts_l27 l1 K99 K128 Q f) K99 K128 Q) ∧ (l1 = 0 → K99 g15)))))))) ∧ (¬ v8 = 0 → w_M_parts_l27 l1 K99 K128 Q f l2 l3 l4 (l5 + 1) g9))))))))))
noncomputable def w_M_parts (l1 : Int) (g : zi_M) (Q : Int → zi_M → Prop) : Prop := (∀ g1, g1 = zi_u g 214 0 0 → w_M_isIn l1 0 1 g1 (fun v2 g3 => ((¬ v2 = 0 → (∃ f38, w_M_parts_l27 l1 (fun g32 => Q (-1) g32) (fun k33 k34 g35 => (zi_r l1 ∧ ((¬ l1 = 0 → Q k33 g35) ∧ (l1 = 0 → Q k34 g35)))) Q f38 0 0 0 0 g3)) ∧ (v2 = 0 → Q (-1) g3))))
set_option maxRecDepth 100000 in
theorem s_M_parts_b101 {E : sx_E} {d : Nat} (hd : 4 ≤ d) {l1 : Int} {l2 : Int} {l3 : Int} {l4 : Int} {l5 : Int} {l6 : Int} {l7 : Int} {H : Int → Int → Int → Int → zi_M → Prop} {K99 : zi_M → Prop} {K128 : Int → Int → zi_M → Prop} {Q : Int → zi_M → Prop} {g : zi_M} (h : w_M_parts_b101 l1 l2 l3 l4 l5 l6 l7 g H K99 K128 Q) (hH : ∀ (m2 : Int) (m3 : Int) (m4 : Int) (m5 : Int) (g : zi_M), H m2 m3 m4 m5 g → zi_W E d 290 27 [some (.ref 214), some (zi_i l1), some (zi_i m2), some (zi_i m3), some (zi_i m4), some (zi_i m5), none, none] [] g (zi_Q Q)) (hK99 : ∀ (g : zi_M), K99 g → zi_W E d 290 99 [some (.ref 214), some (zi_i l1), none, none, none, none, none, none] [] g (zi_Q Q)) (hK128 : ∀ (k3 : Int) (k4 : Int) (g : zi_M), K128 k3 k4 g → zi_W E d 290 128 [some (.ref 214), some (zi_i l1), none, some (zi_i k3), some (zi_i k4), none, none, none] [] g (zi_Q Q)) : zi_W E d 290 101 [some (.ref 214), some (zi_i l1), some (zi_i l2), some (zi_i l3), some (zi_i l4), some (zi_i l5), some (zi_i l6), some (zi_i l7)] [] g (zi_Q Q) := by
  unfold w_M_parts_b101 at h
  refine zi_iload (pc' := 103) rfl rfl rfl ?_
  refine zi_aload_n (pc' := 104) rfl rfl rfl ?_
  refine zi_aload_n (pc' := 105) rfl rfl rfl ?_
  refine zi_iload (pc' := 107) rfl rfl rfl ?_
  refine zi_callV (d' := 1) (as := [_]) (pc' := 110) rfl rfl rfl rfl (Nat.lt_of_lt_of_le (by decide) hd) (s_M_onesOf (Nat.le_refl _) h) (zi_ki (fun v17 g18 h => ?_))
  refine zi_aload_n (pc' := 111) rfl rfl rfl ?_
  refine zi_iload (pc' := 113) rfl rfl rfl ?_
  refine zi_callV (d' := 1) (as := [_]) (pc' := 116) rfl rfl rfl rfl (Nat.lt_of_lt_of_le (by decide) hd) (s_M_onesOf (Nat.le_refl _) h) (zi_ki (fun v20 g21 h => ?_))
  refine zi_callV (d' := 1) (as := [_, _]) (pc' := 119) rfl rfl rfl rfl (Nat.lt_of_lt_of_le (by decide) hd) (s_M_greater (Nat.le_refl _) h) (zi_ki (fun v23 g24 h => ?_))
  refine zi_iadd (pc' := 120) rfl rfl ?_
  refine zi_istore (pc' := 122) [some _, some _, some _, some _, some _, some _, some _, some _] rfl rfl rfl ?_
  refine zi_iinc (pc' := 125) [some _, some _, some _, some _, some _, some _, some _, some _] rfl rfl rfl rfl ?_
  refine zi_goto (x := 27) rfl ?_
  exact zi_wk (hH _ _ _ _ _ h) (And.intro rfl (And.intro rfl (And.intro rfl (And.intro rfl (And.intro rfl (And.intro rfl trivial))))))
set_option maxRecDepth 100000 in
theorem s_M_parts_l27_r {E : sx_E} {d : Nat} (hd : 4 ≤ d) {l1 : Int} {K99 : zi_M → Prop} {K128 : Int → Int → zi_M → Prop} {Q : Int → zi_M → Prop} (hK99 : ∀ (g : zi_M), K99 g → zi_W E d 290 99 [some (.ref 214), some (zi_i l1), none, none, none, none, none, none] [] g (zi_Q Q)) (hK128 : ∀ (k3 : Int) (k4 : Int) (g : zi_M), K128 k3 k4 g → zi_W E d 290 128 [some (.ref 214), some (zi_i l1), none, some (zi_i k3), some (zi_i k4), none, none, none] [] g (zi_Q Q)) : ∀ (f : Nat) {l2 : Int} {l3 : Int} {l4 : Int} {l5 : Int} {g : zi_M}, w_M_parts_l27 l1 K99 K128 Q f l2 l3 l4 l5 g → zi_W E d 290 27 [some (.ref 214), some (zi_i l1), some (zi_i l2), some (zi_i l3), some (zi_i l4), some (zi_i l5), none, none] [] g (zi_Q Q)
  | 0, _, _, _, _, _, h => False.elim h
  | f + 1, l2, l3, l4, l5, g, h => by
    refine zi_iload (pc' := 29) rfl rfl rfl ?_
    refine zi_bipush (pc' := 31) rfl rfl (by decide) ?_
    obtain ⟨o5, h⟩ := h
    refine zi_icmp_ge (x := 128) (pc' := 34) rfl rfl o5 (by decide) (fun c31 => ?_) (fun c31 => ?_)
    · replace h := h.1 c31
      exact zi_wk (hK128 _ _ _ h) (And.intro rfl (And.intro rfl (And.intro rfl (And.intro rfl trivial))))
    · replace h := h.2 c31
      refine zi_aload_n (pc' := 35) rfl rfl rfl ?_
      refine zi_getr (pc' := 38) rfl rfl rfl rfl rfl ?_
      refine zi_iload (pc' := 40) rfl rfl rfl ?_
      obtain ⟨o6, h⟩ := h
      refine zi_iald (pc' := 41) rfl rfl rfl o6 ?_
      obtain ⟨o7, h⟩ := h
      refine zi_if_eq (x := 122) (pc' := 44) rfl rfl o7  (fun c30 => ?_) (fun c30 => ?_)
      · replace h := h.1 c30
        refine zi_iinc (pc' := 125) [some _, some _, some _, some _, some _, some _, none, none] rfl rfl rfl rfl ?_
        refine zi_goto (x := 27) rfl ?_
        exact zi_wk (s_M_parts_l27_r hd hK99 hK128 f h) (And.intro rfl (And.intro rfl (And.intro rfl (And.intro rfl (And.intro rfl (And.intro rfl trivial))))))
      · replace h := h.2 c30
        refine zi_aload_n (pc' := 45) rfl rfl rfl ?_
        refine zi_iload_n (pc' := 46) rfl rfl rfl ?_
        refine zi_iload (pc' := 48) rfl rfl rfl ?_
        refine zi_callV (d' := 1) (as := [_, _]) (pc' := 51) rfl rfl rfl rfl (Nat.lt_of_lt_of_le (by decide) hd) (s_M_has (Nat.le_refl _) h) (zi_kb (fun v8 g9 b10 h => ?_))
        refine zi_if_eq (x := 57) (pc' := 54) rfl rfl (zi_r_bit b10)  (fun c29 => ?_) (fun c29 => ?_)
        · replace h := h.1 c29
          refine zi_aload_n (pc' := 58) rfl rfl rfl ?_
          refine zi_iload (pc' := 60) rfl rfl rfl ?_
          refine zi_iconst (pc' := 61) rfl rfl ?_
          refine zi_callV (d' := 3) (as := [_, _]) (pc' := 64) rfl rfl rfl rfl (Nat.lt_of_lt_of_le (by decide) hd) (s_M_sideFrom (Nat.le_refl _) h) (zi_ki (fun v11 g12 h => ?_))
          refine zi_istore (pc' := 66) [some _, some _, some _, some _, some _, some _, some _, none] rfl rfl rfl ?_
          refine zi_aload_n (pc' := 67) rfl rfl rfl ?_
          refine zi_iload (pc' := 69) rfl rfl rfl ?_
          refine zi_iconst (pc' := 70) rfl rfl ?_
          refine zi_callV (d' := 3) (as := [_, _]) (pc' := 73) rfl rfl rfl rfl (Nat.lt_of_lt_of_le (by decide) hd) (s_M_sideFrom (Nat.le_refl _) h) (zi_ki (fun v14 g15 h => ?_))
          refine zi_istore (pc' := 75) [some _, some _, some _, some _, some _, some _, some _, some _] rfl rfl rfl ?_
          refine zi_iload_n (pc' := 76) rfl rfl rfl ?_
          refine zi_iload (pc' := 78) rfl rfl rfl ?_
          refine zi_ior (pc' := 79) rfl rfl ?_
          refine zi_iload (pc' := 81) rfl rfl rfl ?_
          refine zi_ior (pc' := 82) rfl rfl ?_
          refine zi_istore_n (pc' := 83) [some _, some _, some _, some _, some _, some _, some _, some _] rfl rfl rfl ?_
          refine zi_iload_n (pc' := 84) rfl rfl rfl ?_
          refine zi_iconst (pc' := 85) rfl rfl ?_
          refine zi_iadd (pc' := 86) rfl rfl ?_
          refine zi_istore_n (pc' := 87) [some _, some _, some _, some _, some _, some _, some _, some _] rfl rfl rfl ?_
          refine zi_iload (pc' := 89) rfl rfl rfl ?_
          refine zi_iload (pc' := 91) rfl rfl rfl ?_
          refine zi_iand (pc' := 92) rfl rfl ?_
          refine zi_if_eq (x := 101) (pc' := 95) rfl rfl (zi_r_and _ _)  (fun c28 => ?_) (fun c28 => ?_)
          · replace h := h.1 c28
            exact zi_wk (s_M_parts_b101 hd h (fun _ _ _ _ _ h => s_M_parts_l27_r hd hK99 hK128 f h) hK99 hK128) (And.intro rfl (And.intro rfl (And.intro rfl (And.intro rfl (And.intro rfl (And.intro rfl (And.intro rfl (And.intro rfl trivial))))))))
          · replace h := h.2 c28
            refine zi_iload_n (pc' := 96) rfl rfl rfl ?_
            obtain ⟨o26, h⟩ := h
            refine zi_if_ne (x := 101) (pc' := 99) rfl rfl o26  (fun c27 => ?_) (fun c27 => ?_)
            · replace h := h.1 c27
              exact zi_wk (s_M_parts_b101 hd h (fun _ _ _ _ _ h => s_M_parts_l27_r hd hK99 hK128 f h) hK99 hK128) (And.intro rfl (And.intro rfl (And.intro rfl (And.intro rfl (And.intro rfl (And.intro rfl (And.intro rfl (And.intro rfl trivial))))))))
            · replace h := h.2 c27
              exact zi_wk (hK99 _ h) (And.intro rfl (And.intro rfl trivial))
        · replace h := h.2 c29
          refine zi_goto (x := 122) rfl ?_
          refine zi_iinc (pc' := 125) [some _, some _, some _, some _, some _, some _, none, none] rfl rfl rfl rfl ?_
          refine zi_goto (x := 27) rfl ?_
          exact zi_wk (s_M_parts_l27_r hd hK99 hK128 f h) (And.intro rfl (And.intro rfl (And.intro rfl (And.intro rfl (And.intro rfl (And.intro rfl trivial))))))
set_option maxRecDepth 100000 in
theorem s_M_parts_l27 {E : sx_E} {d : Nat} (hd : 4 ≤ d) {l1 : Int} {K99 : zi_M → Prop} {K128 : Int → Int → zi_M → Prop} {Q : Int → zi_M → Prop} {l2 : Int} {l3 : Int} {l4 : Int} {l5 : Int} {g : zi_M} (h : ∃ f, w_M_parts_l27 l1 K99 K128 Q f l2 l3 l4 l5 g) (hK99 : ∀ (g : zi_M), K99 g → zi_W E d 290 99 [some (.ref 214), some (zi_i l1), none, none, none, none, none, none] [] g (zi_Q Q)) (hK128 : ∀ (k3 : Int) (k4 : Int) (g : zi_M), K128 k3 k4 g → zi_W E d 290 128 [some (.ref 214), some (zi_i l1), none, some (zi_i k3), some (zi_i k4), none, none, none] [] g (zi_Q Q)) : zi_W E d 290 27 [some (.ref 214), some (zi_i l1), some (zi_i l2), some (zi_i l3), some (zi_i l4), some (zi_i l5), none, none] [] g (zi_Q Q) := by
  obtain ⟨f, h⟩ := h
  exact s_M_parts_l27_r hd hK99 hK128 f h
set_option maxRecDepth 100000 in
theorem s_M_parts {E : sx_E} {d : Nat} (hd : 4 ≤ d) {l1 : Int} {g : zi_M} {Q : Int → zi_M → Prop} (h : w_M_parts l1 g Q) : zi_S E d 290 [.ref 214, zi_i l1] g (zi_Q Q) := by
  refine zi_Sof jf_290 [some (.ref 214), some (zi_i l1), none, none, none, none, none, none] rfl (And.intro rfl (And.intro rfl trivial)) ?_
  unfold w_M_parts at h
  refine zi_aload_n (pc' := 1) rfl rfl rfl ?_
  refine zi_iconst (pc' := 2) rfl rfl ?_
  refine zi_puti (pc' := 5) 0 rfl rfl rfl rfl rfl  ?_
  replace h := h _ rfl
  refine zi_aload_n (pc' := 6) rfl rfl rfl ?_
  refine zi_iload_n (pc' := 7) rfl rfl rfl ?_
  refine zi_iconst (pc' := 8) rfl rfl ?_
  refine zi_iconst (pc' := 9) rfl rfl ?_
  refine zi_callV (d' := 1) (as := [_, _, _]) (pc' := 12) rfl rfl rfl rfl (Nat.lt_of_lt_of_le (by decide) hd) (s_M_isIn (Nat.le_refl _) h) (zi_kb (fun v2 g3 b4 h => ?_))
  refine zi_if_ne (x := 17) (pc' := 15) rfl rfl (zi_r_bit b4)  (fun c39 => ?_) (fun c39 => ?_)
  · replace h := h.1 c39
    refine zi_iconst (pc' := 18) rfl rfl ?_
    refine zi_istore_n (pc' := 19) [some _, some _, some _, none, none, none, none, none] rfl rfl rfl ?_
    refine zi_iconst (pc' := 20) rfl rfl ?_
    refine zi_istore_n (pc' := 21) [some _, some _, some _, some _, none, none, none, none] rfl rfl rfl ?_
    refine zi_iconst (pc' := 22) rfl rfl ?_
    refine zi_istore (pc' := 24) [some _, some _, some _, some _, some _, none, none, none] rfl rfl rfl ?_
    refine zi_iconst (pc' := 25) rfl rfl ?_
    refine zi_istore (pc' := 27) [some _, some _, some _, some _, some _, some _, none, none] rfl rfl rfl ?_
    refine zi_wk (s_M_parts_l27 hd h (fun g32 h => ?_) (fun k33 k34 g35 h => ?_)) (And.intro rfl (And.intro rfl (And.intro rfl (And.intro rfl (And.intro rfl (And.intro rfl trivial))))))
    · refine zi_iconst (pc' := 100) rfl rfl ?_
      exact zi_iret rfl rfl h
    · refine zi_iload_n (pc' := 129) rfl rfl rfl ?_
      obtain ⟨o36, h⟩ := h
      refine zi_if_ne (x := 137) (pc' := 132) rfl rfl o36  (fun c37 => ?_) (fun c37 => ?_)
      · replace h := h.1 c37
        refine zi_iload_n (pc' := 138) rfl rfl rfl ?_
        exact zi_iret rfl rfl h
      · replace h := h.2 c37
        refine zi_iload (pc' := 134) rfl rfl rfl ?_
        refine zi_goto (x := 138) rfl ?_
        exact zi_iret rfl rfl h
  · replace h := h.2 c39
    refine zi_iconst (pc' := 16) rfl rfl ?_
    exact zi_iret rfl rfl h
-- SpoutNews$Thought.wordsOf(II)I
noncomputable def w_Thought_wordsOf_l5 (l1 : Int) (l2 : Int) (K37 : Int → zi_M → Prop) (Q : Int → zi_M → Prop) : Nat → Int → Int → zi_M → Prop
  | 0, _, _, _ => False
  | f + 1, l3, l4, g => (zi_r l4 ∧ zi_r l2 ∧ ((l2 ≤ l4 → K37 l3 g) ∧ (l4 < l2 → ((¬ (zi_and (zi_shr l1 l4) 1) = 1 → w_Thought_wordsOf_l5 l1 l2 K37 Q f l3 (l4 + 1) g) ∧ ((zi_and (zi_shr l1 l4) 1) = 1 → ((0 ≤ l4 ∧ l4 < 10) ∧ w_Thought_wordsOf_l5 l1 l2 K37 Q f (zi_or l3 (g 185 l4)) (l4 + 1) g))))))
noncomputable def w_Thought_wordsOf (l1 : Int) (l2 : Int) (g : zi_M) (Q : Int → zi_M → Prop) : Prop := (∃ f8, w_Thought_wordsOf_l5 l1 l2 (fun k6 g7 => Q k6 g7) Q f8 0 0 g)
set_option maxRecDepth 100000 in
theorem s_Thought_wordsOf_l5_r {E : sx_E} {d : Nat} (hd : 1 ≤ d) {l1 : Int} {l2 : Int} {K37 : Int → zi_M → Prop} {Q : Int → zi_M → Prop} (hK37 : ∀ (k3 : Int) (g : zi_M), K37 k3 g → zi_W E d 147 37 [some (.ref 180), some (zi_i l1), some (zi_i l2), some (zi_i k3), none] [] g (zi_Q Q)) : ∀ (f : Nat) {l3 : Int} {l4 : Int} {g : zi_M}, w_Thought_wordsOf_l5 l1 l2 K37 Q f l3 l4 g → zi_W E d 147 5 [some (.ref 180), some (zi_i l1), some (zi_i l2), some (zi_i l3), some (zi_i l4)] [] g (zi_Q Q)
  | 0, _, _, _, h => False.elim h
  | f + 1, l3, l4, g, h => by
    refine zi_iload (pc' := 7) rfl rfl rfl ?_
    refine zi_iload_n (pc' := 8) rfl rfl rfl ?_
    obtain ⟨o1, o2, h⟩ := h
    refine zi_icmp_ge (x := 37) (pc' := 11) rfl rfl o1 o2 (fun c5 => ?_) (fun c5 => ?_)
    · replace h := h.1 c5
      exact zi_wk (hK37 _ _ h) (And.intro rfl (And.intro rfl (And.intro rfl (And.intro rfl trivial))))
    · replace h := h.2 c5
      refine zi_iload_n (pc' := 12) rfl rfl rfl ?_
      refine zi_iload (pc' := 14) rfl rfl rfl ?_
      refine zi_ishr (pc' := 15) rfl rfl ?_
      refine zi_iconst (pc' := 16) rfl rfl ?_
      refine zi_iand (pc' := 17) rfl rfl ?_
      refine zi_iconst (pc' := 18) rfl rfl ?_
      refine zi_icmp_ne (x := 31) (pc' := 21) rfl rfl (zi_r_and _ _) (by decide) (fun c4 => ?_) (fun c4 => ?_)
      · replace h := h.1 c4
        refine zi_iinc (pc' := 34) [some _, some _, some _, some _, some _] rfl rfl rfl rfl ?_
        refine zi_goto (x := 5) rfl ?_
        exact zi_wk (s_Thought_wordsOf_l5_r hd hK37 f h) (And.intro rfl (And.intro rfl (And.intro rfl (And.intro rfl (And.intro rfl trivial)))))
      · replace h := h.2 c4
        refine zi_iload_n (pc' := 22) rfl rfl rfl ?_
        refine zi_aload_n (pc' := 23) rfl rfl rfl ?_
        refine zi_getr (pc' := 26) rfl rfl rfl rfl rfl ?_
        refine zi_iload (pc' := 28) rfl rfl rfl ?_
        obtain ⟨o3, h⟩ := h
        refine zi_iald (pc' := 29) rfl rfl rfl o3 ?_
        refine zi_ior (pc' := 30) rfl rfl ?_
        refine zi_istore_n (pc' := 31) [some _, some _, some _, some _, some _] rfl rfl rfl ?_
        refine zi_iinc (pc' := 34) [some _, some _, some _, some _, some _] rfl rfl rfl rfl ?_
        refine zi_goto (x := 5) rfl ?_
        exact zi_wk (s_Thought_wordsOf_l5_r hd hK37 f h) (And.intro rfl (And.intro rfl (And.intro rfl (And.intro rfl (And.intro rfl trivial)))))
set_option maxRecDepth 100000 in
theorem s_Thought_wordsOf_l5 {E : sx_E} {d : Nat} (hd : 1 ≤ d) {l1 : Int} {l2 : Int} {K37 : Int → zi_M → Prop} {Q : Int → zi_M → Prop} {l3 : Int} {l4 : Int} {g : zi_M} (h : ∃ f, w_Thought_wordsOf_l5 l1 l2 K37 Q f l3 l4 g) (hK37 : ∀ (k3 : Int) (g : zi_M), K37 k3 g → zi_W E d 147 37 [some (.ref 180), some (zi_i l1), some (zi_i l2), some (zi_i k3), none] [] g (zi_Q Q)) : zi_W E d 147 5 [some (.ref 180), some (zi_i l1), some (zi_i l2), some (zi_i l3), some (zi_i l4)] [] g (zi_Q Q) := by
  obtain ⟨f, h⟩ := h
  exact s_Thought_wordsOf_l5_r hd hK37 f h
set_option maxRecDepth 100000 in
theorem s_Thought_wordsOf {E : sx_E} {d : Nat} (hd : 1 ≤ d) {l1 : Int} {l2 : Int} {g : zi_M} {Q : Int → zi_M → Prop} (h : w_Thought_wordsOf l1 l2 g Q) : zi_S E d 147 [.ref 180, zi_i l1, zi_i l2] g (zi_Q Q) := by
  refine zi_Sof jf_147 [some (.ref 180), some (zi_i l1), some (zi_i l2), none, none] rfl (And.intro rfl (And.intro rfl (And.intro rfl trivial))) ?_
  unfold w_Thought_wordsOf at h
  refine zi_iconst (pc' := 1) rfl rfl ?_
  refine zi_istore_n (pc' := 2) [some _, some _, some _, some _, none] rfl rfl rfl ?_
  refine zi_iconst (pc' := 3) rfl rfl ?_
  refine zi_istore (pc' := 5) [some _, some _, some _, some _, some _] rfl rfl rfl ?_
  refine zi_wk (s_Thought_wordsOf_l5 hd h (fun k6 g7 h => ?_)) (And.intro rfl (And.intro rfl (And.intro rfl (And.intro rfl (And.intro rfl trivial)))))
  refine zi_iload_n (pc' := 38) rfl rfl rfl ?_
  exact zi_iret rfl rfl h
-- SpoutNews$Thought.fewestThatKnow(LSpoutNews$World;I)I
noncomputable def w_Thought_fewestThatKnow_l2 (K27 : zi_M → Prop) (Q : Int → zi_M → Prop) : Nat → Int → zi_M → Prop
  | 0, _, _ => False
  | f + 1, l3, g => (zi_r l3 ∧ zi_r (g 2 8) ∧ (((g 2 8) ≤ l3 → K27 g) ∧ (l3 < (g 2 8) → w_World_heardSet 2 l3 g (fun v3 g4 => ((0 ≤ l3 ∧ l3 < 10) ∧ (∀ g7, g7 = zi_u g4 185 l3 v3 → w_Thought_fewestThatKnow_l2 K27 Q f (l3 + 1) g7))))))
noncomputable def w_Thought_fewestThatKnow_l36 (l2 : Int) (K91 : Int → zi_M → Prop) (Q : Int → zi_M → Prop) : Nat → Int → Int → Int → zi_M → Prop
  | 0, _, _, _, _ => False
  | f + 1, l3, l4, l5, g => (zi_r l5 ∧ (((zi_shl 1 (g 2 8)) ≤ l5 → K91 l3 g) ∧ (l5 < (zi_shl 1 (g 2 8)) → w_Integer_bitCount l5 g (fun v11 g12 => (zi_r v11 ∧ zi_r l4 ∧ ((l4 ≤ v11 → w_Thought_fewestThatKnow_l36 l2 K91 Q f l3 l4 (l5 + 1) g12) ∧ (v11 < l4 → w_Thought_wordsOf l5 (g12 2 8) g12 (fun v16 g17 => ((¬ (zi_and l2 (zi_xor v16 (-1))) = 0 → w_Thought_fewestThatKnow_l36 l2 K91 Q f l3 l4 (l5 + 1) g17) ∧ ((zi_and l2 (zi_xor v16 (-1))) = 0 → w_Thought_fewestThatKnow_l36 l2 K91 Q f l5 v11 (l5 + 1) g17))))))))))
noncomputable def w_Thought_fewestThatKnow (l2 : Int) (g : zi_M) (Q : Int → zi_M → Prop) : Prop := (∃ f25, w_Thought_fewestThatKnow_l2 (fun g9 => (∃ f24, w_Thought_fewestThatKnow_l36 l2 (fun k22 g23 => Q k22 g23) Q f24 (-1) 11 0 g9)) Q f25 0 g)
set_option maxRecDepth 100000 in
theorem s_Thought_fewestThatKnow_l2_r {E : sx_E} {d : Nat} (hd : 4 ≤ d) {x2 : Int} {K27 : zi_M → Prop} {Q : Int → zi_M → Prop} (hK27 : ∀ (g : zi_M), K27 g → zi_W E d 146 27 [some (.ref 180), some (.ref 2), some (zi_i x2), none, none, none, none] [] g (zi_Q Q)) : ∀ (f : Nat) {l3 : Int} {g : zi_M}, w_Thought_fewestThatKnow_l2 K27 Q f l3 g → zi_W E d 146 2 [some (.ref 180), some (.ref 2), some (zi_i x2), some (zi_i l3), none, none, none] [] g (zi_Q Q)
  | 0, _, _, h => False.elim h
  | f + 1, l3, g, h => by
    refine zi_iload_n (pc' := 3) rfl rfl rfl ?_
    refine zi_aload_n (pc' := 4) rfl rfl rfl ?_
    refine zi_geti (pc' := 7) 8 rfl rfl rfl rfl rfl rfl ?_
    obtain ⟨o1, o2, h⟩ := h
    refine zi_icmp_ge (x := 27) (pc' := 10) rfl rfl o1 o2 (fun c8 => ?_) (fun c8 => ?_)
    · replace h := h.1 c8
      exact zi_wk (hK27 _ h) (And.intro rfl (And.intro rfl (And.intro rfl trivial)))
    · replace h := h.2 c8
      refine zi_aload_n (pc' := 11) rfl rfl rfl ?_
      refine zi_getr (pc' := 14) rfl rfl rfl rfl rfl ?_
      refine zi_iload_n (pc' := 15) rfl rfl rfl ?_
      refine zi_aload_n (pc' := 16) rfl rfl rfl ?_
      refine zi_iload_n (pc' := 17) rfl rfl rfl ?_
      refine zi_callV (d' := 3) (as := [_]) (pc' := 20) rfl rfl rfl rfl (Nat.lt_of_lt_of_le (by decide) hd) (s_World_heardSet (Nat.le_refl _) rfl h) (zi_ki (fun v3 g4 h => ?_))
      obtain ⟨o6, h⟩ := h
      refine zi_iast (pc' := 21) rfl rfl rfl o6 ?_
      replace h := h _ rfl
      refine zi_iinc (pc' := 24) [some _, some _, some _, some _, none, none, none] rfl rfl rfl rfl ?_
      refine zi_goto (x := 2) rfl ?_
      exact zi_wk (s_Thought_fewestThatKnow_l2_r hd hK27 f h) (And.intro rfl (And.intro rfl (And.intro rfl (And.intro rfl trivial))))
set_option maxRecDepth 100000 in
theorem s_Thought_fewestThatKnow_l2 {E : sx_E} {d : Nat} (hd : 4 ≤ d) {x2 : Int} {K27 : zi_M → Prop} {Q : Int → zi_M → Prop} {l3 : Int} {g : zi_M} (h : ∃ f, w_Thought_fewestThatKnow_l2 K27 Q f l3 g) (hK27 : ∀ (g : zi_M), K27 g → zi_W E d 146 27 [some (.ref 180), some (.ref 2), some (zi_i x2), none, none, none, none] [] g (zi_Q Q)) : zi_W E d 146 2 [some (.ref 180), some (.ref 2), some (zi_i x2), some (zi_i l3), none, none, none] [] g (zi_Q Q) := by
  obtain ⟨f, h⟩ := h
  exact s_Thought_fewestThatKnow_l2_r hd hK27 f h
set_option maxRecDepth 100000 in
theorem s_Thought_fewestThatKnow_l36_r {E : sx_E} {d : Nat} (hd : 4 ≤ d) {l2 : Int} {K91 : Int → zi_M → Prop} {Q : Int → zi_M → Prop} (hK91 : ∀ (k3 : Int) (g : zi_M), K91 k3 g → zi_W E d 146 91 [some (.ref 180), some (.ref 2), some (zi_i l2), some (zi_i k3), none, none, none] [] g (zi_Q Q)) : ∀ (f : Nat) {l3 : Int} {l4 : Int} {l5 : Int} {g : zi_M}, w_Thought_fewestThatKnow_l36 l2 K91 Q f l3 l4 l5 g → zi_W E d 146 36 [some (.ref 180), some (.ref 2), some (zi_i l2), some (zi_i l3), some (zi_i l4), some (zi_i l5), none] [] g (zi_Q Q)
  | 0, _, _, _, _, h => False.elim h
  | f + 1, l3, l4, l5, g, h => by
    refine zi_iload (pc' := 38) rfl rfl rfl ?_
    refine zi_iconst (pc' := 39) rfl rfl ?_
    refine zi_aload_n (pc' := 40) rfl rfl rfl ?_
    refine zi_geti (pc' := 43) 8 rfl rfl rfl rfl rfl rfl ?_
    refine zi_ishl (pc' := 44) rfl rfl ?_
    obtain ⟨o10, h⟩ := h
    refine zi_icmp_ge (x := 91) (pc' := 47) rfl rfl o10 (zi_r_shl _ _) (fun c21 => ?_) (fun c21 => ?_)
    · replace h := h.1 c21
      exact zi_wk (hK91 _ _ h) (And.intro rfl (And.intro rfl (And.intro rfl (And.intro rfl trivial))))
    · replace h := h.2 c21
      refine zi_iload (pc' := 49) rfl rfl rfl ?_
      refine zi_callS (d' := 1) (as := [_]) (pc' := 52) rfl rfl rfl (Nat.lt_of_lt_of_le (by decide) hd) (s_Integer_bitCount (Nat.le_refl _) h) (zi_ki (fun v11 g12 h => ?_))
      refine zi_istore (pc' := 54) [some _, some _, some _, some _, some _, some _, some _] rfl rfl rfl ?_
      refine zi_iload (pc' := 56) rfl rfl rfl ?_
      refine zi_iload (pc' := 58) rfl rfl rfl ?_
      obtain ⟨o14, o15, h⟩ := h
      refine zi_icmp_ge (x := 85) (pc' := 61) rfl rfl o14 o15 (fun c20 => ?_) (fun c20 => ?_)
      · replace h := h.1 c20
        refine zi_iinc (pc' := 88) [some _, some _, some _, some _, some _, some _, some _] rfl rfl rfl rfl ?_
        refine zi_goto (x := 36) rfl ?_
        exact zi_wk (s_Thought_fewestThatKnow_l36_r hd hK91 f h) (And.intro rfl (And.intro rfl (And.intro rfl (And.intro rfl (And.intro rfl (And.intro rfl trivial))))))
      · replace h := h.2 c20
        refine zi_iload_n (pc' := 62) rfl rfl rfl ?_
        refine zi_aload_n (pc' := 63) rfl rfl rfl ?_
        refine zi_iload (pc' := 65) rfl rfl rfl ?_
        refine zi_aload_n (pc' := 66) rfl rfl rfl ?_
        refine zi_geti (pc' := 69) 8 rfl rfl rfl rfl rfl rfl ?_
        refine zi_callV (d' := 1) (as := [_, _]) (pc' := 72) rfl rfl rfl rfl (Nat.lt_of_lt_of_le (by decide) hd) (s_Thought_wordsOf (Nat.le_refl _) h) (zi_ki (fun v16 g17 h => ?_))
        refine zi_iconst (pc' := 73) rfl rfl ?_
        refine zi_ixor (pc' := 74) rfl rfl ?_
        refine zi_iand (pc' := 75) rfl rfl ?_
        refine zi_if_ne (x := 85) (pc' := 78) rfl rfl (zi_r_and _ _)  (fun c19 => ?_) (fun c19 => ?_)
        · replace h := h.1 c19
          refine zi_iinc (pc' := 88) [some _, some _, some _, some _, some _, some _, some _] rfl rfl rfl rfl ?_
          refine zi_goto (x := 36) rfl ?_
          exact zi_wk (s_Thought_fewestThatKnow_l36_r hd hK91 f h) (And.intro rfl (And.intro rfl (And.intro rfl (And.intro rfl (And.intro rfl (And.intro rfl trivial))))))
        · replace h := h.2 c19
          refine zi_iload (pc' := 80) rfl rfl rfl ?_
          refine zi_istore_n (pc' := 81) [some _, some _, some _, some _, some _, some _, some _] rfl rfl rfl ?_
          refine zi_iload (pc' := 83) rfl rfl rfl ?_
          refine zi_istore (pc' := 85) [some _, some _, some _, some _, some _, some _, some _] rfl rfl rfl ?_
          refine zi_iinc (pc' := 88) [some _, some _, some _, some _, some _, some _, some _] rfl rfl rfl rfl ?_
          refine zi_goto (x := 36) rfl ?_
          exact zi_wk (s_Thought_fewestThatKnow_l36_r hd hK91 f h) (And.intro rfl (And.intro rfl (And.intro rfl (And.intro rfl (And.intro rfl (And.intro rfl trivial))))))
set_option maxRecDepth 100000 in
theorem s_Thought_fewestThatKnow_l36 {E : sx_E} {d : Nat} (hd : 4 ≤ d) {l2 : Int} {K91 : Int → zi_M → Prop} {Q : Int → zi_M → Prop} {l3 : Int} {l4 : Int} {l5 : Int} {g : zi_M} (h : ∃ f, w_Thought_fewestThatKnow_l36 l2 K91 Q f l3 l4 l5 g) (hK91 : ∀ (k3 : Int) (g : zi_M), K91 k3 g → zi_W E d 146 91 [some (.ref 180), some (.ref 2), some (zi_i l2), some (zi_i k3), none, none, none] [] g (zi_Q Q)) : zi_W E d 146 36 [some (.ref 180), some (.ref 2), some (zi_i l2), some (zi_i l3), some (zi_i l4), some (zi_i l5), none] [] g (zi_Q Q) := by
  obtain ⟨f, h⟩ := h
  exact s_Thought_fewestThatKnow_l36_r hd hK91 f h
set_option maxRecDepth 100000 in
theorem s_Thought_fewestThatKnow {E : sx_E} {d : Nat} (hd : 4 ≤ d) {l2 : Int} {g : zi_M} {Q : Int → zi_M → Prop} (h : w_Thought_fewestThatKnow l2 g Q) : zi_S E d 146 [.ref 180, .ref 2, zi_i l2] g (zi_Q Q) := by
  refine zi_Sof jf_146 [some (.ref 180), some (.ref 2), some (zi_i l2), none, none, none, none] rfl (And.intro rfl (And.intro rfl (And.intro rfl trivial))) ?_
  unfold w_Thought_fewestThatKnow at h
  refine zi_iconst (pc' := 1) rfl rfl ?_
  refine zi_istore_n (pc' := 2) [some _, some _, some _, some _, none, none, none] rfl rfl rfl ?_
  refine zi_wk (s_Thought_fewestThatKnow_l2 hd h (fun g9 h => ?_)) (And.intro rfl (And.intro rfl (And.intro rfl (And.intro rfl trivial))))
  refine zi_iconst (pc' := 28) rfl rfl ?_
  refine zi_istore_n (pc' := 29) [some _, some _, some _, some _, none, none, none] rfl rfl rfl ?_
  refine zi_bipush (pc' := 31) rfl rfl (by decide) ?_
  refine zi_istore (pc' := 33) [some _, some _, some _, some _, some _, none, none] rfl rfl rfl ?_
  refine zi_iconst (pc' := 34) rfl rfl ?_
  refine zi_istore (pc' := 36) [some _, some _, some _, some _, some _, some _, none] rfl rfl rfl ?_
  refine zi_wk (s_Thought_fewestThatKnow_l36 hd h (fun k22 g23 h => ?_)) (And.intro rfl (And.intro rfl (And.intro rfl (And.intro rfl (And.intro rfl (And.intro rfl trivial))))))
  refine zi_iload_n (pc' := 92) rfl rfl rfl ?_
  exact zi_iret rfl rfl h
-- SpoutNews.known(II)I
noncomputable def w_S_known_b18 (l1 : Int) (l2 : Int) (g : zi_M) (Q : Int → zi_M → Prop) : Prop := w_Thought_fewestThatKnow l1 g (fun v5 g6 => (zi_r l2 ∧ ((¬ l2 = 0 → Q v5 g6) ∧ (l2 = 0 → (zi_r v5 ∧ ((v5 = (-1) → Q v5 g6) ∧ (¬ v5 = (-1) → w_Integer_bitCount v5 g6 (fun v10 g11 => Q v10 g11))))))))
noncomputable def w_S_known (l1 : Int) (l2 : Int) (g : zi_M) (Q : Int → zi_M → Prop) : Prop := w_S_isWordSet l1 g (fun v1 g2 => ((v1 = 0 → Q (-1) g2) ∧ (¬ v1 = 0 → (zi_r l2 ∧ ((l2 = 0 → w_S_known_b18 l1 l2 g2 Q) ∧ (¬ l2 = 0 → ((l2 = 1 → w_S_known_b18 l1 l2 g2 Q) ∧ (¬ l2 = 1 → Q (-1) g2))))))))
set_option maxRecDepth 100000 in
theorem s_S_known_b18 {E : sx_E} {d : Nat} (hd : 5 ≤ d) {l1 : Int} {l2 : Int} {Q : Int → zi_M → Prop} {g : zi_M} (h : w_S_known_b18 l1 l2 g Q) : zi_W E d 145 18 [some (.ref 0), some (zi_i l1), some (zi_i l2), none] [] g (zi_Q Q) := by
  unfold w_S_known_b18 at h
  refine zi_aload_n (pc' := 19) rfl rfl rfl ?_
  refine zi_getr (pc' := 22) rfl rfl rfl rfl rfl ?_
  refine zi_aload_n (pc' := 23) rfl rfl rfl ?_
  refine zi_getr (pc' := 26) rfl rfl rfl rfl rfl ?_
  refine zi_getr (pc' := 29) rfl rfl rfl rfl rfl ?_
  refine zi_iload_n (pc' := 30) rfl rfl rfl ?_
  refine zi_callV (d' := 4) (as := [_, _]) (pc' := 33) rfl rfl rfl rfl (Nat.lt_of_lt_of_le (by decide) hd) (s_Thought_fewestThatKnow (Nat.le_refl _) h) (zi_ki (fun v5 g6 h => ?_))
  refine zi_istore_n (pc' := 34) [some _, some _, some _, some _] rfl rfl rfl ?_
  refine zi_iload_n (pc' := 35) rfl rfl rfl ?_
  obtain ⟨o8, h⟩ := h
  refine zi_if_ne (x := 50) (pc' := 38) rfl rfl o8  (fun c14 => ?_) (fun c14 => ?_)
  · replace h := h.1 c14
    refine zi_iload_n (pc' := 51) rfl rfl rfl ?_
    exact zi_iret rfl rfl h
  · replace h := h.2 c14
    refine zi_iload_n (pc' := 39) rfl rfl rfl ?_
    refine zi_iconst (pc' := 40) rfl rfl ?_
    obtain ⟨o9, h⟩ := h
    refine zi_icmp_eq (x := 50) (pc' := 43) rfl rfl o9 (by decide) (fun c13 => ?_) (fun c13 => ?_)
    · replace h := h.1 c13
      refine zi_iload_n (pc' := 51) rfl rfl rfl ?_
      exact zi_iret rfl rfl h
    · replace h := h.2 c13
      refine zi_iload_n (pc' := 44) rfl rfl rfl ?_
      refine zi_callS (d' := 1) (as := [_]) (pc' := 47) rfl rfl rfl (Nat.lt_of_lt_of_le (by decide) hd) (s_Integer_bitCount (Nat.le_refl _) h) (zi_ki (fun v10 g11 h => ?_))
      refine zi_goto (x := 51) rfl ?_
      exact zi_iret rfl rfl h
set_option maxRecDepth 100000 in
theorem s_S_known {E : sx_E} {d : Nat} (hd : 5 ≤ d) {l1 : Int} {l2 : Int} {g : zi_M} {Q : Int → zi_M → Prop} (h : w_S_known l1 l2 g Q) : zi_S E d 145 [.ref 0, zi_i l1, zi_i l2] g (zi_Q Q) := by
  refine zi_Sof jf_145 [some (.ref 0), some (zi_i l1), some (zi_i l2), none] rfl (And.intro rfl (And.intro rfl (And.intro rfl trivial))) ?_
  unfold w_S_known at h
  refine zi_iload_n (pc' := 1) rfl rfl rfl ?_
  refine zi_callS (d' := 1) (as := [_]) (pc' := 4) rfl rfl rfl (Nat.lt_of_lt_of_le (by decide) hd) (s_S_isWordSet (Nat.le_refl _) h) (zi_kb (fun v1 g2 b3 h => ?_))
  refine zi_if_eq (x := 16) (pc' := 7) rfl rfl (zi_r_bit b3)  (fun c17 => ?_) (fun c17 => ?_)
  · replace h := h.1 c17
    refine zi_iconst (pc' := 17) rfl rfl ?_
    exact zi_iret rfl rfl h
  · replace h := h.2 c17
    refine zi_iload_n (pc' := 8) rfl rfl rfl ?_
    obtain ⟨o4, h⟩ := h
    refine zi_if_eq (x := 18) (pc' := 11) rfl rfl o4  (fun c16 => ?_) (fun c16 => ?_)
    · replace h := h.1 c16
      exact zi_wk (s_S_known_b18 hd h) (And.intro rfl (And.intro rfl (And.intro rfl trivial)))
    · replace h := h.2 c16
      refine zi_iload_n (pc' := 12) rfl rfl rfl ?_
      refine zi_iconst (pc' := 13) rfl rfl ?_
      refine zi_icmp_eq (x := 18) (pc' := 16) rfl rfl o4 (by decide) (fun c15 => ?_) (fun c15 => ?_)
      · replace h := h.1 c15
        exact zi_wk (s_S_known_b18 hd h) (And.intro rfl (And.intro rfl (And.intro rfl trivial)))
      · replace h := h.2 c15
        refine zi_iconst (pc' := 17) rfl rfl ?_
        exact zi_iret rfl rfl h
-- SpoutNewsModel.known(II)I
noncomputable def w_M_known_l50 (l4 : Int) (K87 : Int → zi_M → Prop) (Q : Int → zi_M → Prop) : Nat → Int → Int → zi_M → Prop
  | 0, _, _, _ => False
  | f + 1, l5, l6, g => (zi_r l6 ∧ zi_r (g 214 6) ∧ (((g 214 6) ≤ l6 → K87 l5 g) ∧ (l6 < (g 214 6) → w_M_has l4 l6 g (fun v11 g12 => ((v11 = 0 → w_M_known_l50 l4 K87 Q f l5 (l6 + 1) g12) ∧ (¬ v11 = 0 → w_M_heardSet l6 g12 (fun v14 g15 => w_M_known_l50 l4 K87 Q f (zi_or l5 v14) (l6 + 1) g15)))))))
noncomputable def w_M_known_l33 (l1 : Int) (K124 : Int → zi_M → Prop) (Q : Int → zi_M → Prop) : Nat → Int → Int → zi_M → Prop
  | 0, _, _, _ => False
  | f + 1, l3, l4, g => (zi_r l4 ∧ (((zi_shl 1 (g 214 6)) ≤ l4 → K124 l3 g) ∧ (l4 < (zi_shl 1 (g 214 6)) → (∃ f33, w_M_known_l50 l4 (fun k19 g20 => ((¬ (zi_and l1 (zi_xor k19 (-1))) = 0 → w_M_known_l33 l1 K124 Q f l3 (l4 + 1) g20) ∧ ((zi_and l1 (zi_xor k19 (-1))) = 0 → (zi_r l3 ∧ ((l3 = (-1) → w_M_known_l33 l1 K124 Q f l4 (l4 + 1) g20) ∧ (¬ l3 = (-1) → w_M_onesOf l4 g20 (fun v22 g23 => w_M_onesOf l3 g23 (fun v25 g26 => (zi_r v22 ∧ zi_r v25 ∧ ((v25 ≤ v22 → w_M_known_l33 l1 K124 Q f l3 (l4 + 1) g26) ∧ (v22 < v25 → w_M_known_l33 l1 K124 Q f l4 (l4 + 1) g26))))))))))) Q f33 0 0 g))))
noncomputable def w_M_known (l1 : Int) (l2 : Int) (g : zi_M) (Q : Int → zi_M → Prop) : Prop := (∀ g1, g1 = zi_u g 214 0 0 → w_M_isIn l1 0 65535 g1 (fun v2 g3 => ((v2 = 0 → Q (-1) g3) ∧ (¬ v2 = 0 → w_M_isIn l2 0 1 g3 (fun v5 g6 => ((¬ v5 = 0 → (∃ f44, w_M_known_l33 l1 (fun k35 g36 => (zi_r k35 ∧ ((k35 = (-1) → Q k35 g36) ∧ (¬ k35 = (-1) → (zi_r l2 ∧ ((¬ l2 = 1 → w_M_onesOf k35 g36 (fun v39 g40 => Q v39 g40)) ∧ (l2 = 1 → Q k35 g36))))))) Q f44 (-1) 0 g6)) ∧ (v5 = 0 → Q (-1) g6)))))))
set_option maxRecDepth 100000 in
theorem s_M_known_l50_r {E : sx_E} {d : Nat} (hd : 3 ≤ d) {l4 : Int} {x1 : Int} {x2 : Int} {x3 : Int} {K87 : Int → zi_M → Prop} {Q : Int → zi_M → Prop} (hK87 : ∀ (k5 : Int) (g : zi_M), K87 k5 g → zi_W E d 293 87 [some (.ref 214), some (zi_i x1), some (zi_i x2), some (zi_i x3), some (zi_i l4), some (zi_i k5), none] [] g (zi_Q Q)) : ∀ (f : Nat) {l5 : Int} {l6 : Int} {g : zi_M}, w_M_known_l50 l4 K87 Q f l5 l6 g → zi_W E d 293 50 [some (.ref 214), some (zi_i x1), some (zi_i x2), some (zi_i x3), some (zi_i l4), some (zi_i l5), some (zi_i l6)] [] g (zi_Q Q)
  | 0, _, _, _, h => False.elim h
  | f + 1, l5, l6, g, h => by
    refine zi_iload (pc' := 52) rfl rfl rfl ?_
    refine zi_aload_n (pc' := 53) rfl rfl rfl ?_
    refine zi_geti (pc' := 56) 6 rfl rfl rfl rfl rfl rfl ?_
    obtain ⟨o9, o10, h⟩ := h
    refine zi_icmp_ge (x := 87) (pc' := 59) rfl rfl o9 o10 (fun c18 => ?_) (fun c18 => ?_)
    · replace h := h.1 c18
      exact zi_wk (hK87 _ _ h) (And.intro rfl (And.intro rfl (And.intro rfl (And.intro rfl (And.intro rfl (And.intro rfl trivial))))))
    · replace h := h.2 c18
      refine zi_aload_n (pc' := 60) rfl rfl rfl ?_
      refine zi_iload (pc' := 62) rfl rfl rfl ?_
      refine zi_iload (pc' := 64) rfl rfl rfl ?_
      refine zi_callV (d' := 1) (as := [_, _]) (pc' := 67) rfl rfl rfl rfl (Nat.lt_of_lt_of_le (by decide) hd) (s_M_has (Nat.le_refl _) h) (zi_kb (fun v11 g12 b13 h => ?_))
      refine zi_if_eq (x := 81) (pc' := 70) rfl rfl (zi_r_bit b13)  (fun c17 => ?_) (fun c17 => ?_)
      · replace h := h.1 c17
        refine zi_iinc (pc' := 84) [some _, some _, some _, some _, some _, some _, some _] rfl rfl rfl rfl ?_
        refine zi_goto (x := 50) rfl ?_
        exact zi_wk (s_M_known_l50_r hd hK87 f h) (And.intro rfl (And.intro rfl (And.intro rfl (And.intro rfl (And.intro rfl (And.intro rfl (And.intro rfl trivial)))))))
      · replace h := h.2 c17
        refine zi_iload (pc' := 72) rfl rfl rfl ?_
        refine zi_aload_n (pc' := 73) rfl rfl rfl ?_
        refine zi_iload (pc' := 75) rfl rfl rfl ?_
        refine zi_callV (d' := 2) (as := [_]) (pc' := 78) rfl rfl rfl rfl (Nat.lt_of_lt_of_le (by decide) hd) (s_M_heardSet (Nat.le_refl _) h) (zi_ki (fun v14 g15 h => ?_))
        refine zi_ior (pc' := 79) rfl rfl ?_
        refine zi_istore (pc' := 81) [some _, some _, some _, some _, some _, some _, some _] rfl rfl rfl ?_
        refine zi_iinc (pc' := 84) [some _, some _, some _, some _, some _, some _, some _] rfl rfl rfl rfl ?_
        refine zi_goto (x := 50) rfl ?_
        exact zi_wk (s_M_known_l50_r hd hK87 f h) (And.intro rfl (And.intro rfl (And.intro rfl (And.intro rfl (And.intro rfl (And.intro rfl (And.intro rfl trivial)))))))
set_option maxRecDepth 100000 in
theorem s_M_known_l50 {E : sx_E} {d : Nat} (hd : 3 ≤ d) {l4 : Int} {x1 : Int} {x2 : Int} {x3 : Int} {K87 : Int → zi_M → Prop} {Q : Int → zi_M → Prop} {l5 : Int} {l6 : Int} {g : zi_M} (h : ∃ f, w_M_known_l50 l4 K87 Q f l5 l6 g) (hK87 : ∀ (k5 : Int) (g : zi_M), K87 k5 g → zi_W E d 293 87 [some (.ref 214), some (zi_i x1), some (zi_i x2), some (zi_i x3), some (zi_i l4), some (zi_i k5), none] [] g (zi_Q Q)) : zi_W E d 293 50 [some (.ref 214), some (zi_i x1), some (zi_i x2), some (zi_i x3), some (zi_i l4), some (zi_i l5), some (zi_i l6)] [] g (zi_Q Q) := by
  obtain ⟨f, h⟩ := h
  exact s_M_known_l50_r hd hK87 f h
set_option maxRecDepth 100000 in
theorem s_M_known_l33_r {E : sx_E} {d : Nat} (hd : 3 ≤ d) {l1 : Int} {x2 : Int} {K124 : Int → zi_M → Prop} {Q : Int → zi_M → Prop} (hK124 : ∀ (k3 : Int) (g : zi_M), K124 k3 g → zi_W E d 293 124 [some (.ref 214), some (zi_i l1), some (zi_i x2), some (zi_i k3), none, none, none] [] g (zi_Q Q)) : ∀ (f : Nat) {l3 : Int} {l4 : Int} {g : zi_M}, w_M_known_l33 l1 K124 Q f l3 l4 g → zi_W E d 293 33 [some (.ref 214), some (zi_i l1), some (zi_i x2), some (zi_i l3), some (zi_i l4), none, none] [] g (zi_Q Q)
  | 0, _, _, _, h => False.elim h
  | f + 1, l3, l4, g, h => by
    refine zi_iload (pc' := 35) rfl rfl rfl ?_
    refine zi_iconst (pc' := 36) rfl rfl ?_
    refine zi_aload_n (pc' := 37) rfl rfl rfl ?_
    refine zi_geti (pc' := 40) 6 rfl rfl rfl rfl rfl rfl ?_
    refine zi_ishl (pc' := 41) rfl rfl ?_
    obtain ⟨o8, h⟩ := h
    refine zi_icmp_ge (x := 124) (pc' := 44) rfl rfl o8 (zi_r_shl _ _) (fun c34 => ?_) (fun c34 => ?_)
    · replace h := h.1 c34
      exact zi_wk (hK124 _ _ h) (And.intro rfl (And.intro rfl (And.intro rfl (And.intro rfl trivial))))
    · replace h := h.2 c34
      refine zi_iconst (pc' := 45) rfl rfl ?_
      refine zi_istore (pc' := 47) [some _, some _, some _, some _, some _, some _, none] rfl rfl rfl ?_
      refine zi_iconst (pc' := 48) rfl rfl ?_
      refine zi_istore (pc' := 50) [some _, some _, some _, some _, some _, some _, some _] rfl rfl rfl ?_
      refine zi_wk (s_M_known_l50 hd h (fun k19 g20 h => ?_)) (And.intro rfl (And.intro rfl (And.intro rfl (And.intro rfl (And.intro rfl (And.intro rfl (And.intro rfl trivial)))))))
      refine zi_iload_n (pc' := 88) rfl rfl rfl ?_
      refine zi_iload (pc' := 90) rfl rfl rfl ?_
      refine zi_iconst (pc' := 91) rfl rfl ?_
      refine zi_ixor (pc' := 92) rfl rfl ?_
      refine zi_iand (pc' := 93) rfl rfl ?_
      refine zi_if_ne (x := 118) (pc' := 96) rfl rfl (zi_r_and _ _)  (fun c32 => ?_) (fun c32 => ?_)
      · replace h := h.1 c32
        refine zi_iinc (pc' := 121) [some _, some _, some _, some _, some _, some _, none] rfl rfl rfl rfl ?_
        refine zi_goto (x := 33) rfl ?_
        exact zi_wk (s_M_known_l33_r hd hK124 f h) (And.intro rfl (And.intro rfl (And.intro rfl (And.intro rfl (And.intro rfl trivial)))))
      · replace h := h.2 c32
        refine zi_iload_n (pc' := 97) rfl rfl rfl ?_
        refine zi_iconst (pc' := 98) rfl rfl ?_
        obtain ⟨o21, h⟩ := h
        refine zi_icmp_eq (x := 115) (pc' := 101) rfl rfl o21 (by decide) (fun c31 => ?_) (fun c31 => ?_)
        · replace h := h.1 c31
          refine zi_iload (pc' := 117) rfl rfl rfl ?_
          refine zi_istore_n (pc' := 118) [some _, some _, some _, some _, some _, some _, none] rfl rfl rfl ?_
          refine zi_iinc (pc' := 121) [some _, some _, some _, some _, some _, some _, none] rfl rfl rfl rfl ?_
          refine zi_goto (x := 33) rfl ?_
          exact zi_wk (s_M_known_l33_r hd hK124 f h) (And.intro rfl (And.intro rfl (And.intro rfl (And.intro rfl (And.intro rfl trivial)))))
        · replace h := h.2 c31
          refine zi_aload_n (pc' := 102) rfl rfl rfl ?_
          refine zi_iload (pc' := 104) rfl rfl rfl ?_
          refine zi_callV (d' := 1) (as := [_]) (pc' := 107) rfl rfl rfl rfl (Nat.lt_of_lt_of_le (by decide) hd) (s_M_onesOf (Nat.le_refl _) h) (zi_ki (fun v22 g23 h => ?_))
          refine zi_aload_n (pc' := 108) rfl rfl rfl ?_
          refine zi_iload_n (pc' := 109) rfl rfl rfl ?_
          refine zi_callV (d' := 1) (as := [_]) (pc' := 112) rfl rfl rfl rfl (Nat.lt_of_lt_of_le (by decide) hd) (s_M_onesOf (Nat.le_refl _) h) (zi_ki (fun v25 g26 h => ?_))
          obtain ⟨o28, o29, h⟩ := h
          refine zi_icmp_ge (x := 118) (pc' := 115) rfl rfl o28 o29 (fun c30 => ?_) (fun c30 => ?_)
          · replace h := h.1 c30
            refine zi_iinc (pc' := 121) [some _, some _, some _, some _, some _, some _, none] rfl rfl rfl rfl ?_
            refine zi_goto (x := 33) rfl ?_
            exact zi_wk (s_M_known_l33_r hd hK124 f h) (And.intro rfl (And.intro rfl (And.intro rfl (And.intro rfl (And.intro rfl trivial)))))
          · replace h := h.2 c30
            refine zi_iload (pc' := 117) rfl rfl rfl ?_
            refine zi_istore_n (pc' := 118) [some _, some _, some _, some _, some _, some _, none] rfl rfl rfl ?_
            refine zi_iinc (pc' := 121) [some _, some _, some _, some _, some _, some _, none] rfl rfl rfl rfl ?_
            refine zi_goto (x := 33) rfl ?_
            exact zi_wk (s_M_known_l33_r hd hK124 f h) (And.intro rfl (And.intro rfl (And.intro rfl (And.intro rfl (And.intro rfl trivial)))))
set_option maxRecDepth 100000 in
theorem s_M_known_l33 {E : sx_E} {d : Nat} (hd : 3 ≤ d) {l1 : Int} {x2 : Int} {K124 : Int → zi_M → Prop} {Q : Int → zi_M → Prop} {l3 : Int} {l4 : Int} {g : zi_M} (h : ∃ f, w_M_known_l33 l1 K124 Q f l3 l4 g) (hK124 : ∀ (k3 : Int) (g : zi_M), K124 k3 g → zi_W E d 293 124 [some (.ref 214), some (zi_i l1), some (zi_i x2), some (zi_i k3), none, none, none] [] g (zi_Q Q)) : zi_W E d 293 33 [some (.ref 214), some (zi_i l1), some (zi_i x2), some (zi_i l3), some (zi_i l4), none, none] [] g (zi_Q Q) := by
  obtain ⟨f, h⟩ := h
  exact s_M_known_l33_r hd hK124 f h
set_option maxRecDepth 100000 in
theorem s_M_known {E : sx_E} {d : Nat} (hd : 3 ≤ d) {l1 : Int} {l2 : Int} {g : zi_M} {Q : Int → zi_M → Prop} (h : w_M_known l1 l2 g Q) : zi_S E d 293 [.ref 214, zi_i l1, zi_i l2] g (zi_Q Q) := by
  refine zi_Sof jf_293 [some (.ref 214), some (zi_i l1), some (zi_i l2), none, none, none, none] rfl (And.intro rfl (And.intro rfl (And.intro rfl trivial))) ?_
  unfold w_M_known at h
  refine zi_aload_n (pc' := 1) rfl rfl rfl ?_
  refine zi_iconst (pc' := 2) rfl rfl ?_
  refine zi_puti (pc' := 5) 0 rfl rfl rfl rfl rfl  ?_
  replace h := h _ rfl
  refine zi_aload_n (pc' := 6) rfl rfl rfl ?_
  refine zi_iload_n (pc' := 7) rfl rfl rfl ?_
  refine zi_iconst (pc' := 8) rfl rfl ?_
  refine zi_ldc (v := 65535) (pc' := 10) rfl rfl (by decide +kernel) ?_
  refine zi_callV (d' := 1) (as := [_, _, _]) (pc' := 13) rfl rfl rfl rfl (Nat.lt_of_lt_of_le (by decide) hd) (s_M_isIn (Nat.le_refl _) h) (zi_kb (fun v2 g3 b4 h => ?_))
  refine zi_if_eq (x := 26) (pc' := 16) rfl rfl (zi_r_bit b4)  (fun c46 => ?_) (fun c46 => ?_)
  · replace h := h.1 c46
    refine zi_iconst (pc' := 27) rfl rfl ?_
    exact zi_iret rfl rfl h
  · replace h := h.2 c46
    refine zi_aload_n (pc' := 17) rfl rfl rfl ?_
    refine zi_iload_n (pc' := 18) rfl rfl rfl ?_
    refine zi_iconst (pc' := 19) rfl rfl ?_
    refine zi_iconst (pc' := 20) rfl rfl ?_
    refine zi_callV (d' := 1) (as := [_, _, _]) (pc' := 23) rfl rfl rfl rfl (Nat.lt_of_lt_of_le (by decide) hd) (s_M_isIn (Nat.le_refl _) h) (zi_kb (fun v5 g6 b7 h => ?_))
    refine zi_if_ne (x := 28) (pc' := 26) rfl rfl (zi_r_bit b7)  (fun c45 => ?_) (fun c45 => ?_)
    · replace h := h.1 c45
      refine zi_iconst (pc' := 29) rfl rfl ?_
      refine zi_istore_n (pc' := 30) [some _, some _, some _, some _, none, none, none] rfl rfl rfl ?_
      refine zi_iconst (pc' := 31) rfl rfl ?_
      refine zi_istore (pc' := 33) [some _, some _, some _, some _, some _, none, none] rfl rfl rfl ?_
      refine zi_wk (s_M_known_l33 hd h (fun k35 g36 h => ?_)) (And.intro rfl (And.intro rfl (And.intro rfl (And.intro rfl (And.intro rfl trivial)))))
      refine zi_iload_n (pc' := 125) rfl rfl rfl ?_
      refine zi_iconst (pc' := 126) rfl rfl ?_
      obtain ⟨o37, h⟩ := h
      refine zi_icmp_eq (x := 134) (pc' := 129) rfl rfl o37 (by decide) (fun c43 => ?_) (fun c43 => ?_)
      · replace h := h.1 c43
        refine zi_iload_n (pc' := 135) rfl rfl rfl ?_
        refine zi_goto (x := 143) rfl ?_
        exact zi_iret rfl rfl h
      · replace h := h.2 c43
        refine zi_iload_n (pc' := 130) rfl rfl rfl ?_
        refine zi_iconst (pc' := 131) rfl rfl ?_
        obtain ⟨o38, h⟩ := h
        refine zi_icmp_ne (x := 138) (pc' := 134) rfl rfl o38 (by decide) (fun c42 => ?_) (fun c42 => ?_)
        · replace h := h.1 c42
          refine zi_aload_n (pc' := 139) rfl rfl rfl ?_
          refine zi_iload_n (pc' := 140) rfl rfl rfl ?_
          refine zi_callV (d' := 1) (as := [_]) (pc' := 143) rfl rfl rfl rfl (Nat.lt_of_lt_of_le (by decide) hd) (s_M_onesOf (Nat.le_refl _) h) (zi_ki (fun v39 g40 h => ?_))
          exact zi_iret rfl rfl h
        · replace h := h.2 c42
          refine zi_iload_n (pc' := 135) rfl rfl rfl ?_
          refine zi_goto (x := 143) rfl ?_
          exact zi_iret rfl rfl h
    · replace h := h.2 c45
      refine zi_iconst (pc' := 27) rfl rfl ?_
      exact zi_iret rfl rfl h
-- SpoutNews.latin(II)Z
noncomputable def w_S_latin (l1 : Int) (l2 : Int) (g : zi_M) (Q : Int → zi_M → Prop) : Prop := w_S_isWord l1 g (fun v1 g2 => ((v1 = 0 → Q 0 g2) ∧ (¬ v1 = 0 → w_S_isWord l2 g2 (fun v4 g5 => ((¬ v4 = 0 → ((0 ≤ l1 ∧ l1 < 16) ∧ (∀ g8, g8 = zi_u g5 41 l1 l2 → Q 1 g8))) ∧ (v4 = 0 → Q 0 g5))))))
set_option maxRecDepth 100000 in
theorem s_S_latin {E : sx_E} {d : Nat} (hd : 2 ≤ d) {l1 : Int} {l2 : Int} {g : zi_M} {Q : Int → zi_M → Prop} (h : w_S_latin l1 l2 g Q) : zi_S E d 148 [.ref 0, zi_i l1, zi_i l2] g (zi_Qb Q) := by
  refine zi_Sof jf_148 [some (.ref 0), some (zi_i l1), some (zi_i l2)] rfl (And.intro rfl (And.intro rfl (And.intro rfl trivial))) ?_
  unfold w_S_latin at h
  refine zi_iload_n (pc' := 1) rfl rfl rfl ?_
  refine zi_callS (d' := 1) (as := [_]) (pc' := 4) rfl rfl rfl (Nat.lt_of_lt_of_le (by decide) hd) (s_S_isWord (Nat.le_refl _) h) (zi_kb (fun v1 g2 b3 h => ?_))
  refine zi_if_eq (x := 14) (pc' := 7) rfl rfl (zi_r_bit b3)  (fun c10 => ?_) (fun c10 => ?_)
  · replace h := h.1 c10
    refine zi_iconst (pc' := 15) rfl rfl ?_
    exact zi_zret rfl rfl (Or.inl rfl) h
  · replace h := h.2 c10
    refine zi_iload_n (pc' := 8) rfl rfl rfl ?_
    refine zi_callS (d' := 1) (as := [_]) (pc' := 11) rfl rfl rfl (Nat.lt_of_lt_of_le (by decide) hd) (s_S_isWord (Nat.le_refl _) h) (zi_kb (fun v4 g5 b6 h => ?_))
    refine zi_if_ne (x := 16) (pc' := 14) rfl rfl (zi_r_bit b6)  (fun c9 => ?_) (fun c9 => ?_)
    · replace h := h.1 c9
      refine zi_aload_n (pc' := 17) rfl rfl rfl ?_
      refine zi_getr (pc' := 20) rfl rfl rfl rfl rfl ?_
      refine zi_getr (pc' := 23) rfl rfl rfl rfl rfl ?_
      refine zi_getr (pc' := 26) rfl rfl rfl rfl rfl ?_
      refine zi_iload_n (pc' := 27) rfl rfl rfl ?_
      refine zi_iload_n (pc' := 28) rfl rfl rfl ?_
      obtain ⟨o7, h⟩ := h
      refine zi_iast (pc' := 29) rfl rfl rfl o7 ?_
      replace h := h _ rfl
      refine zi_iconst (pc' := 30) rfl rfl ?_
      exact zi_zret rfl rfl (Or.inr rfl) h
    · replace h := h.2 c9
      refine zi_iconst (pc' := 15) rfl rfl ?_
      exact zi_zret rfl rfl (Or.inl rfl) h
-- SpoutNewsModel.latin(II)Z
noncomputable def w_M_latin (l1 : Int) (l2 : Int) (g : zi_M) (Q : Int → zi_M → Prop) : Prop := (∀ g1, g1 = zi_u g 214 0 0 → w_M_isIn l1 0 15 g1 (fun v2 g3 => ((v2 = 0 → Q 0 g3) ∧ (¬ v2 = 0 → w_M_isIn l2 0 15 g3 (fun v5 g6 => ((¬ v5 = 0 → ((0 ≤ l1 ∧ l1 < 16) ∧ (∀ g9, g9 = zi_u g6 243 l1 (l2 - l1) → Q 1 g9))) ∧ (v5 = 0 → Q 0 g6)))))))
set_option maxRecDepth 100000 in
theorem s_M_latin {E : sx_E} {d : Nat} (hd : 2 ≤ d) {l1 : Int} {l2 : Int} {g : zi_M} {Q : Int → zi_M → Prop} (h : w_M_latin l1 l2 g Q) : zi_S E d 294 [.ref 214, zi_i l1, zi_i l2] g (zi_Qb Q) := by
  refine zi_Sof jf_294 [some (.ref 214), some (zi_i l1), some (zi_i l2)] rfl (And.intro rfl (And.intro rfl (And.intro rfl trivial))) ?_
  unfold w_M_latin at h
  refine zi_aload_n (pc' := 1) rfl rfl rfl ?_
  refine zi_iconst (pc' := 2) rfl rfl ?_
  refine zi_puti (pc' := 5) 0 rfl rfl rfl rfl rfl  ?_
  replace h := h _ rfl
  refine zi_aload_n (pc' := 6) rfl rfl rfl ?_
  refine zi_iload_n (pc' := 7) rfl rfl rfl ?_
  refine zi_iconst (pc' := 8) rfl rfl ?_
  refine zi_bipush (pc' := 10) rfl rfl (by decide) ?_
  refine zi_callV (d' := 1) (as := [_, _, _]) (pc' := 13) rfl rfl rfl rfl (Nat.lt_of_lt_of_le (by decide) hd) (s_M_isIn (Nat.le_refl _) h) (zi_kb (fun v2 g3 b4 h => ?_))
  refine zi_if_eq (x := 27) (pc' := 16) rfl rfl (zi_r_bit b4)  (fun c11 => ?_) (fun c11 => ?_)
  · replace h := h.1 c11
    refine zi_iconst (pc' := 28) rfl rfl ?_
    exact zi_zret rfl rfl (Or.inl rfl) h
  · replace h := h.2 c11
    refine zi_aload_n (pc' := 17) rfl rfl rfl ?_
    refine zi_iload_n (pc' := 18) rfl rfl rfl ?_
    refine zi_iconst (pc' := 19) rfl rfl ?_
    refine zi_bipush (pc' := 21) rfl rfl (by decide) ?_
    refine zi_callV (d' := 1) (as := [_, _, _]) (pc' := 24) rfl rfl rfl rfl (Nat.lt_of_lt_of_le (by decide) hd) (s_M_isIn (Nat.le_refl _) h) (zi_kb (fun v5 g6 b7 h => ?_))
    refine zi_if_ne (x := 29) (pc' := 27) rfl rfl (zi_r_bit b7)  (fun c10 => ?_) (fun c10 => ?_)
    · replace h := h.1 c10
      refine zi_aload_n (pc' := 30) rfl rfl rfl ?_
      refine zi_getr (pc' := 33) rfl rfl rfl rfl rfl ?_
      refine zi_iload_n (pc' := 34) rfl rfl rfl ?_
      refine zi_iload_n (pc' := 35) rfl rfl rfl ?_
      refine zi_iload_n (pc' := 36) rfl rfl rfl ?_
      refine zi_isub (pc' := 37) rfl rfl ?_
      obtain ⟨o8, h⟩ := h
      refine zi_iast (pc' := 38) rfl rfl rfl o8 ?_
      replace h := h _ rfl
      refine zi_iconst (pc' := 39) rfl rfl ?_
      exact zi_zret rfl rfl (Or.inr rfl) h
    · replace h := h.2 c10
      refine zi_iconst (pc' := 28) rfl rfl ?_
      exact zi_zret rfl rfl (Or.inl rfl) h
-- SpoutNews$Thought.stepsAgain(LSpoutNews$Told;I)I
noncomputable def w_Thought_stepsAgain_l10 (K36 : Int → zi_M → Prop) (K52 : zi_M → Prop) (Q : Int → zi_M → Prop) : Nat → Int → Int → Int → zi_M → Prop
  | 0, _, _, _, _ => False
  | f + 1, l3, l4, l5, g => (zi_r l5 ∧ ((16 < l5 → K52 g) ∧ (l5 ≤ 16 → ((0 ≤ l4 ∧ l4 < 16) ∧ ((¬ (zi_and (zi_shr l3 (g 41 l4)) 1) = 1 → w_Thought_stepsAgain_l10 K36 K52 Q f (zi_or l3 (zi_shl 1 (g 41 l4))) (g 41 l4) (l5 + 1) g) ∧ ((zi_and (zi_shr l3 (g 41 l4)) 1) = 1 → K36 l5 g))))))
noncomputable def w_Thought_stepsAgain (l2 : Int) (g : zi_M) (Q : Int → zi_M → Prop) : Prop := (∃ f8, w_Thought_stepsAgain_l10 (fun k5 g6 => Q k5 g6) (fun g7 => Q (-1) g7) Q f8 (zi_shl 1 l2) l2 1 g)
set_option maxRecDepth 100000 in
theorem s_Thought_stepsAgain_l10_r {E : sx_E} {d : Nat} (hd : 1 ≤ d) {K36 : Int → zi_M → Prop} {K52 : zi_M → Prop} {Q : Int → zi_M → Prop} (hK36 : ∀ (k5 : Int) (g : zi_M), K36 k5 g → zi_W E d 151 36 [none, some (.ref 36), none, none, none, some (zi_i k5)] [] g (zi_Q Q)) (hK52 : ∀ (g : zi_M), K52 g → zi_W E d 151 52 [none, some (.ref 36), none, none, none, none] [] g (zi_Q Q)) : ∀ (f : Nat) {l3 : Int} {l4 : Int} {l5 : Int} {g : zi_M}, w_Thought_stepsAgain_l10 K36 K52 Q f l3 l4 l5 g → zi_W E d 151 10 [none, some (.ref 36), none, some (zi_i l3), some (zi_i l4), some (zi_i l5)] [] g (zi_Q Q)
  | 0, _, _, _, _, h => False.elim h
  | f + 1, l3, l4, l5, g, h => by
    refine zi_iload (pc' := 12) rfl rfl rfl ?_
    refine zi_bipush (pc' := 14) rfl rfl (by decide) ?_
    obtain ⟨o1, h⟩ := h
    refine zi_icmp_gt (x := 52) (pc' := 17) rfl rfl o1 (by decide) (fun c4 => ?_) (fun c4 => ?_)
    · replace h := h.1 c4
      exact zi_wk (hK52 _ h) (And.intro rfl trivial)
    · replace h := h.2 c4
      refine zi_aload_n (pc' := 18) rfl rfl rfl ?_
      refine zi_getr (pc' := 21) rfl rfl rfl rfl rfl ?_
      refine zi_iload (pc' := 23) rfl rfl rfl ?_
      obtain ⟨o2, h⟩ := h
      refine zi_iald (pc' := 24) rfl rfl rfl o2 ?_
      refine zi_istore (pc' := 26) [none, some _, none, some _, some _, some _] rfl rfl rfl ?_
      refine zi_iload_n (pc' := 27) rfl rfl rfl ?_
      refine zi_iload (pc' := 29) rfl rfl rfl ?_
      refine zi_ishr (pc' := 30) rfl rfl ?_
      refine zi_iconst (pc' := 31) rfl rfl ?_
      refine zi_iand (pc' := 32) rfl rfl ?_
      refine zi_iconst (pc' := 33) rfl rfl ?_
      refine zi_icmp_ne (x := 39) (pc' := 36) rfl rfl (zi_r_and _ _) (by decide) (fun c3 => ?_) (fun c3 => ?_)
      · replace h := h.1 c3
        refine zi_iload_n (pc' := 40) rfl rfl rfl ?_
        refine zi_iconst (pc' := 41) rfl rfl ?_
        refine zi_iload (pc' := 43) rfl rfl rfl ?_
        refine zi_ishl (pc' := 44) rfl rfl ?_
        refine zi_ior (pc' := 45) rfl rfl ?_
        refine zi_istore_n (pc' := 46) [none, some _, none, some _, some _, some _] rfl rfl rfl ?_
        refine zi_iinc (pc' := 49) [none, some _, none, some _, some _, some _] rfl rfl rfl rfl ?_
        refine zi_goto (x := 10) rfl ?_
        exact zi_wk (s_Thought_stepsAgain_l10_r hd hK36 hK52 f h) (And.intro rfl (And.intro rfl (And.intro rfl (And.intro rfl trivial))))
      · replace h := h.2 c3
        exact zi_wk (hK36 _ _ h) (And.intro rfl (And.intro rfl trivial))
set_option maxRecDepth 100000 in
theorem s_Thought_stepsAgain_l10 {E : sx_E} {d : Nat} (hd : 1 ≤ d) {K36 : Int → zi_M → Prop} {K52 : zi_M → Prop} {Q : Int → zi_M → Prop} {l3 : Int} {l4 : Int} {l5 : Int} {g : zi_M} (h : ∃ f, w_Thought_stepsAgain_l10 K36 K52 Q f l3 l4 l5 g) (hK36 : ∀ (k5 : Int) (g : zi_M), K36 k5 g → zi_W E d 151 36 [none, some (.ref 36), none, none, none, some (zi_i k5)] [] g (zi_Q Q)) (hK52 : ∀ (g : zi_M), K52 g → zi_W E d 151 52 [none, some (.ref 36), none, none, none, none] [] g (zi_Q Q)) : zi_W E d 151 10 [none, some (.ref 36), none, some (zi_i l3), some (zi_i l4), some (zi_i l5)] [] g (zi_Q Q) := by
  obtain ⟨f, h⟩ := h
  exact s_Thought_stepsAgain_l10_r hd hK36 hK52 f h
set_option maxRecDepth 100000 in
theorem s_Thought_stepsAgain {E : sx_E} {d : Nat} (hd : 1 ≤ d) {l2 : Int} {g : zi_M} {Q : Int → zi_M → Prop} (h : w_Thought_stepsAgain l2 g Q) : zi_S E d 151 [.ref 180, .ref 36, zi_i l2] g (zi_Q Q) := by
  refine zi_Sof jf_151 [some (.ref 180), some (.ref 36), some (zi_i l2), none, none, none] rfl (And.intro rfl (And.intro rfl (And.intro rfl trivial))) ?_
  unfold w_Thought_stepsAgain at h
  refine zi_iconst (pc' := 1) rfl rfl ?_
  refine zi_iload_n (pc' := 2) rfl rfl rfl ?_
  refine zi_ishl (pc' := 3) rfl rfl ?_
  refine zi_istore_n (pc' := 4) [some _, some _, some _, some _, none, none] rfl rfl rfl ?_
  refine zi_iload_n (pc' := 5) rfl rfl rfl ?_
  refine zi_istore (pc' := 7) [some _, some _, some _, some _, some _, none] rfl rfl rfl ?_
  refine zi_iconst (pc' := 8) rfl rfl ?_
  refine zi_istore (pc' := 10) [some _, some _, some _, some _, some _, some _] rfl rfl rfl ?_
  refine zi_wk (s_Thought_stepsAgain_l10 hd h (fun k5 g6 h => ?_) (fun g7 h => ?_)) (And.intro rfl (And.intro rfl (And.intro rfl (And.intro rfl trivial))))
  · refine zi_iload (pc' := 38) rfl rfl rfl ?_
    exact zi_iret rfl rfl h
  · refine zi_iconst (pc' := 53) rfl rfl ?_
    exact zi_iret rfl rfl h
-- SpoutNews$Thought.commonMultiple(II)I
noncomputable def w_Thought_commonMultiple_l2 (l0 : Int) (l1 : Int) (K15 : Int → zi_M → Prop) (K25 : zi_M → Prop) (Q : Int → zi_M → Prop) : Nat → Int → zi_M → Prop
  | 0, _, _ => False
  | f + 1, l2, g => (zi_r l2 ∧ zi_r l1 ∧ ((l1 < l2 → K25 g) ∧ (l2 ≤ l1 → (l1 ≠ 0 ∧ (zi_r (Int.tmod (zi_w (l0 * l2)) l1) ∧ ((¬ (Int.tmod (zi_w (l0 * l2)) l1) = 0 → w_Thought_commonMultiple_l2 l0 l1 K15 K25 Q f (l2 + 1) g) ∧ ((Int.tmod (zi_w (l0 * l2)) l1) = 0 → K15 l2 g)))))))
noncomputable def w_Thought_commonMultiple (l0 : Int) (l1 : Int) (g : zi_M) (Q : Int → zi_M → Prop) : Prop := (∃ f10, w_Thought_commonMultiple_l2 l0 l1 (fun k7 g8 => Q (zi_w (l0 * k7)) g8) (fun g9 => Q l0 g9) Q f10 1 g)
set_option maxRecDepth 100000 in
theorem s_Thought_commonMultiple_l2_r {E : sx_E} {d : Nat} (hd : 1 ≤ d) {l0 : Int} {l1 : Int} {K15 : Int → zi_M → Prop} {K25 : zi_M → Prop} {Q : Int → zi_M → Prop} (hK15 : ∀ (k2 : Int) (g : zi_M), K15 k2 g → zi_W E d 152 15 [some (zi_i l0), some (zi_i l1), some (zi_i k2)] [] g (zi_Q Q)) (hK25 : ∀ (g : zi_M), K25 g → zi_W E d 152 25 [some (zi_i l0), some (zi_i l1), none] [] g (zi_Q Q)) : ∀ (f : Nat) {l2 : Int} {g : zi_M}, w_Thought_commonMultiple_l2 l0 l1 K15 K25 Q f l2 g → zi_W E d 152 2 [some (zi_i l0), some (zi_i l1), some (zi_i l2)] [] g (zi_Q Q)
  | 0, _, _, h => False.elim h
  | f + 1, l2, g, h => by
    refine zi_iload_n (pc' := 3) rfl rfl rfl ?_
    refine zi_iload_n (pc' := 4) rfl rfl rfl ?_
    obtain ⟨o1, o2, h⟩ := h
    refine zi_icmp_gt (x := 25) (pc' := 7) rfl rfl o1 o2 (fun c6 => ?_) (fun c6 => ?_)
    · replace h := h.1 c6
      exact zi_wk (hK25 _ h) (And.intro rfl (And.intro rfl trivial))
    · replace h := h.2 c6
      refine zi_iload_n (pc' := 8) rfl rfl rfl ?_
      refine zi_iload_n (pc' := 9) rfl rfl rfl ?_
      refine zi_imul (pc' := 10) rfl rfl ?_
      refine zi_wrap ?_
      refine zi_iload_n (pc' := 11) rfl rfl rfl ?_
      obtain ⟨o3, h⟩ := h
      refine zi_irem (pc' := 12) rfl rfl (zi_r_w _) o2 o3 ?_
      obtain ⟨o4, h⟩ := h
      refine zi_if_ne (x := 19) (pc' := 15) rfl rfl o4  (fun c5 => ?_) (fun c5 => ?_)
      · replace h := h.1 c5
        refine zi_iinc (pc' := 22) [some _, some _, some _] rfl rfl rfl rfl ?_
        refine zi_goto (x := 2) rfl ?_
        exact zi_wk (s_Thought_commonMultiple_l2_r hd hK15 hK25 f h) (And.intro rfl (And.intro rfl (And.intro rfl trivial)))
      · replace h := h.2 c5
        exact zi_wk (hK15 _ _ h) (And.intro rfl (And.intro rfl (And.intro rfl trivial)))
set_option maxRecDepth 100000 in
theorem s_Thought_commonMultiple_l2 {E : sx_E} {d : Nat} (hd : 1 ≤ d) {l0 : Int} {l1 : Int} {K15 : Int → zi_M → Prop} {K25 : zi_M → Prop} {Q : Int → zi_M → Prop} {l2 : Int} {g : zi_M} (h : ∃ f, w_Thought_commonMultiple_l2 l0 l1 K15 K25 Q f l2 g) (hK15 : ∀ (k2 : Int) (g : zi_M), K15 k2 g → zi_W E d 152 15 [some (zi_i l0), some (zi_i l1), some (zi_i k2)] [] g (zi_Q Q)) (hK25 : ∀ (g : zi_M), K25 g → zi_W E d 152 25 [some (zi_i l0), some (zi_i l1), none] [] g (zi_Q Q)) : zi_W E d 152 2 [some (zi_i l0), some (zi_i l1), some (zi_i l2)] [] g (zi_Q Q) := by
  obtain ⟨f, h⟩ := h
  exact s_Thought_commonMultiple_l2_r hd hK15 hK25 f h
set_option maxRecDepth 100000 in
theorem s_Thought_commonMultiple {E : sx_E} {d : Nat} (hd : 1 ≤ d) {l0 : Int} {l1 : Int} {g : zi_M} {Q : Int → zi_M → Prop} (h : w_Thought_commonMultiple l0 l1 g Q) : zi_S E d 152 [zi_i l0, zi_i l1] g (zi_Q Q) := by
  refine zi_Sof jf_152 [some (zi_i l0), some (zi_i l1), none] rfl (And.intro rfl (And.intro rfl trivial)) ?_
  unfold w_Thought_commonMultiple at h
  refine zi_iconst (pc' := 1) rfl rfl ?_
  refine zi_istore_n (pc' := 2) [some _, some _, some _] rfl rfl rfl ?_
  refine zi_wk (s_Thought_commonMultiple_l2 hd h (fun k7 g8 h => ?_) (fun g9 h => ?_)) (And.intro rfl (And.intro rfl (And.intro rfl trivial)))
  · refine zi_iload_n (pc' := 16) rfl rfl rfl ?_
    refine zi_iload_n (pc' := 17) rfl rfl rfl ?_
    refine zi_imul (pc' := 18) rfl rfl ?_
    refine zi_wrap ?_
    exact zi_iret rfl rfl h
  · refine zi_iload_n (pc' := 26) rfl rfl rfl ?_
    exact zi_iret rfl rfl h
-- SpoutNews$Thought.allAgain(LSpoutNews$Told;)I
noncomputable def w_Thought_allAgain_l4 (K27 : Int → zi_M → Prop) (Q : Int → zi_M → Prop) : Nat → Int → Int → zi_M → Prop
  | 0, _, _, _ => False
  | f + 1, l2, l3, g => (zi_r l3 ∧ ((16 ≤ l3 → K27 l2 g) ∧ (l3 < 16 → ((0 ≤ l3 ∧ l3 < 16) ∧ w_Thought_allAgain_l4 K27 Q f (zi_or l2 (zi_shl 1 (g 41 l3))) (l3 + 1) g))))
noncomputable def w_Thought_allAgain_l43 (K68 : Int → zi_M → Prop) (Q : Int → zi_M → Prop) : Nat → Int → Int → zi_M → Prop
  | 0, _, _, _ => False
  | f + 1, l3, l4, g => (zi_r l4 ∧ ((16 ≤ l4 → K68 l3 g) ∧ (l4 < 16 → w_Thought_stepsAgain l4 g (fun v11 g12 => w_Thought_commonMultiple l3 v11 g12 (fun v14 g15 => w_Thought_allAgain_l43 K68 Q f v14 (l4 + 1) g15)))))
noncomputable def w_Thought_allAgain (g : zi_M) (Q : Int → zi_M → Prop) : Prop := (∃ f22, w_Thought_allAgain_l4 (fun k4 g5 => w_Integer_bitCount k4 g5 (fun v6 g7 => (zi_r v6 ∧ ((16 ≤ v6 → (∃ f20, w_Thought_allAgain_l43 (fun k18 g19 => Q k18 g19) Q f20 1 0 g7)) ∧ (v6 < 16 → Q (-1) g7))))) Q f22 0 0 g)
set_option maxRecDepth 100000 in
theorem s_Thought_allAgain_l4_r {E : sx_E} {d : Nat} (hd : 2 ≤ d) {K27 : Int → zi_M → Prop} {Q : Int → zi_M → Prop} (hK27 : ∀ (k2 : Int) (g : zi_M), K27 k2 g → zi_W E d 150 27 [some (.ref 180), some (.ref 36), some (zi_i k2), none, none] [] g (zi_Q Q)) : ∀ (f : Nat) {l2 : Int} {l3 : Int} {g : zi_M}, w_Thought_allAgain_l4 K27 Q f l2 l3 g → zi_W E d 150 4 [some (.ref 180), some (.ref 36), some (zi_i l2), some (zi_i l3), none] [] g (zi_Q Q)
  | 0, _, _, _, h => False.elim h
  | f + 1, l2, l3, g, h => by
    refine zi_iload_n (pc' := 5) rfl rfl rfl ?_
    refine zi_bipush (pc' := 7) rfl rfl (by decide) ?_
    obtain ⟨o1, h⟩ := h
    refine zi_icmp_ge (x := 27) (pc' := 10) rfl rfl o1 (by decide) (fun c3 => ?_) (fun c3 => ?_)
    · replace h := h.1 c3
      exact zi_wk (hK27 _ _ h) (And.intro rfl (And.intro rfl (And.intro rfl trivial)))
    · replace h := h.2 c3
      refine zi_iload_n (pc' := 11) rfl rfl rfl ?_
      refine zi_iconst (pc' := 12) rfl rfl ?_
      refine zi_aload_n (pc' := 13) rfl rfl rfl ?_
      refine zi_getr (pc' := 16) rfl rfl rfl rfl rfl ?_
      refine zi_iload_n (pc' := 17) rfl rfl rfl ?_
      obtain ⟨o2, h⟩ := h
      refine zi_iald (pc' := 18) rfl rfl rfl o2 ?_
      refine zi_ishl (pc' := 19) rfl rfl ?_
      refine zi_ior (pc' := 20) rfl rfl ?_
      refine zi_istore_n (pc' := 21) [some _, some _, some _, some _, none] rfl rfl rfl ?_
      refine zi_iinc (pc' := 24) [some _, some _, some _, some _, none] rfl rfl rfl rfl ?_
      refine zi_goto (x := 4) rfl ?_
      exact zi_wk (s_Thought_allAgain_l4_r hd hK27 f h) (And.intro rfl (And.intro rfl (And.intro rfl (And.intro rfl trivial))))
set_option maxRecDepth 100000 in
theorem s_Thought_allAgain_l4 {E : sx_E} {d : Nat} (hd : 2 ≤ d) {K27 : Int → zi_M → Prop} {Q : Int → zi_M → Prop} {l2 : Int} {l3 : Int} {g : zi_M} (h : ∃ f, w_Thought_allAgain_l4 K27 Q f l2 l3 g) (hK27 : ∀ (k2 : Int) (g : zi_M), K27 k2 g → zi_W E d 150 27 [some (.ref 180), some (.ref 36), some (zi_i k2), none, none] [] g (zi_Q Q)) : zi_W E d 150 4 [some (.ref 180), some (.ref 36), some (zi_i l2), some (zi_i l3), none] [] g (zi_Q Q) := by
  obtain ⟨f, h⟩ := h
  exact s_Thought_allAgain_l4_r hd hK27 f h
set_option maxRecDepth 100000 in
theorem s_Thought_allAgain_l43_r {E : sx_E} {d : Nat} (hd : 2 ≤ d) {K68 : Int → zi_M → Prop} {Q : Int → zi_M → Prop} (hK68 : ∀ (k3 : Int) (g : zi_M), K68 k3 g → zi_W E d 150 68 [some (.ref 180), some (.ref 36), none, some (zi_i k3), none] [] g (zi_Q Q)) : ∀ (f : Nat) {l3 : Int} {l4 : Int} {g : zi_M}, w_Thought_allAgain_l43 K68 Q f l3 l4 g → zi_W E d 150 43 [some (.ref 180), some (.ref 36), none, some (zi_i l3), some (zi_i l4)] [] g (zi_Q Q)
  | 0, _, _, _, h => False.elim h
  | f + 1, l3, l4, g, h => by
    refine zi_iload (pc' := 45) rfl rfl rfl ?_
    refine zi_bipush (pc' := 47) rfl rfl (by decide) ?_
    obtain ⟨o10, h⟩ := h
    refine zi_icmp_ge (x := 68) (pc' := 50) rfl rfl o10 (by decide) (fun c17 => ?_) (fun c17 => ?_)
    · replace h := h.1 c17
      exact zi_wk (hK68 _ _ h) (And.intro rfl (And.intro rfl (And.intro rfl trivial)))
    · replace h := h.2 c17
      refine zi_iload_n (pc' := 51) rfl rfl rfl ?_
      refine zi_aload_n (pc' := 52) rfl rfl rfl ?_
      refine zi_aload_n (pc' := 53) rfl rfl rfl ?_
      refine zi_iload (pc' := 55) rfl rfl rfl ?_
      refine zi_callV (d' := 1) (as := [_, _]) (pc' := 58) rfl rfl rfl rfl (Nat.lt_of_lt_of_le (by decide) hd) (s_Thought_stepsAgain (Nat.le_refl _) h) (zi_ki (fun v11 g12 h => ?_))
      refine zi_callS (d' := 1) (as := [_, _]) (pc' := 61) rfl rfl rfl (Nat.lt_of_lt_of_le (by decide) hd) (s_Thought_commonMultiple (Nat.le_refl _) h) (zi_ki (fun v14 g15 h => ?_))
      refine zi_istore_n (pc' := 62) [some _, some _, none, some _, some _] rfl rfl rfl ?_
      refine zi_iinc (pc' := 65) [some _, some _, none, some _, some _] rfl rfl rfl rfl ?_
      refine zi_goto (x := 43) rfl ?_
      exact zi_wk (s_Thought_allAgain_l43_r hd hK68 f h) (And.intro rfl (And.intro rfl (And.intro rfl (And.intro rfl trivial))))
set_option maxRecDepth 100000 in
theorem s_Thought_allAgain_l43 {E : sx_E} {d : Nat} (hd : 2 ≤ d) {K68 : Int → zi_M → Prop} {Q : Int → zi_M → Prop} {l3 : Int} {l4 : Int} {g : zi_M} (h : ∃ f, w_Thought_allAgain_l43 K68 Q f l3 l4 g) (hK68 : ∀ (k3 : Int) (g : zi_M), K68 k3 g → zi_W E d 150 68 [some (.ref 180), some (.ref 36), none, some (zi_i k3), none] [] g (zi_Q Q)) : zi_W E d 150 43 [some (.ref 180), some (.ref 36), none, some (zi_i l3), some (zi_i l4)] [] g (zi_Q Q) := by
  obtain ⟨f, h⟩ := h
  exact s_Thought_allAgain_l43_r hd hK68 f h
set_option maxRecDepth 100000 in
theorem s_Thought_allAgain {E : sx_E} {d : Nat} (hd : 2 ≤ d) {g : zi_M} {Q : Int → zi_M → Prop} (h : w_Thought_allAgain g Q) : zi_S E d 150 [.ref 180, .ref 36] g (zi_Q Q) := by
  refine zi_Sof jf_150 [some (.ref 180), some (.ref 36), none, none, none] rfl (And.intro rfl (And.intro rfl trivial)) ?_
  unfold w_Thought_allAgain at h
  refine zi_iconst (pc' := 1) rfl rfl ?_
  refine zi_istore_n (pc' := 2) [some _, some _, some _, none, none] rfl rfl rfl ?_
  refine zi_iconst (pc' := 3) rfl rfl ?_
  refine zi_istore_n (pc' := 4) [some _, some _, some _, some _, none] rfl rfl rfl ?_
  refine zi_wk (s_Thought_allAgain_l4 hd h (fun k4 g5 h => ?_)) (And.intro rfl (And.intro rfl (And.intro rfl (And.intro rfl trivial))))
  refine zi_iload_n (pc' := 28) rfl rfl rfl ?_
  refine zi_callS (d' := 1) (as := [_]) (pc' := 31) rfl rfl rfl (Nat.lt_of_lt_of_le (by decide) hd) (s_Integer_bitCount (Nat.le_refl _) h) (zi_ki (fun v6 g7 h => ?_))
  refine zi_bipush (pc' := 33) rfl rfl (by decide) ?_
  obtain ⟨o9, h⟩ := h
  refine zi_icmp_ge (x := 38) (pc' := 36) rfl rfl o9 (by decide) (fun c21 => ?_) (fun c21 => ?_)
  · replace h := h.1 c21
    refine zi_iconst (pc' := 39) rfl rfl ?_
    refine zi_istore_n (pc' := 40) [some _, some _, some _, some _, none] rfl rfl rfl ?_
    refine zi_iconst (pc' := 41) rfl rfl ?_
    refine zi_istore (pc' := 43) [some _, some _, some _, some _, some _] rfl rfl rfl ?_
    refine zi_wk (s_Thought_allAgain_l43 hd h (fun k18 g19 h => ?_)) (And.intro rfl (And.intro rfl (And.intro rfl (And.intro rfl trivial))))
    refine zi_iload_n (pc' := 69) rfl rfl rfl ?_
    exact zi_iret rfl rfl h
  · replace h := h.2 c21
    refine zi_iconst (pc' := 37) rfl rfl ?_
    exact zi_iret rfl rfl h
-- SpoutNews.again(I)I
noncomputable def w_S_again (l1 : Int) (g : zi_M) (Q : Int → zi_M → Prop) : Prop := (zi_r l1 ∧ ((¬ l1 = (-1) → w_S_isWord l1 g (fun v2 g3 => ((v2 = 0 → Q (-1) g3) ∧ (¬ v2 = 0 → w_Thought_stepsAgain l1 g3 (fun v5 g6 => Q v5 g6))))) ∧ (l1 = (-1) → w_Thought_allAgain g (fun v9 g10 => Q v9 g10))))
set_option maxRecDepth 100000 in
theorem s_S_again {E : sx_E} {d : Nat} (hd : 3 ≤ d) {l1 : Int} {g : zi_M} {Q : Int → zi_M → Prop} (h : w_S_again l1 g Q) : zi_S E d 149 [.ref 0, zi_i l1] g (zi_Q Q) := by
  refine zi_Sof jf_149 [some (.ref 0), some (zi_i l1)] rfl (And.intro rfl (And.intro rfl trivial)) ?_
  unfold w_S_again at h
  refine zi_iload_n (pc' := 1) rfl rfl rfl ?_
  refine zi_iconst (pc' := 2) rfl rfl ?_
  obtain ⟨o1, h⟩ := h
  refine zi_icmp_ne (x := 20) (pc' := 5) rfl rfl o1 (by decide) (fun c12 => ?_) (fun c12 => ?_)
  · replace h := h.1 c12
    refine zi_iload_n (pc' := 21) rfl rfl rfl ?_
    refine zi_callS (d' := 1) (as := [_]) (pc' := 24) rfl rfl rfl (Nat.lt_of_lt_of_le (by decide) hd) (s_S_isWord (Nat.le_refl _) h) (zi_kb (fun v2 g3 b4 h => ?_))
    refine zi_if_eq (x := 45) (pc' := 27) rfl rfl (zi_r_bit b4)  (fun c8 => ?_) (fun c8 => ?_)
    · replace h := h.1 c8
      refine zi_iconst (pc' := 46) rfl rfl ?_
      exact zi_iret rfl rfl h
    · replace h := h.2 c8
      refine zi_aload_n (pc' := 28) rfl rfl rfl ?_
      refine zi_getr (pc' := 31) rfl rfl rfl rfl rfl ?_
      refine zi_aload_n (pc' := 32) rfl rfl rfl ?_
      refine zi_getr (pc' := 35) rfl rfl rfl rfl rfl ?_
      refine zi_getr (pc' := 38) rfl rfl rfl rfl rfl ?_
      refine zi_iload_n (pc' := 39) rfl rfl rfl ?_
      refine zi_callV (d' := 1) (as := [_, _]) (pc' := 42) rfl rfl rfl rfl (Nat.lt_of_lt_of_le (by decide) hd) (s_Thought_stepsAgain (Nat.le_refl _) h) (zi_ki (fun v5 g6 h => ?_))
      refine zi_goto (x := 46) rfl ?_
      exact zi_iret rfl rfl h
  · replace h := h.2 c12
    refine zi_aload_n (pc' := 6) rfl rfl rfl ?_
    refine zi_getr (pc' := 9) rfl rfl rfl rfl rfl ?_
    refine zi_aload_n (pc' := 10) rfl rfl rfl ?_
    refine zi_getr (pc' := 13) rfl rfl rfl rfl rfl ?_
    refine zi_getr (pc' := 16) rfl rfl rfl rfl rfl ?_
    refine zi_callV (d' := 2) (as := [_]) (pc' := 19) rfl rfl rfl rfl (Nat.lt_of_lt_of_le (by decide) hd) (s_Thought_allAgain (Nat.le_refl _) h) (zi_ki (fun v9 g10 h => ?_))
    exact zi_iret rfl rfl h
-- SpoutNewsModel.isOneToOne()Z
noncomputable def w_M_isOneToOne_l4 (K29 : Int → zi_M → Prop) (Q : Int → zi_M → Prop) : Nat → Int → Int → zi_M → Prop
  | 0, _, _, _ => False
  | f + 1, l1, l2, g => (zi_r l2 ∧ ((16 ≤ l2 → K29 l1 g) ∧ (l2 < 16 → ((0 ≤ l2 ∧ l2 < 16) ∧ w_M_isOneToOne_l4 K29 Q f (zi_or l1 (zi_shl 1 (l2 + (g 243 l2)))) (l2 + 1) g))))
noncomputable def w_M_isOneToOne (g : zi_M) (Q : Int → zi_M → Prop) : Prop := (∃ f8, w_M_isOneToOne_l4 (fun k4 g5 => (zi_r k4 ∧ ((¬ k4 = 65535 → Q 0 g5) ∧ (k4 = 65535 → Q 1 g5)))) Q f8 0 0 g)
set_option maxRecDepth 100000 in
theorem s_M_isOneToOne_l4_r {E : sx_E} {d : Nat} (hd : 1 ≤ d) {K29 : Int → zi_M → Prop} {Q : Int → zi_M → Prop} (hK29 : ∀ (k1 : Int) (g : zi_M), K29 k1 g → zi_W E d 297 29 [some (.ref 214), some (zi_i k1), none] [] g (zi_Qb Q)) : ∀ (f : Nat) {l1 : Int} {l2 : Int} {g : zi_M}, w_M_isOneToOne_l4 K29 Q f l1 l2 g → zi_W E d 297 4 [some (.ref 214), some (zi_i l1), some (zi_i l2)] [] g (zi_Qb Q)
  | 0, _, _, _, h => False.elim h
  | f + 1, l1, l2, g, h => by
    refine zi_iload_n (pc' := 5) rfl rfl rfl ?_
    refine zi_bipush (pc' := 7) rfl rfl (by decide) ?_
    obtain ⟨o1, h⟩ := h
    refine zi_icmp_ge (x := 29) (pc' := 10) rfl rfl o1 (by decide) (fun c3 => ?_) (fun c3 => ?_)
    · replace h := h.1 c3
      exact zi_wk (hK29 _ _ h) (And.intro rfl (And.intro rfl trivial))
    · replace h := h.2 c3
      refine zi_iload_n (pc' := 11) rfl rfl rfl ?_
      refine zi_iconst (pc' := 12) rfl rfl ?_
      refine zi_iload_n (pc' := 13) rfl rfl rfl ?_
      refine zi_aload_n (pc' := 14) rfl rfl rfl ?_
      refine zi_getr (pc' := 17) rfl rfl rfl rfl rfl ?_
      refine zi_iload_n (pc' := 18) rfl rfl rfl ?_
      obtain ⟨o2, h⟩ := h
      refine zi_iald (pc' := 19) rfl rfl rfl o2 ?_
      refine zi_iadd (pc' := 20) rfl rfl ?_
      refine zi_ishl (pc' := 21) rfl rfl ?_
      refine zi_ior (pc' := 22) rfl rfl ?_
      refine zi_istore_n (pc' := 23) [some _, some _, some _] rfl rfl rfl ?_
      refine zi_iinc (pc' := 26) [some _, some _, some _] rfl rfl rfl rfl ?_
      refine zi_goto (x := 4) rfl ?_
      exact zi_wk (s_M_isOneToOne_l4_r hd hK29 f h) (And.intro rfl (And.intro rfl (And.intro rfl trivial)))
set_option maxRecDepth 100000 in
theorem s_M_isOneToOne_l4 {E : sx_E} {d : Nat} (hd : 1 ≤ d) {K29 : Int → zi_M → Prop} {Q : Int → zi_M → Prop} {l1 : Int} {l2 : Int} {g : zi_M} (h : ∃ f, w_M_isOneToOne_l4 K29 Q f l1 l2 g) (hK29 : ∀ (k1 : Int) (g : zi_M), K29 k1 g → zi_W E d 297 29 [some (.ref 214), some (zi_i k1), none] [] g (zi_Qb Q)) : zi_W E d 297 4 [some (.ref 214), some (zi_i l1), some (zi_i l2)] [] g (zi_Qb Q) := by
  obtain ⟨f, h⟩ := h
  exact s_M_isOneToOne_l4_r hd hK29 f h
set_option maxRecDepth 100000 in
theorem s_M_isOneToOne {E : sx_E} {d : Nat} (hd : 1 ≤ d) {g : zi_M} {Q : Int → zi_M → Prop} (h : w_M_isOneToOne g Q) : zi_S E d 297 [.ref 214] g (zi_Qb Q) := by
  refine zi_Sof jf_297 [some (.ref 214), none, none] rfl (And.intro rfl trivial) ?_
  unfold w_M_isOneToOne at h
  refine zi_iconst (pc' := 1) rfl rfl ?_
  refine zi_istore_n (pc' := 2) [some _, some _, none] rfl rfl rfl ?_
  refine zi_iconst (pc' := 3) rfl rfl ?_
  refine zi_istore_n (pc' := 4) [some _, some _, some _] rfl rfl rfl ?_
  refine zi_wk (s_M_isOneToOne_l4 hd h (fun k4 g5 h => ?_)) (And.intro rfl (And.intro rfl (And.intro rfl trivial)))
  refine zi_iload_n (pc' := 30) rfl rfl rfl ?_
  refine zi_ldc (v := 65535) (pc' := 32) rfl rfl (by decide +kernel) ?_
  obtain ⟨o6, h⟩ := h
  refine zi_icmp_ne (x := 39) (pc' := 35) rfl rfl o6 (by decide) (fun c7 => ?_) (fun c7 => ?_)
  · replace h := h.1 c7
    refine zi_iconst (pc' := 40) rfl rfl ?_
    exact zi_zret rfl rfl (Or.inl rfl) h
  · replace h := h.2 c7
    refine zi_iconst (pc' := 36) rfl rfl ?_
    refine zi_goto (x := 40) rfl ?_
    exact zi_zret rfl rfl (Or.inr rfl) h
-- SpoutNewsModel.comingFrom(I)I
noncomputable def w_M_comingFrom_l7 (K40 : Int → zi_M → Prop) (Q : Int → zi_M → Prop) : Nat → Int → Int → Int → zi_M → Prop
  | 0, _, _, _, _ => False
  | f + 1, l2, l3, l4, g => w_M_has l2 l3 g (fun v1 g2 => ((¬ v1 = 0 → K40 l4 g2) ∧ (v1 = 0 → ((0 ≤ l3 ∧ l3 < 16) ∧ w_M_comingFrom_l7 K40 Q f (zi_or l2 (zi_shl 1 l3)) (l3 + (g2 243 l3)) (l4 + 1) g2))))
noncomputable def w_M_comingFrom (l1 : Int) (g : zi_M) (Q : Int → zi_M → Prop) : Prop := (∃ f8, w_M_comingFrom_l7 (fun k6 g7 => Q k6 g7) Q f8 0 l1 0 g)
set_option maxRecDepth 100000 in
theorem s_M_comingFrom_l7_r {E : sx_E} {d : Nat} (hd : 2 ≤ d) {K40 : Int → zi_M → Prop} {Q : Int → zi_M → Prop} (hK40 : ∀ (k4 : Int) (g : zi_M), K40 k4 g → zi_W E d 296 40 [some (.ref 214), none, none, none, some (zi_i k4)] [] g (zi_Q Q)) : ∀ (f : Nat) {l2 : Int} {l3 : Int} {l4 : Int} {g : zi_M}, w_M_comingFrom_l7 K40 Q f l2 l3 l4 g → zi_W E d 296 7 [some (.ref 214), none, some (zi_i l2), some (zi_i l3), some (zi_i l4)] [] g (zi_Q Q)
  | 0, _, _, _, _, h => False.elim h
  | f + 1, l2, l3, l4, g, h => by
    refine zi_aload_n (pc' := 8) rfl rfl rfl ?_
    refine zi_iload_n (pc' := 9) rfl rfl rfl ?_
    refine zi_iload_n (pc' := 10) rfl rfl rfl ?_
    refine zi_callV (d' := 1) (as := [_, _]) (pc' := 13) rfl rfl rfl rfl (Nat.lt_of_lt_of_le (by decide) hd) (s_M_has (Nat.le_refl _) h) (zi_kb (fun v1 g2 b3 h => ?_))
    refine zi_if_ne (x := 40) (pc' := 16) rfl rfl (zi_r_bit b3)  (fun c5 => ?_) (fun c5 => ?_)
    · replace h := h.1 c5
      exact zi_wk (hK40 _ _ h) (And.intro rfl (And.intro rfl trivial))
    · replace h := h.2 c5
      refine zi_iload_n (pc' := 17) rfl rfl rfl ?_
      refine zi_iconst (pc' := 18) rfl rfl ?_
      refine zi_iload_n (pc' := 19) rfl rfl rfl ?_
      refine zi_ishl (pc' := 20) rfl rfl ?_
      refine zi_ior (pc' := 21) rfl rfl ?_
      refine zi_istore_n (pc' := 22) [some _, none, some _, some _, some _] rfl rfl rfl ?_
      refine zi_iload_n (pc' := 23) rfl rfl rfl ?_
      refine zi_aload_n (pc' := 24) rfl rfl rfl ?_
      refine zi_getr (pc' := 27) rfl rfl rfl rfl rfl ?_
      refine zi_iload_n (pc' := 28) rfl rfl rfl ?_
      obtain ⟨o4, h⟩ := h
      refine zi_iald (pc' := 29) rfl rfl rfl o4 ?_
      refine zi_iadd (pc' := 30) rfl rfl ?_
      refine zi_istore_n (pc' := 31) [some _, none, some _, some _, some _] rfl rfl rfl ?_
      refine zi_iload (pc' := 33) rfl rfl rfl ?_
      refine zi_iconst (pc' := 34) rfl rfl ?_
      refine zi_iadd (pc' := 35) rfl rfl ?_
      refine zi_istore (pc' := 37) [some _, none, some _, some _, some _] rfl rfl rfl ?_
      refine zi_goto (x := 7) rfl ?_
      exact zi_wk (s_M_comingFrom_l7_r hd hK40 f h) (And.intro rfl (And.intro rfl (And.intro rfl (And.intro rfl trivial))))
set_option maxRecDepth 100000 in
theorem s_M_comingFrom_l7 {E : sx_E} {d : Nat} (hd : 2 ≤ d) {K40 : Int → zi_M → Prop} {Q : Int → zi_M → Prop} {l2 : Int} {l3 : Int} {l4 : Int} {g : zi_M} (h : ∃ f, w_M_comingFrom_l7 K40 Q f l2 l3 l4 g) (hK40 : ∀ (k4 : Int) (g : zi_M), K40 k4 g → zi_W E d 296 40 [some (.ref 214), none, none, none, some (zi_i k4)] [] g (zi_Q Q)) : zi_W E d 296 7 [some (.ref 214), none, some (zi_i l2), some (zi_i l3), some (zi_i l4)] [] g (zi_Q Q) := by
  obtain ⟨f, h⟩ := h
  exact s_M_comingFrom_l7_r hd hK40 f h
set_option maxRecDepth 100000 in
theorem s_M_comingFrom {E : sx_E} {d : Nat} (hd : 2 ≤ d) {l1 : Int} {g : zi_M} {Q : Int → zi_M → Prop} (h : w_M_comingFrom l1 g Q) : zi_S E d 296 [.ref 214, zi_i l1] g (zi_Q Q) := by
  refine zi_Sof jf_296 [some (.ref 214), some (zi_i l1), none, none, none] rfl (And.intro rfl (And.intro rfl trivial)) ?_
  unfold w_M_comingFrom at h
  refine zi_iconst (pc' := 1) rfl rfl ?_
  refine zi_istore_n (pc' := 2) [some _, some _, some _, none, none] rfl rfl rfl ?_
  refine zi_iload_n (pc' := 3) rfl rfl rfl ?_
  refine zi_istore_n (pc' := 4) [some _, some _, some _, some _, none] rfl rfl rfl ?_
  refine zi_iconst (pc' := 5) rfl rfl ?_
  refine zi_istore (pc' := 7) [some _, some _, some _, some _, some _] rfl rfl rfl ?_
  refine zi_wk (s_M_comingFrom_l7 hd h (fun k6 g7 h => ?_)) (And.intro rfl (And.intro rfl (And.intro rfl (And.intro rfl trivial))))
  refine zi_iload (pc' := 42) rfl rfl rfl ?_
  exact zi_iret rfl rfl h
-- SpoutNewsModel.rest(II)I
noncomputable def w_M_rest (l1 : Int) (l2 : Int) (g : zi_M) (Q : Int → zi_M → Prop) : Prop := (zi_r l2 ∧ ((¬ l2 = 0 → (zi_r l1 ∧ l2 ≠ 0 ∧ Q (Int.tmod l1 l2) g)) ∧ (l2 = 0 → Q l1 g)))
set_option maxRecDepth 100000 in
theorem s_M_rest {E : sx_E} {d : Nat} (hd : 1 ≤ d) {l1 : Int} {l2 : Int} {g : zi_M} {Q : Int → zi_M → Prop} (h : w_M_rest l1 l2 g Q) : zi_S E d 299 [.ref 214, zi_i l1, zi_i l2] g (zi_Q Q) := by
  refine zi_Sof jf_299 [some (.ref 214), some (zi_i l1), some (zi_i l2)] rfl (And.intro rfl (And.intro rfl (And.intro rfl trivial))) ?_
  unfold w_M_rest at h
  refine zi_iload_n (pc' := 1) rfl rfl rfl ?_
  obtain ⟨o1, h⟩ := h
  refine zi_if_ne (x := 8) (pc' := 4) rfl rfl o1  (fun c4 => ?_) (fun c4 => ?_)
  · replace h := h.1 c4
    refine zi_iload_n (pc' := 9) rfl rfl rfl ?_
    refine zi_iload_n (pc' := 10) rfl rfl rfl ?_
    obtain ⟨o2, o3, h⟩ := h
    refine zi_irem (pc' := 11) rfl rfl o2 o1 o3 ?_
    exact zi_iret rfl rfl h
  · replace h := h.2 c4
    refine zi_iload_n (pc' := 5) rfl rfl rfl ?_
    refine zi_goto (x := 11) rfl ?_
    exact zi_iret rfl rfl h
-- SpoutNewsModel.common(II)I
noncomputable def w_M_common_l5 (K29 : Int → zi_M → Prop) (Q : Int → zi_M → Prop) : Nat → Int → Int → zi_M → Prop
  | 0, _, _, _ => False
  | f + 1, l3, l4, g => (zi_r l4 ∧ ((l4 = 0 → K29 l3 g) ∧ (¬ l4 = 0 → w_M_rest l3 l4 g (fun v2 g3 => w_M_common_l5 K29 Q f l4 v2 g3))))
noncomputable def w_M_common (l1 : Int) (l2 : Int) (g : zi_M) (Q : Int → zi_M → Prop) : Prop := (∃ f8, w_M_common_l5 (fun k6 g7 => Q k6 g7) Q f8 l1 l2 g)
set_option maxRecDepth 100000 in
theorem s_M_common_l5_r {E : sx_E} {d : Nat} (hd : 2 ≤ d) {K29 : Int → zi_M → Prop} {Q : Int → zi_M → Prop} (hK29 : ∀ (k3 : Int) (g : zi_M), K29 k3 g → zi_W E d 298 29 [some (.ref 214), none, none, some (zi_i k3), none, none] [] g (zi_Q Q)) : ∀ (f : Nat) {l3 : Int} {l4 : Int} {g : zi_M}, w_M_common_l5 K29 Q f l3 l4 g → zi_W E d 298 5 [some (.ref 214), none, none, some (zi_i l3), some (zi_i l4), none] [] g (zi_Q Q)
  | 0, _, _, _, h => False.elim h
  | f + 1, l3, l4, g, h => by
    refine zi_iload (pc' := 7) rfl rfl rfl ?_
    obtain ⟨o1, h⟩ := h
    refine zi_if_eq (x := 29) (pc' := 10) rfl rfl o1  (fun c5 => ?_) (fun c5 => ?_)
    · replace h := h.1 c5
      exact zi_wk (hK29 _ _ h) (And.intro rfl (And.intro rfl trivial))
    · replace h := h.2 c5
      refine zi_aload_n (pc' := 11) rfl rfl rfl ?_
      refine zi_iload_n (pc' := 12) rfl rfl rfl ?_
      refine zi_iload (pc' := 14) rfl rfl rfl ?_
      refine zi_callV (d' := 1) (as := [_, _]) (pc' := 17) rfl rfl rfl rfl (Nat.lt_of_lt_of_le (by decide) hd) (s_M_rest (Nat.le_refl _) h) (zi_ki (fun v2 g3 h => ?_))
      refine zi_istore (pc' := 19) [some _, none, none, some _, some _, some _] rfl rfl rfl ?_
      refine zi_iload (pc' := 21) rfl rfl rfl ?_
      refine zi_istore_n (pc' := 22) [some _, none, none, some _, some _, some _] rfl rfl rfl ?_
      refine zi_iload (pc' := 24) rfl rfl rfl ?_
      refine zi_istore (pc' := 26) [some _, none, none, some _, some _, some _] rfl rfl rfl ?_
      refine zi_goto (x := 5) rfl ?_
      exact zi_wk (s_M_common_l5_r hd hK29 f h) (And.intro rfl (And.intro rfl (And.intro rfl trivial)))
set_option maxRecDepth 100000 in
theorem s_M_common_l5 {E : sx_E} {d : Nat} (hd : 2 ≤ d) {K29 : Int → zi_M → Prop} {Q : Int → zi_M → Prop} {l3 : Int} {l4 : Int} {g : zi_M} (h : ∃ f, w_M_common_l5 K29 Q f l3 l4 g) (hK29 : ∀ (k3 : Int) (g : zi_M), K29 k3 g → zi_W E d 298 29 [some (.ref 214), none, none, some (zi_i k3), none, none] [] g (zi_Q Q)) : zi_W E d 298 5 [some (.ref 214), none, none, some (zi_i l3), some (zi_i l4), none] [] g (zi_Q Q) := by
  obtain ⟨f, h⟩ := h
  exact s_M_common_l5_r hd hK29 f h
set_option maxRecDepth 100000 in
theorem s_M_common {E : sx_E} {d : Nat} (hd : 2 ≤ d) {l1 : Int} {l2 : Int} {g : zi_M} {Q : Int → zi_M → Prop} (h : w_M_common l1 l2 g Q) : zi_S E d 298 [.ref 214, zi_i l1, zi_i l2] g (zi_Q Q) := by
  refine zi_Sof jf_298 [some (.ref 214), some (zi_i l1), some (zi_i l2), none, none, none] rfl (And.intro rfl (And.intro rfl (And.intro rfl trivial))) ?_
  unfold w_M_common at h
  refine zi_iload_n (pc' := 1) rfl rfl rfl ?_
  refine zi_istore_n (pc' := 2) [some _, some _, some _, some _, none, none] rfl rfl rfl ?_
  refine zi_iload_n (pc' := 3) rfl rfl rfl ?_
  refine zi_istore (pc' := 5) [some _, some _, some _, some _, some _, none] rfl rfl rfl ?_
  refine zi_wk (s_M_common_l5 hd h (fun k6 g7 h => ?_)) (And.intro rfl (And.intro rfl (And.intro rfl trivial)))
  refine zi_iload_n (pc' := 30) rfl rfl rfl ?_
  exact zi_iret rfl rfl h
-- SpoutNewsModel.again(I)I
noncomputable def w_M_again_l42 (K73 : Int → zi_M → Prop) (Q : Int → zi_M → Prop) : Nat → Int → Int → zi_M → Prop
  | 0, _, _, _ => False
  | f + 1, l2, l3, g => (zi_r l3 ∧ ((16 ≤ l3 → K73 l2 g) ∧ (l3 < 16 → w_M_comingFrom l3 g (fun v10 g11 => w_M_common l2 v10 g11 (fun v13 g14 => (zi_r l2 ∧ zi_r v13 ∧ v13 ≠ 0 ∧ w_M_comingFrom l3 g14 (fun v19 g20 => w_M_again_l42 K73 Q f (zi_w ((Int.tdiv l2 v13) * v19)) (l3 + 1) g20)))))))
noncomputable def w_M_again (l1 : Int) (g : zi_M) (Q : Int → zi_M → Prop) : Prop := (∀ g1, g1 = zi_u g 214 0 0 → w_M_isIn l1 (-1) 15 g1 (fun v2 g3 => ((¬ v2 = 0 → (zi_r l1 ∧ ((l1 = (-1) → w_M_isOneToOne g3 (fun v6 g7 => ((¬ v6 = 0 → (∃ f25, w_M_again_l42 (fun k23 g24 => Q k23 g24) Q f25 1 0 g7)) ∧ (v6 = 0 → Q (-1) g7)))) ∧ (¬ l1 = (-1) → w_M_comingFrom l1 g3 (fun v27 g28 => Q v27 g28))))) ∧ (v2 = 0 → Q (-1) g3))))
set_option maxRecDepth 100000 in
theorem s_M_again_l42_r {E : sx_E} {d : Nat} (hd : 3 ≤ d) {K73 : Int → zi_M → Prop} {Q : Int → zi_M → Prop} (hK73 : ∀ (k2 : Int) (g : zi_M), K73 k2 g → zi_W E d 295 73 [some (.ref 214), none, some (zi_i k2), none] [] g (zi_Q Q)) : ∀ (f : Nat) {l2 : Int} {l3 : Int} {g : zi_M}, w_M_again_l42 K73 Q f l2 l3 g → zi_W E d 295 42 [some (.ref 214), none, some (zi_i l2), some (zi_i l3)] [] g (zi_Q Q)
  | 0, _, _, _, h => False.elim h
  | f + 1, l2, l3, g, h => by
    refine zi_iload_n (pc' := 43) rfl rfl rfl ?_
    refine zi_bipush (pc' := 45) rfl rfl (by decide) ?_
    obtain ⟨o9, h⟩ := h
    refine zi_icmp_ge (x := 73) (pc' := 48) rfl rfl o9 (by decide) (fun c22 => ?_) (fun c22 => ?_)
    · replace h := h.1 c22
      exact zi_wk (hK73 _ _ h) (And.intro rfl (And.intro rfl trivial))
    · replace h := h.2 c22
      refine zi_iload_n (pc' := 49) rfl rfl rfl ?_
      refine zi_aload_n (pc' := 50) rfl rfl rfl ?_
      refine zi_iload_n (pc' := 51) rfl rfl rfl ?_
      refine zi_aload_n (pc' := 52) rfl rfl rfl ?_
      refine zi_iload_n (pc' := 53) rfl rfl rfl ?_
      refine zi_callV (d' := 2) (as := [_]) (pc' := 56) rfl rfl rfl rfl (Nat.lt_of_lt_of_le (by decide) hd) (s_M_comingFrom (Nat.le_refl _) h) (zi_ki (fun v10 g11 h => ?_))
      refine zi_callV (d' := 2) (as := [_, _]) (pc' := 59) rfl rfl rfl rfl (Nat.lt_of_lt_of_le (by decide) hd) (s_M_common (Nat.le_refl _) h) (zi_ki (fun v13 g14 h => ?_))
      obtain ⟨o16, o17, o18, h⟩ := h
      refine zi_idiv (pc' := 60) rfl rfl o16 o17 o18 ?_
      refine zi_aload_n (pc' := 61) rfl rfl rfl ?_
      refine zi_iload_n (pc' := 62) rfl rfl rfl ?_
      refine zi_callV (d' := 2) (as := [_]) (pc' := 65) rfl rfl rfl rfl (Nat.lt_of_lt_of_le (by decide) hd) (s_M_comingFrom (Nat.le_refl _) h) (zi_ki (fun v19 g20 h => ?_))
      refine zi_imul (pc' := 66) rfl rfl ?_
      refine zi_wrap ?_
      refine zi_istore_n (pc' := 67) [some _, none, some _, some _] rfl rfl rfl ?_
      refine zi_iinc (pc' := 70) [some _, none, some _, some _] rfl rfl rfl rfl ?_
      refine zi_goto (x := 42) rfl ?_
      exact zi_wk (s_M_again_l42_r hd hK73 f h) (And.intro rfl (And.intro rfl (And.intro rfl trivial)))
set_option maxRecDepth 100000 in
theorem s_M_again_l42 {E : sx_E} {d : Nat} (hd : 3 ≤ d) {K73 : Int → zi_M → Prop} {Q : Int → zi_M → Prop} {l2 : Int} {l3 : Int} {g : zi_M} (h : ∃ f, w_M_again_l42 K73 Q f l2 l3 g) (hK73 : ∀ (k2 : Int) (g : zi_M), K73 k2 g → zi_W E d 295 73 [some (.ref 214), none, some (zi_i k2), none] [] g (zi_Q Q)) : zi_W E d 295 42 [some (.ref 214), none, some (zi_i l2), some (zi_i l3)] [] g (zi_Q Q) := by
  obtain ⟨f, h⟩ := h
  exact s_M_again_l42_r hd hK73 f h
set_option maxRecDepth 100000 in
theorem s_M_again {E : sx_E} {d : Nat} (hd : 3 ≤ d) {l1 : Int} {g : zi_M} {Q : Int → zi_M → Prop} (h : w_M_again l1 g Q) : zi_S E d 295 [.ref 214, zi_i l1] g (zi_Q Q) := by
  refine zi_Sof jf_295 [some (.ref 214), some (zi_i l1), none, none] rfl (And.intro rfl (And.intro rfl trivial)) ?_
  unfold w_M_again at h
  refine zi_aload_n (pc' := 1) rfl rfl rfl ?_
  refine zi_iconst (pc' := 2) rfl rfl ?_
  refine zi_puti (pc' := 5) 0 rfl rfl rfl rfl rfl  ?_
  replace h := h _ rfl
  refine zi_aload_n (pc' := 6) rfl rfl rfl ?_
  refine zi_iload_n (pc' := 7) rfl rfl rfl ?_
  refine zi_iconst (pc' := 8) rfl rfl ?_
  refine zi_bipush (pc' := 10) rfl rfl (by decide) ?_
  refine zi_callV (d' := 1) (as := [_, _, _]) (pc' := 13) rfl rfl rfl rfl (Nat.lt_of_lt_of_le (by decide) hd) (s_M_isIn (Nat.le_refl _) h) (zi_kb (fun v2 g3 b4 h => ?_))
  refine zi_if_ne (x := 18) (pc' := 16) rfl rfl (zi_r_bit b4)  (fun c31 => ?_) (fun c31 => ?_)
  · replace h := h.1 c31
    refine zi_iload_n (pc' := 19) rfl rfl rfl ?_
    refine zi_iconst (pc' := 20) rfl rfl ?_
    obtain ⟨o5, h⟩ := h
    refine zi_icmp_eq (x := 29) (pc' := 23) rfl rfl o5 (by decide) (fun c30 => ?_) (fun c30 => ?_)
    · replace h := h.1 c30
      refine zi_aload_n (pc' := 30) rfl rfl rfl ?_
      refine zi_callV (d' := 1) (as := []) (pc' := 33) rfl rfl rfl rfl (Nat.lt_of_lt_of_le (by decide) hd) (s_M_isOneToOne (Nat.le_refl _) h) (zi_kb (fun v6 g7 b8 h => ?_))
      refine zi_if_ne (x := 38) (pc' := 36) rfl rfl (zi_r_bit b8)  (fun c26 => ?_) (fun c26 => ?_)
      · replace h := h.1 c26
        refine zi_iconst (pc' := 39) rfl rfl ?_
        refine zi_istore_n (pc' := 40) [some _, some _, some _, none] rfl rfl rfl ?_
        refine zi_iconst (pc' := 41) rfl rfl ?_
        refine zi_istore_n (pc' := 42) [some _, some _, some _, some _] rfl rfl rfl ?_
        refine zi_wk (s_M_again_l42 hd h (fun k23 g24 h => ?_)) (And.intro rfl (And.intro rfl (And.intro rfl trivial)))
        refine zi_iload_n (pc' := 74) rfl rfl rfl ?_
        exact zi_iret rfl rfl h
      · replace h := h.2 c26
        refine zi_iconst (pc' := 37) rfl rfl ?_
        exact zi_iret rfl rfl h
    · replace h := h.2 c30
      refine zi_aload_n (pc' := 24) rfl rfl rfl ?_
      refine zi_iload_n (pc' := 25) rfl rfl rfl ?_
      refine zi_callV (d' := 2) (as := [_]) (pc' := 28) rfl rfl rfl rfl (Nat.lt_of_lt_of_le (by decide) hd) (s_M_comingFrom (Nat.le_refl _) h) (zi_ki (fun v27 g28 h => ?_))
      exact zi_iret rfl rfl h
  · replace h := h.2 c31
    refine zi_iconst (pc' := 17) rfl rfl ?_
    exact zi_iret rfl rfl h
-- SpoutNews.isRow(I)Z
noncomputable def w_S_isRow_l6 (K28 : zi_M → Prop) (K48 : Int → Int → zi_M → Prop) (Q : Int → zi_M → Prop) : Nat → Int → Int → Int → zi_M → Prop
  | 0, _, _, _, _ => False
  | f + 1, l1, l2, l3, g => (zi_r l3 ∧ ((4 ≤ l3 → K48 l1 l2 g) ∧ (l3 < 4 → (zi_r l2 ∧ (zi_r (Int.tmod l2 10) ∧ (((Int.tmod l2 10) < 0 → K28 g) ∧ (0 ≤ (Int.tmod l2 10) → (((Int.tmod l2 10) < 4 → w_S_isRow_l6 K28 K48 Q f (zi_or l1 (zi_shl 1 (Int.tmod l2 10))) (Int.tdiv l2 10) (l3 + 1) g) ∧ (4 ≤ (Int.tmod l2 10) → K28 g)))))))))
noncomputable def w_S_isRow (l0 : Int) (g : zi_M) (Q : Int → zi_M → Prop) : Prop := (∃ f15, w_S_isRow_l6 (fun g7 => Q 0 g7) (fun k8 k9 g10 => (zi_r k9 ∧ ((¬ k9 = 0 → Q 0 g10) ∧ (k9 = 0 → (zi_r k8 ∧ ((¬ k8 = 15 → Q 0 g10) ∧ (k8 = 15 → Q 1 g10))))))) Q f15 0 l0 0 g)
set_option maxRecDepth 100000 in
theorem s_S_isRow_l6_r {E : sx_E} {d : Nat} (hd : 1 ≤ d) {K28 : zi_M → Prop} {K48 : Int → Int → zi_M → Prop} {Q : Int → zi_M → Prop} (hK28 : ∀ (g : zi_M), K28 g → zi_W E d 154 28 [none, none, none, none, none] [] g (zi_Qb Q)) (hK48 : ∀ (k1 : Int) (k2 : Int) (g : zi_M), K48 k1 k2 g → zi_W E d 154 48 [none, some (zi_i k1), some (zi_i k2), none, none] [] g (zi_Qb Q)) : ∀ (f : Nat) {l1 : Int} {l2 : Int} {l3 : Int} {g : zi_M}, w_S_isRow_l6 K28 K48 Q f l1 l2 l3 g → zi_W E d 154 6 [none, some (zi_i l1), some (zi_i l2), some (zi_i l3), none] [] g (zi_Qb Q)
  | 0, _, _, _, _, h => False.elim h
  | f + 1, l1, l2, l3, g, h => by
    refine zi_iload_n (pc' := 7) rfl rfl rfl ?_
    refine zi_iconst (pc' := 8) rfl rfl ?_
    obtain ⟨o1, h⟩ := h
    refine zi_icmp_ge (x := 48) (pc' := 11) rfl rfl o1 (by decide) (fun c6 => ?_) (fun c6 => ?_)
    · replace h := h.1 c6
      exact zi_wk (hK48 _ _ _ h) (And.intro rfl (And.intro rfl trivial))
    · replace h := h.2 c6
      refine zi_iload_n (pc' := 12) rfl rfl rfl ?_
      refine zi_bipush (pc' := 14) rfl rfl (by decide) ?_
      obtain ⟨o2, h⟩ := h
      refine zi_irem (pc' := 15) rfl rfl o2 (by decide) (by decide) ?_
      refine zi_istore (pc' := 17) [none, some _, some _, some _, some _] rfl rfl rfl ?_
      refine zi_iload (pc' := 19) rfl rfl rfl ?_
      obtain ⟨o3, h⟩ := h
      refine zi_if_lt (x := 28) (pc' := 22) rfl rfl o3  (fun c5 => ?_) (fun c5 => ?_)
      · replace h := h.1 c5
        exact zi_wk (hK28 _ h) trivial
      · replace h := h.2 c5
        refine zi_iload (pc' := 24) rfl rfl rfl ?_
        refine zi_iconst (pc' := 25) rfl rfl ?_
        refine zi_icmp_lt (x := 30) (pc' := 28) rfl rfl o3 (by decide) (fun c4 => ?_) (fun c4 => ?_)
        · replace h := h.1 c4
          refine zi_iload_n (pc' := 31) rfl rfl rfl ?_
          refine zi_iconst (pc' := 32) rfl rfl ?_
          refine zi_iload (pc' := 34) rfl rfl rfl ?_
          refine zi_ishl (pc' := 35) rfl rfl ?_
          refine zi_ior (pc' := 36) rfl rfl ?_
          refine zi_istore_n (pc' := 37) [none, some _, some _, some _, some _] rfl rfl rfl ?_
          refine zi_iload_n (pc' := 38) rfl rfl rfl ?_
          refine zi_bipush (pc' := 40) rfl rfl (by decide) ?_
          refine zi_idiv (pc' := 41) rfl rfl o2 (by decide) (by decide) ?_
          refine zi_istore_n (pc' := 42) [none, some _, some _, some _, some _] rfl rfl rfl ?_
          refine zi_iinc (pc' := 45) [none, some _, some _, some _, some _] rfl rfl rfl rfl ?_
          refine zi_goto (x := 6) rfl ?_
          exact zi_wk (s_S_isRow_l6_r hd hK28 hK48 f h) (And.intro rfl (And.intro rfl (And.intro rfl trivial)))
        · replace h := h.2 c4
          exact zi_wk (hK28 _ h) trivial
set_option maxRecDepth 100000 in
theorem s_S_isRow_l6 {E : sx_E} {d : Nat} (hd : 1 ≤ d) {K28 : zi_M → Prop} {K48 : Int → Int → zi_M → Prop} {Q : Int → zi_M → Prop} {l1 : Int} {l2 : Int} {l3 : Int} {g : zi_M} (h : ∃ f, w_S_isRow_l6 K28 K48 Q f l1 l2 l3 g) (hK28 : ∀ (g : zi_M), K28 g → zi_W E d 154 28 [none, none, none, none, none] [] g (zi_Qb Q)) (hK48 : ∀ (k1 : Int) (k2 : Int) (g : zi_M), K48 k1 k2 g → zi_W E d 154 48 [none, some (zi_i k1), some (zi_i k2), none, none] [] g (zi_Qb Q)) : zi_W E d 154 6 [none, some (zi_i l1), some (zi_i l2), some (zi_i l3), none] [] g (zi_Qb Q) := by
  obtain ⟨f, h⟩ := h
  exact s_S_isRow_l6_r hd hK28 hK48 f h
set_option maxRecDepth 100000 in
theorem s_S_isRow {E : sx_E} {d : Nat} (hd : 1 ≤ d) {l0 : Int} {g : zi_M} {Q : Int → zi_M → Prop} (h : w_S_isRow l0 g Q) : zi_S E d 154 [zi_i l0] g (zi_Qb Q) := by
  refine zi_Sof jf_154 [some (zi_i l0), none, none, none, none] rfl (And.intro rfl trivial) ?_
  unfold w_S_isRow at h
  refine zi_iconst (pc' := 1) rfl rfl ?_
  refine zi_istore_n (pc' := 2) [some _, some _, none, none, none] rfl rfl rfl ?_
  refine zi_iload_n (pc' := 3) rfl rfl rfl ?_
  refine zi_istore_n (pc' := 4) [some _, some _, some _, none, none] rfl rfl rfl ?_
  refine zi_iconst (pc' := 5) rfl rfl ?_
  refine zi_istore_n (pc' := 6) [some _, some _, some _, some _, none] rfl rfl rfl ?_
  refine zi_wk (s_S_isRow_l6 hd h (fun g7 h => ?_) (fun k8 k9 g10 h => ?_)) (And.intro rfl (And.intro rfl (And.intro rfl trivial)))
  · refine zi_iconst (pc' := 29) rfl rfl ?_
    exact zi_zret rfl rfl (Or.inl rfl) h
  · refine zi_iload_n (pc' := 49) rfl rfl rfl ?_
    obtain ⟨o11, h⟩ := h
    refine zi_if_ne (x := 62) (pc' := 52) rfl rfl o11  (fun c14 => ?_) (fun c14 => ?_)
    · replace h := h.1 c14
      refine zi_iconst (pc' := 63) rfl rfl ?_
      exact zi_zret rfl rfl (Or.inl rfl) h
    · replace h := h.2 c14
      refine zi_iload_n (pc' := 53) rfl rfl rfl ?_
      refine zi_bipush (pc' := 55) rfl rfl (by decide) ?_
      obtain ⟨o12, h⟩ := h
      refine zi_icmp_ne (x := 62) (pc' := 58) rfl rfl o12 (by decide) (fun c13 => ?_) (fun c13 => ?_)
      · replace h := h.1 c13
        refine zi_iconst (pc' := 63) rfl rfl ?_
        exact zi_zret rfl rfl (Or.inl rfl) h
      · replace h := h.2 c13
        refine zi_iconst (pc' := 59) rfl rfl ?_
        refine zi_goto (x := 63) rfl ?_
        exact zi_zret rfl rfl (Or.inr rfl) h
-- SpoutNews.mason(IZI)Z
noncomputable def w_S_mason (l1 : Int) (l2 : Int) (l3 : Int) (g : zi_M) (Q : Int → zi_M → Prop) : Prop := (zi_r l1 ∧ ((l1 < 0 → Q 0 g) ∧ (0 ≤ l1 → ((4 ≤ l1 → Q 0 g) ∧ (l1 < 4 → w_S_isRow l3 g (fun v2 g3 => ((¬ v2 = 0 → (zi_r l2 ∧ ((l2 = 0 → (zi_r l3 ∧ ((0 ≤ (l1 * 4) ∧ (l1 * 4) < 16) ∧ (∀ g8, g8 = zi_u g3 42 (l1 * 4) (Int.tdiv l3 1000) → (zi_r (Int.tdiv l3 100) ∧ ((0 ≤ ((l1 * 4) + 1) ∧ ((l1 * 4) + 1) < 16) ∧ (∀ g11, g11 = zi_u g8 42 ((l1 * 4) + 1) (Int.tmod (Int.tdiv l3 100) 10) → (zi_r (Int.tdiv l3 10) ∧ ((0 ≤ ((l1 * 4) + 2) ∧ ((l1 * 4) + 2) < 16) ∧ (∀ g14, g14 = zi_u g11 42 ((l1 * 4) + 2) (Int.tmod (Int.tdiv l3 10) 10) → ((0 ≤ ((l1 * 4) + 3) ∧ ((l1 * 4) + 3) < 16) ∧ (∀ g16, g16 = zi_u g14 42 ((l1 * 4) + 3) (Int.tmod l3 10) → Q 1 g16)))))))))))) ∧ (¬ l2 = 0 → (zi_r l3 ∧ ((0 ≤ (l1 * 4) ∧ (l1 * 4) < 16) ∧ (∀ g19, g19 = zi_u g3 43 (l1 * 4) (Int.tdiv l3 1000) → (zi_r (Int.tdiv l3 100) ∧ ((0 ≤ ((l1 * 4) + 1) ∧ ((l1 * 4) + 1) < 16) ∧ (∀ g22, g22 = zi_u g19 43 ((l1 * 4) + 1) (Int.tmod (Int.tdiv l3 100) 10) → (zi_r (Int.tdiv l3 10) ∧ ((0 ≤ ((l1 * 4) + 2) ∧ ((l1 * 4) + 2) < 16) ∧ (∀ g25, g25 = zi_u g22 43 ((l1 * 4) + 2) (Int.tmod (Int.tdiv l3 10) 10) → ((0 ≤ ((l1 * 4) + 3) ∧ ((l1 * 4) + 3) < 16) ∧ (∀ g27, g27 = zi_u g25 43 ((l1 * 4) + 3) (Int.tmod l3 10) → Q 1 g27))))))))))))))) ∧ (v2 = 0 → Q 0 g3))))))))
set_option maxRecDepth 100000 in
theorem s_S_mason {E : sx_E} {d : Nat} (hd : 2 ≤ d) {l1 : Int} {l2 : Int} {l3 : Int} {g : zi_M} {Q : Int → zi_M → Prop} (h : w_S_mason l1 l2 l3 g Q) : zi_S E d 153 [.ref 0, zi_i l1, zi_i l2, zi_i l3] g (zi_Qb Q) := by
  refine zi_Sof jf_153 [some (.ref 0), some (zi_i l1), some (zi_i l2), some (zi_i l3), none] rfl (And.intro rfl (And.intro rfl (And.intro rfl (And.intro rfl trivial)))) ?_
  unfold w_S_mason at h
  refine zi_iload_n (pc' := 1) rfl rfl rfl ?_
  obtain ⟨o1, h⟩ := h
  refine zi_if_lt (x := 16) (pc' := 4) rfl rfl o1  (fun c31 => ?_) (fun c31 => ?_)
  · replace h := h.1 c31
    refine zi_iconst (pc' := 17) rfl rfl ?_
    exact zi_zret rfl rfl (Or.inl rfl) h
  · replace h := h.2 c31
    refine zi_iload_n (pc' := 5) rfl rfl rfl ?_
    refine zi_iconst (pc' := 6) rfl rfl ?_
    refine zi_icmp_ge (x := 16) (pc' := 9) rfl rfl o1 (by decide) (fun c30 => ?_) (fun c30 => ?_)
    · replace h := h.1 c30
      refine zi_iconst (pc' := 17) rfl rfl ?_
      exact zi_zret rfl rfl (Or.inl rfl) h
    · replace h := h.2 c30
      refine zi_iload_n (pc' := 10) rfl rfl rfl ?_
      refine zi_callS (d' := 1) (as := [_]) (pc' := 13) rfl rfl rfl (Nat.lt_of_lt_of_le (by decide) hd) (s_S_isRow (Nat.le_refl _) h) (zi_kb (fun v2 g3 b4 h => ?_))
      refine zi_if_ne (x := 18) (pc' := 16) rfl rfl (zi_r_bit b4)  (fun c29 => ?_) (fun c29 => ?_)
      · replace h := h.1 c29
        refine zi_iload_n (pc' := 19) rfl rfl rfl ?_
        obtain ⟨o5, h⟩ := h
        refine zi_if_eq (x := 35) (pc' := 22) rfl rfl o5  (fun c28 => ?_) (fun c28 => ?_)
        · replace h := h.1 c28
          refine zi_aload_n (pc' := 36) rfl rfl rfl ?_
          refine zi_getr (pc' := 39) rfl rfl rfl rfl rfl ?_
          refine zi_getr (pc' := 42) rfl rfl rfl rfl rfl ?_
          refine zi_getr (pc' := 45) rfl rfl rfl rfl rfl ?_
          refine zi_astore (pc' := 47) [some _, some _, some _, some _, some _] rfl rfl rfl ?_
          refine zi_aload (pc' := 49) rfl rfl rfl ?_
          refine zi_iload_n (pc' := 50) rfl rfl rfl ?_
          refine zi_iconst (pc' := 51) rfl rfl ?_
          refine zi_imul (pc' := 52) rfl rfl ?_
          refine zi_iload_n (pc' := 53) rfl rfl rfl ?_
          refine zi_sipush (pc' := 56) rfl rfl (by decide) ?_
          obtain ⟨o6, h⟩ := h
          refine zi_idiv (pc' := 57) rfl rfl o6 (by decide) (by decide) ?_
          obtain ⟨o7, h⟩ := h
          refine zi_iast (pc' := 58) rfl rfl rfl o7 ?_
          replace h := h _ rfl
          refine zi_aload (pc' := 60) rfl rfl rfl ?_
          refine zi_iload_n (pc' := 61) rfl rfl rfl ?_
          refine zi_iconst (pc' := 62) rfl rfl ?_
          refine zi_imul (pc' := 63) rfl rfl ?_
          refine zi_iconst (pc' := 64) rfl rfl ?_
          refine zi_iadd (pc' := 65) rfl rfl ?_
          refine zi_iload_n (pc' := 66) rfl rfl rfl ?_
          refine zi_bipush (pc' := 68) rfl rfl (by decide) ?_
          refine zi_idiv (pc' := 69) rfl rfl o6 (by decide) (by decide) ?_
          refine zi_bipush (pc' := 71) rfl rfl (by decide) ?_
          obtain ⟨o9, h⟩ := h
          refine zi_irem (pc' := 72) rfl rfl o9 (by decide) (by decide) ?_
          obtain ⟨o10, h⟩ := h
          refine zi_iast (pc' := 73) rfl rfl rfl o10 ?_
          replace h := h _ rfl
          refine zi_aload (pc' := 75) rfl rfl rfl ?_
          refine zi_iload_n (pc' := 76) rfl rfl rfl ?_
          refine zi_iconst (pc' := 77) rfl rfl ?_
          refine zi_imul (pc' := 78) rfl rfl ?_
          refine zi_iconst (pc' := 79) rfl rfl ?_
          refine zi_iadd (pc' := 80) rfl rfl ?_
          refine zi_iload_n (pc' := 81) rfl rfl rfl ?_
          refine zi_bipush (pc' := 83) rfl rfl (by decide) ?_
          refine zi_idiv (pc' := 84) rfl rfl o6 (by decide) (by decide) ?_
          refine zi_bipush (pc' := 86) rfl rfl (by decide) ?_
          obtain ⟨o12, h⟩ := h
          refine zi_irem (pc' := 87) rfl rfl o12 (by decide) (by decide) ?_
          obtain ⟨o13, h⟩ := h
          refine zi_iast (pc' := 88) rfl rfl rfl o13 ?_
          replace h := h _ rfl
          refine zi_aload (pc' := 90) rfl rfl rfl ?_
          refine zi_iload_n (pc' := 91) rfl rfl rfl ?_
          refine zi_iconst (pc' := 92) rfl rfl ?_
          refine zi_imul (pc' := 93) rfl rfl ?_
          refine zi_iconst (pc' := 94) rfl rfl ?_
          refine zi_iadd (pc' := 95) rfl rfl ?_
          refine zi_iload_n (pc' := 96) rfl rfl rfl ?_
          refine zi_bipush (pc' := 98) rfl rfl (by decide) ?_
          refine zi_irem (pc' := 99) rfl rfl o6 (by decide) (by decide) ?_
          obtain ⟨o15, h⟩ := h
          refine zi_iast (pc' := 100) rfl rfl rfl o15 ?_
          replace h := h _ rfl
          refine zi_iconst (pc' := 101) rfl rfl ?_
          exact zi_zret rfl rfl (Or.inr rfl) h
        · replace h := h.2 c28
          refine zi_aload_n (pc' := 23) rfl rfl rfl ?_
          refine zi_getr (pc' := 26) rfl rfl rfl rfl rfl ?_
          refine zi_getr (pc' := 29) rfl rfl rfl rfl rfl ?_
          refine zi_getr (pc' := 32) rfl rfl rfl rfl rfl ?_
          refine zi_goto (x := 45) rfl ?_
          refine zi_astore (pc' := 47) [some _, some _, some _, some _, some _] rfl rfl rfl ?_
          refine zi_aload (pc' := 49) rfl rfl rfl ?_
          refine zi_iload_n (pc' := 50) rfl rfl rfl ?_
          refine zi_iconst (pc' := 51) rfl rfl ?_
          refine zi_imul (pc' := 52) rfl rfl ?_
          refine zi_iload_n (pc' := 53) rfl rfl rfl ?_
          refine zi_sipush (pc' := 56) rfl rfl (by decide) ?_
          obtain ⟨o17, h⟩ := h
          refine zi_idiv (pc' := 57) rfl rfl o17 (by decide) (by decide) ?_
          obtain ⟨o18, h⟩ := h
          refine zi_iast (pc' := 58) rfl rfl rfl o18 ?_
          replace h := h _ rfl
          refine zi_aload (pc' := 60) rfl rfl rfl ?_
          refine zi_iload_n (pc' := 61) rfl rfl rfl ?_
          refine zi_iconst (pc' := 62) rfl rfl ?_
          refine zi_imul (pc' := 63) rfl rfl ?_
          refine zi_iconst (pc' := 64) rfl rfl ?_
          refine zi_iadd (pc' := 65) rfl rfl ?_
          refine zi_iload_n (pc' := 66) rfl rfl rfl ?_
          refine zi_bipush (pc' := 68) rfl rfl (by decide) ?_
          refine zi_idiv (pc' := 69) rfl rfl o17 (by decide) (by decide) ?_
          refine zi_bipush (pc' := 71) rfl rfl (by decide) ?_
          obtain ⟨o20, h⟩ := h
          refine zi_irem (pc' := 72) rfl rfl o20 (by decide) (by decide) ?_
          obtain ⟨o21, h⟩ := h
          refine zi_iast (pc' := 73) rfl rfl rfl o21 ?_
          replace h := h _ rfl
          refine zi_aload (pc' := 75) rfl rfl rfl ?_
          refine zi_iload_n (pc' := 76) rfl rfl rfl ?_
          refine zi_iconst (pc' := 77) rfl rfl ?_
          refine zi_imul (pc' := 78) rfl rfl ?_
          refine zi_iconst (pc' := 79) rfl rfl ?_
          refine zi_iadd (pc' := 80) rfl rfl ?_
          refine zi_iload_n (pc' := 81) rfl rfl rfl ?_
          refine zi_bipush (pc' := 83) rfl rfl (by decide) ?_
          refine zi_idiv (pc' := 84) rfl rfl o17 (by decide) (by decide) ?_
          refine zi_bipush (pc' := 86) rfl rfl (by decide) ?_
          obtain ⟨o23, h⟩ := h
          refine zi_irem (pc' := 87) rfl rfl o23 (by decide) (by decide) ?_
          obtain ⟨o24, h⟩ := h
          refine zi_iast (pc' := 88) rfl rfl rfl o24 ?_
          replace h := h _ rfl
          refine zi_aload (pc' := 90) rfl rfl rfl ?_
          refine zi_iload_n (pc' := 91) rfl rfl rfl ?_
          refine zi_iconst (pc' := 92) rfl rfl ?_
          refine zi_imul (pc' := 93) rfl rfl ?_
          refine zi_iconst (pc' := 94) rfl rfl ?_
          refine zi_iadd (pc' := 95) rfl rfl ?_
          refine zi_iload_n (pc' := 96) rfl rfl rfl ?_
          refine zi_bipush (pc' := 98) rfl rfl (by decide) ?_
          refine zi_irem (pc' := 99) rfl rfl o17 (by decide) (by decide) ?_
          obtain ⟨o26, h⟩ := h
          refine zi_iast (pc' := 100) rfl rfl rfl o26 ?_
          replace h := h _ rfl
          refine zi_iconst (pc' := 101) rfl rfl ?_
          exact zi_zret rfl rfl (Or.inr rfl) h
      · replace h := h.2 c29
        refine zi_iconst (pc' := 17) rfl rfl ?_
        exact zi_zret rfl rfl (Or.inl rfl) h
-- SpoutNewsModel.digitOf(II)I
noncomputable def w_M_digitOf_l5 (l2 : Int) (K22 : Int → zi_M → Prop) (Q : Int → zi_M → Prop) : Nat → Int → Int → zi_M → Prop
  | 0, _, _, _ => False
  | f + 1, l3, l4, g => (zi_r l4 ∧ zi_r l2 ∧ ((l4 ≤ l2 → K22 l3 g) ∧ (l2 < l4 → (zi_r l3 ∧ w_M_digitOf_l5 l2 K22 Q f (Int.tdiv l3 10) (l4 + (-1)) g))))
noncomputable def w_M_digitOf (l1 : Int) (l2 : Int) (g : zi_M) (Q : Int → zi_M → Prop) : Prop := (∃ f8, w_M_digitOf_l5 l2 (fun k5 g6 => (zi_r k5 ∧ Q (Int.tmod k5 10) g6)) Q f8 l1 3 g)
set_option maxRecDepth 100000 in
theorem s_M_digitOf_l5_r {E : sx_E} {d : Nat} (hd : 1 ≤ d) {l2 : Int} {K22 : Int → zi_M → Prop} {Q : Int → zi_M → Prop} (hK22 : ∀ (k3 : Int) (g : zi_M), K22 k3 g → zi_W E d 302 22 [none, none, some (zi_i l2), some (zi_i k3), none] [] g (zi_Q Q)) : ∀ (f : Nat) {l3 : Int} {l4 : Int} {g : zi_M}, w_M_digitOf_l5 l2 K22 Q f l3 l4 g → zi_W E d 302 5 [none, none, some (zi_i l2), some (zi_i l3), some (zi_i l4)] [] g (zi_Q Q)
  | 0, _, _, _, h => False.elim h
  | f + 1, l3, l4, g, h => by
    refine zi_iload (pc' := 7) rfl rfl rfl ?_
    refine zi_iload_n (pc' := 8) rfl rfl rfl ?_
    obtain ⟨o1, o2, h⟩ := h
    refine zi_icmp_le (x := 22) (pc' := 11) rfl rfl o1 o2 (fun c4 => ?_) (fun c4 => ?_)
    · replace h := h.1 c4
      exact zi_wk (hK22 _ _ h) (And.intro rfl (And.intro rfl trivial))
    · replace h := h.2 c4
      refine zi_iload_n (pc' := 12) rfl rfl rfl ?_
      refine zi_bipush (pc' := 14) rfl rfl (by decide) ?_
      obtain ⟨o3, h⟩ := h
      refine zi_idiv (pc' := 15) rfl rfl o3 (by decide) (by decide) ?_
      refine zi_istore_n (pc' := 16) [none, none, some _, some _, some _] rfl rfl rfl ?_
      refine zi_iinc (pc' := 19) [none, none, some _, some _, some _] rfl rfl rfl rfl ?_
      refine zi_goto (x := 5) rfl ?_
      exact zi_wk (s_M_digitOf_l5_r hd hK22 f h) (And.intro rfl (And.intro rfl (And.intro rfl trivial)))
set_option maxRecDepth 100000 in
theorem s_M_digitOf_l5 {E : sx_E} {d : Nat} (hd : 1 ≤ d) {l2 : Int} {K22 : Int → zi_M → Prop} {Q : Int → zi_M → Prop} {l3 : Int} {l4 : Int} {g : zi_M} (h : ∃ f, w_M_digitOf_l5 l2 K22 Q f l3 l4 g) (hK22 : ∀ (k3 : Int) (g : zi_M), K22 k3 g → zi_W E d 302 22 [none, none, some (zi_i l2), some (zi_i k3), none] [] g (zi_Q Q)) : zi_W E d 302 5 [none, none, some (zi_i l2), some (zi_i l3), some (zi_i l4)] [] g (zi_Q Q) := by
  obtain ⟨f, h⟩ := h
  exact s_M_digitOf_l5_r hd hK22 f h
set_option maxRecDepth 100000 in
theorem s_M_digitOf {E : sx_E} {d : Nat} (hd : 1 ≤ d) {l1 : Int} {l2 : Int} {g : zi_M} {Q : Int → zi_M → Prop} (h : w_M_digitOf l1 l2 g Q) : zi_S E d 302 [.ref 214, zi_i l1, zi_i l2] g (zi_Q Q) := by
  refine zi_Sof jf_302 [some (.ref 214), some (zi_i l1), some (zi_i l2), none, none] rfl (And.intro rfl (And.intro rfl (And.intro rfl trivial))) ?_
  unfold w_M_digitOf at h
  refine zi_iload_n (pc' := 1) rfl rfl rfl ?_
  refine zi_istore_n (pc' := 2) [some _, some _, some _, some _, none] rfl rfl rfl ?_
  refine zi_iconst (pc' := 3) rfl rfl ?_
  refine zi_istore (pc' := 5) [some _, some _, some _, some _, some _] rfl rfl rfl ?_
  refine zi_wk (s_M_digitOf_l5 hd h (fun k5 g6 h => ?_)) (And.intro rfl (And.intro rfl (And.intro rfl trivial)))
  refine zi_iload_n (pc' := 23) rfl rfl rfl ?_
  refine zi_bipush (pc' := 25) rfl rfl (by decide) ?_
  obtain ⟨o7, h⟩ := h
  refine zi_irem (pc' := 26) rfl rfl o7 (by decide) (by decide) ?_
  exact zi_iret rfl rfl h
-- SpoutNewsModel.isRow(I)Z
noncomputable def w_M_isRow_l4 (l1 : Int) (K26 : Int → zi_M → Prop) (Q : Int → zi_M → Prop) : Nat → Int → Int → zi_M → Prop
  | 0, _, _, _ => False
  | f + 1, l2, l3, g => (zi_r l3 ∧ ((4 ≤ l3 → K26 l2 g) ∧ (l3 < 4 → w_M_digitOf l1 l3 g (fun v2 g3 => w_M_isRow_l4 l1 K26 Q f (zi_or l2 (zi_shl 1 v2)) (l3 + 1) g3))))
noncomputable def w_M_isRow (l1 : Int) (g : zi_M) (Q : Int → zi_M → Prop) : Prop := (∃ f14, w_M_isRow_l4 l1 (fun k6 g7 => w_M_isIn l1 0 3210 g7 (fun v8 g9 => ((v8 = 0 → Q 0 g9) ∧ (¬ v8 = 0 → (zi_r k6 ∧ ((¬ k6 = 15 → Q 0 g9) ∧ (k6 = 15 → Q 1 g9))))))) Q f14 0 0 g)
set_option maxRecDepth 100000 in
theorem s_M_isRow_l4_r {E : sx_E} {d : Nat} (hd : 2 ≤ d) {l1 : Int} {K26 : Int → zi_M → Prop} {Q : Int → zi_M → Prop} (hK26 : ∀ (k2 : Int) (g : zi_M), K26 k2 g → zi_W E d 301 26 [some (.ref 214), some (zi_i l1), some (zi_i k2), none] [] g (zi_Qb Q)) : ∀ (f : Nat) {l2 : Int} {l3 : Int} {g : zi_M}, w_M_isRow_l4 l1 K26 Q f l2 l3 g → zi_W E d 301 4 [some (.ref 214), some (zi_i l1), some (zi_i l2), some (zi_i l3)] [] g (zi_Qb Q)
  | 0, _, _, _, h => False.elim h
  | f + 1, l2, l3, g, h => by
    refine zi_iload_n (pc' := 5) rfl rfl rfl ?_
    refine zi_iconst (pc' := 6) rfl rfl ?_
    obtain ⟨o1, h⟩ := h
    refine zi_icmp_ge (x := 26) (pc' := 9) rfl rfl o1 (by decide) (fun c5 => ?_) (fun c5 => ?_)
    · replace h := h.1 c5
      exact zi_wk (hK26 _ _ h) (And.intro rfl (And.intro rfl (And.intro rfl trivial)))
    · replace h := h.2 c5
      refine zi_iload_n (pc' := 10) rfl rfl rfl ?_
      refine zi_iconst (pc' := 11) rfl rfl ?_
      refine zi_aload_n (pc' := 12) rfl rfl rfl ?_
      refine zi_iload_n (pc' := 13) rfl rfl rfl ?_
      refine zi_iload_n (pc' := 14) rfl rfl rfl ?_
      refine zi_callV (d' := 1) (as := [_, _]) (pc' := 17) rfl rfl rfl rfl (Nat.lt_of_lt_of_le (by decide) hd) (s_M_digitOf (Nat.le_refl _) h) (zi_ki (fun v2 g3 h => ?_))
      refine zi_ishl (pc' := 18) rfl rfl ?_
      refine zi_ior (pc' := 19) rfl rfl ?_
      refine zi_istore_n (pc' := 20) [some _, some _, some _, some _] rfl rfl rfl ?_
      refine zi_iinc (pc' := 23) [some _, some _, some _, some _] rfl rfl rfl rfl ?_
      refine zi_goto (x := 4) rfl ?_
      exact zi_wk (s_M_isRow_l4_r hd hK26 f h) (And.intro rfl (And.intro rfl (And.intro rfl (And.intro rfl trivial))))
set_option maxRecDepth 100000 in
theorem s_M_isRow_l4 {E : sx_E} {d : Nat} (hd : 2 ≤ d) {l1 : Int} {K26 : Int → zi_M → Prop} {Q : Int → zi_M → Prop} {l2 : Int} {l3 : Int} {g : zi_M} (h : ∃ f, w_M_isRow_l4 l1 K26 Q f l2 l3 g) (hK26 : ∀ (k2 : Int) (g : zi_M), K26 k2 g → zi_W E d 301 26 [some (.ref 214), some (zi_i l1), some (zi_i k2), none] [] g (zi_Qb Q)) : zi_W E d 301 4 [some (.ref 214), some (zi_i l1), some (zi_i l2), some (zi_i l3)] [] g (zi_Qb Q) := by
  obtain ⟨f, h⟩ := h
  exact s_M_isRow_l4_r hd hK26 f h
set_option maxRecDepth 100000 in
theorem s_M_isRow {E : sx_E} {d : Nat} (hd : 2 ≤ d) {l1 : Int} {g : zi_M} {Q : Int → zi_M → Prop} (h : w_M_isRow l1 g Q) : zi_S E d 301 [.ref 214, zi_i l1] g (zi_Qb Q) := by
  refine zi_Sof jf_301 [some (.ref 214), some (zi_i l1), none, none] rfl (And.intro rfl (And.intro rfl trivial)) ?_
  unfold w_M_isRow at h
  refine zi_iconst (pc' := 1) rfl rfl ?_
  refine zi_istore_n (pc' := 2) [some _, some _, some _, none] rfl rfl rfl ?_
  refine zi_iconst (pc' := 3) rfl rfl ?_
  refine zi_istore_n (pc' := 4) [some _, some _, some _, some _] rfl rfl rfl ?_
  refine zi_wk (s_M_isRow_l4 hd h (fun k6 g7 h => ?_)) (And.intro rfl (And.intro rfl (And.intro rfl (And.intro rfl trivial))))
  refine zi_aload_n (pc' := 27) rfl rfl rfl ?_
  refine zi_iload_n (pc' := 28) rfl rfl rfl ?_
  refine zi_iconst (pc' := 29) rfl rfl ?_
  refine zi_sipush (pc' := 32) rfl rfl (by decide) ?_
  refine zi_callV (d' := 1) (as := [_, _, _]) (pc' := 35) rfl rfl rfl rfl (Nat.lt_of_lt_of_le (by decide) hd) (s_M_isIn (Nat.le_refl _) h) (zi_kb (fun v8 g9 b10 h => ?_))
  refine zi_if_eq (x := 48) (pc' := 38) rfl rfl (zi_r_bit b10)  (fun c13 => ?_) (fun c13 => ?_)
  · replace h := h.1 c13
    refine zi_iconst (pc' := 49) rfl rfl ?_
    exact zi_zret rfl rfl (Or.inl rfl) h
  · replace h := h.2 c13
    refine zi_iload_n (pc' := 39) rfl rfl rfl ?_
    refine zi_bipush (pc' := 41) rfl rfl (by decide) ?_
    obtain ⟨o11, h⟩ := h
    refine zi_icmp_ne (x := 48) (pc' := 44) rfl rfl o11 (by decide) (fun c12 => ?_) (fun c12 => ?_)
    · replace h := h.1 c12
      refine zi_iconst (pc' := 49) rfl rfl ?_
      exact zi_zret rfl rfl (Or.inl rfl) h
    · replace h := h.2 c12
      refine zi_iconst (pc' := 45) rfl rfl ?_
      refine zi_goto (x := 49) rfl ?_
      exact zi_zret rfl rfl (Or.inr rfl) h
-- SpoutNewsModel.mason(IZI)Z
noncomputable def w_M_mason_l40 (l1 : Int) (l2 : Int) (l3 : Int) (K83 : zi_M → Prop) (Q : Int → zi_M → Prop) : Nat → Int → zi_M → Prop
  | 0, _, _ => False
  | f + 1, l4, g => (zi_r l4 ∧ ((4 ≤ l4 → K83 g) ∧ (l4 < 4 → (zi_r l2 ∧ ((l2 = 0 → w_M_digitOf l3 l4 g (fun v13 g14 => ((0 ≤ ((4 * l1) + l4) ∧ ((4 * l1) + l4) < 32) ∧ (∀ g17, g17 = zi_u g14 244 ((4 * l1) + l4) (v13 - l4) → w_M_mason_l40 l1 l2 l3 K83 Q f (l4 + 1) g17)))) ∧ (¬ l2 = 0 → w_M_digitOf l3 l4 g (fun v18 g19 => ((0 ≤ ((4 * (4 + l1)) + l4) ∧ ((4 * (4 + l1)) + l4) < 32) ∧ (∀ g22, g22 = zi_u g19 244 ((4 * (4 + l1)) + l4) (v18 - l4) → w_M_mason_l40 l1 l2 l3 K83 Q f (l4 + 1) g22)))))))))
noncomputable def w_M_mason (l1 : Int) (l2 : Int) (l3 : Int) (g : zi_M) (Q : Int → zi_M → Prop) : Prop := (∀ g1, g1 = zi_u g 214 0 0 → w_M_isIn l1 0 3 g1 (fun v2 g3 => ((v2 = 0 → Q 0 g3) ∧ (¬ v2 = 0 → w_M_isIn l3 0 3210 g3 (fun v5 g6 => ((v5 = 0 → Q 0 g6) ∧ (¬ v5 = 0 → w_M_isRow l3 g6 (fun v8 g9 => ((¬ v8 = 0 → (∃ f26, w_M_mason_l40 l1 l2 l3 (fun g25 => Q 1 g25) Q f26 0 g9)) ∧ (v8 = 0 → Q 0 g9))))))))))
set_option maxRecDepth 100000 in
theorem s_M_mason_l40_r {E : sx_E} {d : Nat} (hd : 3 ≤ d) {l1 : Int} {l2 : Int} {l3 : Int} {K83 : zi_M → Prop} {Q : Int → zi_M → Prop} (hK83 : ∀ (g : zi_M), K83 g → zi_W E d 300 83 [some (.ref 214), some (zi_i l1), some (zi_i l2), some (zi_i l3), none] [] g (zi_Qb Q)) : ∀ (f : Nat) {l4 : Int} {g : zi_M}, w_M_mason_l40 l1 l2 l3 K83 Q f l4 g → zi_W E d 300 40 [some (.ref 214), some (zi_i l1), some (zi_i l2), some (zi_i l3), some (zi_i l4)] [] g (zi_Qb Q)
  | 0, _, _, h => False.elim h
  | f + 1, l4, g, h => by
    refine zi_iload (pc' := 42) rfl rfl rfl ?_
    refine zi_iconst (pc' := 43) rfl rfl ?_
    obtain ⟨o11, h⟩ := h
    refine zi_icmp_ge (x := 83) (pc' := 46) rfl rfl o11 (by decide) (fun c24 => ?_) (fun c24 => ?_)
    · replace h := h.1 c24
      exact zi_wk (hK83 _ h) (And.intro rfl (And.intro rfl (And.intro rfl (And.intro rfl trivial))))
    · replace h := h.2 c24
      refine zi_aload_n (pc' := 47) rfl rfl rfl ?_
      refine zi_getr (pc' := 50) rfl rfl rfl rfl rfl ?_
      refine zi_iconst (pc' := 51) rfl rfl ?_
      refine zi_iload_n (pc' := 52) rfl rfl rfl ?_
      obtain ⟨o12, h⟩ := h
      refine zi_if_eq (x := 61) (pc' := 55) rfl rfl o12  (fun c23 => ?_) (fun c23 => ?_)
      · replace h := h.1 c23
        refine zi_iload_n (pc' := 62) rfl rfl rfl ?_
        refine zi_imul (pc' := 63) rfl rfl ?_
        refine zi_iload (pc' := 65) rfl rfl rfl ?_
        refine zi_iadd (pc' := 66) rfl rfl ?_
        refine zi_aload_n (pc' := 67) rfl rfl rfl ?_
        refine zi_iload_n (pc' := 68) rfl rfl rfl ?_
        refine zi_iload (pc' := 70) rfl rfl rfl ?_
        refine zi_callV (d' := 1) (as := [_, _]) (pc' := 73) rfl rfl rfl rfl (Nat.lt_of_lt_of_le (by decide) hd) (s_M_digitOf (Nat.le_refl _) h) (zi_ki (fun v13 g14 h => ?_))
        refine zi_iload (pc' := 75) rfl rfl rfl ?_
        refine zi_isub (pc' := 76) rfl rfl ?_
        obtain ⟨o16, h⟩ := h
        refine zi_iast (pc' := 77) rfl rfl rfl o16 ?_
        replace h := h _ rfl
        refine zi_iinc (pc' := 80) [some _, some _, some _, some _, some _] rfl rfl rfl rfl ?_
        refine zi_goto (x := 40) rfl ?_
        exact zi_wk (s_M_mason_l40_r hd hK83 f h) (And.intro rfl (And.intro rfl (And.intro rfl (And.intro rfl (And.intro rfl trivial)))))
      · replace h := h.2 c23
        refine zi_iconst (pc' := 56) rfl rfl ?_
        refine zi_iload_n (pc' := 57) rfl rfl rfl ?_
        refine zi_iadd (pc' := 58) rfl rfl ?_
        refine zi_goto (x := 62) rfl ?_
        refine zi_imul (pc' := 63) rfl rfl ?_
        refine zi_iload (pc' := 65) rfl rfl rfl ?_
        refine zi_iadd (pc' := 66) rfl rfl ?_
        refine zi_aload_n (pc' := 67) rfl rfl rfl ?_
        refine zi_iload_n (pc' := 68) rfl rfl rfl ?_
        refine zi_iload (pc' := 70) rfl rfl rfl ?_
        refine zi_callV (d' := 1) (as := [_, _]) (pc' := 73) rfl rfl rfl rfl (Nat.lt_of_lt_of_le (by decide) hd) (s_M_digitOf (Nat.le_refl _) h) (zi_ki (fun v18 g19 h => ?_))
        refine zi_iload (pc' := 75) rfl rfl rfl ?_
        refine zi_isub (pc' := 76) rfl rfl ?_
        obtain ⟨o21, h⟩ := h
        refine zi_iast (pc' := 77) rfl rfl rfl o21 ?_
        replace h := h _ rfl
        refine zi_iinc (pc' := 80) [some _, some _, some _, some _, some _] rfl rfl rfl rfl ?_
        refine zi_goto (x := 40) rfl ?_
        exact zi_wk (s_M_mason_l40_r hd hK83 f h) (And.intro rfl (And.intro rfl (And.intro rfl (And.intro rfl (And.intro rfl trivial)))))
set_option maxRecDepth 100000 in
theorem s_M_mason_l40 {E : sx_E} {d : Nat} (hd : 3 ≤ d) {l1 : Int} {l2 : Int} {l3 : Int} {K83 : zi_M → Prop} {Q : Int → zi_M → Prop} {l4 : Int} {g : zi_M} (h : ∃ f, w_M_mason_l40 l1 l2 l3 K83 Q f l4 g) (hK83 : ∀ (g : zi_M), K83 g → zi_W E d 300 83 [some (.ref 214), some (zi_i l1), some (zi_i l2), some (zi_i l3), none] [] g (zi_Qb Q)) : zi_W E d 300 40 [some (.ref 214), some (zi_i l1), some (zi_i l2), some (zi_i l3), some (zi_i l4)] [] g (zi_Qb Q) := by
  obtain ⟨f, h⟩ := h
  exact s_M_mason_l40_r hd hK83 f h
set_option maxRecDepth 100000 in
theorem s_M_mason {E : sx_E} {d : Nat} (hd : 3 ≤ d) {l1 : Int} {l2 : Int} {l3 : Int} {g : zi_M} {Q : Int → zi_M → Prop} (h : w_M_mason l1 l2 l3 g Q) : zi_S E d 300 [.ref 214, zi_i l1, zi_i l2, zi_i l3] g (zi_Qb Q) := by
  refine zi_Sof jf_300 [some (.ref 214), some (zi_i l1), some (zi_i l2), some (zi_i l3), none] rfl (And.intro rfl (And.intro rfl (And.intro rfl (And.intro rfl trivial)))) ?_
  unfold w_M_mason at h
  refine zi_aload_n (pc' := 1) rfl rfl rfl ?_
  refine zi_iconst (pc' := 2) rfl rfl ?_
  refine zi_puti (pc' := 5) 0 rfl rfl rfl rfl rfl  ?_
  replace h := h _ rfl
  refine zi_aload_n (pc' := 6) rfl rfl rfl ?_
  refine zi_iload_n (pc' := 7) rfl rfl rfl ?_
  refine zi_iconst (pc' := 8) rfl rfl ?_
  refine zi_iconst (pc' := 9) rfl rfl ?_
  refine zi_callV (d' := 1) (as := [_, _, _]) (pc' := 12) rfl rfl rfl rfl (Nat.lt_of_lt_of_le (by decide) hd) (s_M_isIn (Nat.le_refl _) h) (zi_kb (fun v2 g3 b4 h => ?_))
  refine zi_if_eq (x := 35) (pc' := 15) rfl rfl (zi_r_bit b4)  (fun c29 => ?_) (fun c29 => ?_)
  · replace h := h.1 c29
    refine zi_iconst (pc' := 36) rfl rfl ?_
    exact zi_zret rfl rfl (Or.inl rfl) h
  · replace h := h.2 c29
    refine zi_aload_n (pc' := 16) rfl rfl rfl ?_
    refine zi_iload_n (pc' := 17) rfl rfl rfl ?_
    refine zi_iconst (pc' := 18) rfl rfl ?_
    refine zi_sipush (pc' := 21) rfl rfl (by decide) ?_
    refine zi_callV (d' := 1) (as := [_, _, _]) (pc' := 24) rfl rfl rfl rfl (Nat.lt_of_lt_of_le (by decide) hd) (s_M_isIn (Nat.le_refl _) h) (zi_kb (fun v5 g6 b7 h => ?_))
    refine zi_if_eq (x := 35) (pc' := 27) rfl rfl (zi_r_bit b7)  (fun c28 => ?_) (fun c28 => ?_)
    · replace h := h.1 c28
      refine zi_iconst (pc' := 36) rfl rfl ?_
      exact zi_zret rfl rfl (Or.inl rfl) h
    · replace h := h.2 c28
      refine zi_aload_n (pc' := 28) rfl rfl rfl ?_
      refine zi_iload_n (pc' := 29) rfl rfl rfl ?_
      refine zi_callV (d' := 2) (as := [_]) (pc' := 32) rfl rfl rfl rfl (Nat.lt_of_lt_of_le (by decide) hd) (s_M_isRow (Nat.le_refl _) h) (zi_kb (fun v8 g9 b10 h => ?_))
      refine zi_if_ne (x := 37) (pc' := 35) rfl rfl (zi_r_bit b10)  (fun c27 => ?_) (fun c27 => ?_)
      · replace h := h.1 c27
        refine zi_iconst (pc' := 38) rfl rfl ?_
        refine zi_istore (pc' := 40) [some _, some _, some _, some _, some _] rfl rfl rfl ?_
        refine zi_wk (s_M_mason_l40 hd h (fun g25 h => ?_)) (And.intro rfl (And.intro rfl (And.intro rfl (And.intro rfl (And.intro rfl trivial)))))
        refine zi_iconst (pc' := 84) rfl rfl ?_
        exact zi_zret rfl rfl (Or.inr rfl) h
      · replace h := h.2 c27
        refine zi_iconst (pc' := 36) rfl rfl ?_
        exact zi_zret rfl rfl (Or.inl rfl) h
-- SpoutNews$Thought.firstWithout()I
noncomputable def w_Thought_firstWithout_l2 (K17 : Int → zi_M → Prop) (K25 : zi_M → Prop) (Q : Int → zi_M → Prop) : Nat → Int → zi_M → Prop
  | 0, _, _ => False
  | f + 1, l1, g => (zi_r l1 ∧ ((4 ≤ l1 → K25 g) ∧ (l1 < 4 → ((0 ≤ l1 ∧ l1 < 4) ∧ (zi_r (g 186 l1) ∧ ((¬ (g 186 l1) = (-1) → w_Thought_firstWithout_l2 K17 K25 Q f (l1 + 1) g) ∧ ((g 186 l1) = (-1) → K17 l1 g)))))))
noncomputable def w_Thought_firstWithout (g : zi_M) (Q : Int → zi_M → Prop) : Prop := (∃ f9, w_Thought_firstWithout_l2 (fun k6 g7 => Q k6 g7) (fun g8 => Q (-1) g8) Q f9 0 g)
set_option maxRecDepth 100000 in
theorem s_Thought_firstWithout_l2_r {E : sx_E} {d : Nat} (hd : 1 ≤ d) {K17 : Int → zi_M → Prop} {K25 : zi_M → Prop} {Q : Int → zi_M → Prop} (hK17 : ∀ (k1 : Int) (g : zi_M), K17 k1 g → zi_W E d 157 17 [some (.ref 180), some (zi_i k1)] [] g (zi_Q Q)) (hK25 : ∀ (g : zi_M), K25 g → zi_W E d 157 25 [some (.ref 180), none] [] g (zi_Q Q)) : ∀ (f : Nat) {l1 : Int} {g : zi_M}, w_Thought_firstWithout_l2 K17 K25 Q f l1 g → zi_W E d 157 2 [some (.ref 180), some (zi_i l1)] [] g (zi_Q Q)
  | 0, _, _, h => False.elim h
  | f + 1, l1, g, h => by
    refine zi_iload_n (pc' := 3) rfl rfl rfl ?_
    refine zi_iconst (pc' := 4) rfl rfl ?_
    obtain ⟨o1, h⟩ := h
    refine zi_icmp_ge (x := 25) (pc' := 7) rfl rfl o1 (by decide) (fun c5 => ?_) (fun c5 => ?_)
    · replace h := h.1 c5
      exact zi_wk (hK25 _ h) (And.intro rfl trivial)
    · replace h := h.2 c5
      refine zi_aload_n (pc' := 8) rfl rfl rfl ?_
      refine zi_getr (pc' := 11) rfl rfl rfl rfl rfl ?_
      refine zi_iload_n (pc' := 12) rfl rfl rfl ?_
      obtain ⟨o2, h⟩ := h
      refine zi_iald (pc' := 13) rfl rfl rfl o2 ?_
      refine zi_iconst (pc' := 14) rfl rfl ?_
      obtain ⟨o3, h⟩ := h
      refine zi_icmp_ne (x := 19) (pc' := 17) rfl rfl o3 (by decide) (fun c4 => ?_) (fun c4 => ?_)
      · replace h := h.1 c4
        refine zi_iinc (pc' := 22) [some _, some _] rfl rfl rfl rfl ?_
        refine zi_goto (x := 2) rfl ?_
        exact zi_wk (s_Thought_firstWithout_l2_r hd hK17 hK25 f h) (And.intro rfl (And.intro rfl trivial))
      · replace h := h.2 c4
        exact zi_wk (hK17 _ _ h) (And.intro rfl (And.intro rfl trivial))
set_option maxRecDepth 100000 in
theorem s_Thought_firstWithout_l2 {E : sx_E} {d : Nat} (hd : 1 ≤ d) {K17 : Int → zi_M → Prop} {K25 : zi_M → Prop} {Q : Int → zi_M → Prop} {l1 : Int} {g : zi_M} (h : ∃ f, w_Thought_firstWithout_l2 K17 K25 Q f l1 g) (hK17 : ∀ (k1 : Int) (g : zi_M), K17 k1 g → zi_W E d 157 17 [some (.ref 180), some (zi_i k1)] [] g (zi_Q Q)) (hK25 : ∀ (g : zi_M), K25 g → zi_W E d 157 25 [some (.ref 180), none] [] g (zi_Q Q)) : zi_W E d 157 2 [some (.ref 180), some (zi_i l1)] [] g (zi_Q Q) := by
  obtain ⟨f, h⟩ := h
  exact s_Thought_firstWithout_l2_r hd hK17 hK25 f h
set_option maxRecDepth 100000 in
theorem s_Thought_firstWithout {E : sx_E} {d : Nat} (hd : 1 ≤ d) {g : zi_M} {Q : Int → zi_M → Prop} (h : w_Thought_firstWithout g Q) : zi_S E d 157 [.ref 180] g (zi_Q Q) := by
  refine zi_Sof jf_157 [some (.ref 180), none] rfl (And.intro rfl trivial) ?_
  unfold w_Thought_firstWithout at h
  refine zi_iconst (pc' := 1) rfl rfl ?_
  refine zi_istore_n (pc' := 2) [some _, some _] rfl rfl rfl ?_
  refine zi_wk (s_Thought_firstWithout_l2 hd h (fun k6 g7 h => ?_) (fun g8 h => ?_)) (And.intro rfl (And.intro rfl trivial))
  · refine zi_iload_n (pc' := 18) rfl rfl rfl ?_
    exact zi_iret rfl rfl h
  · refine zi_iconst (pc' := 26) rfl rfl ?_
    exact zi_iret rfl rfl h
-- SpoutNews$Thought.dearness(LSpoutNews$Told;II)I
noncomputable def w_Thought_dearness_l2 (l1 : Int) (l2 : Int) (K21 : Int → zi_M → Prop) (K29 : zi_M → Prop) (Q : Int → zi_M → Prop) : Nat → Int → zi_M → Prop
  | 0, _, _ => False
  | f + 1, l3, g => (zi_r l3 ∧ ((4 ≤ l3 → K29 g) ∧ (l3 < 4 → ((0 ≤ ((l1 * 4) + l3) ∧ ((l1 * 4) + l3) < 16) ∧ (zi_r (g 43 ((l1 * 4) + l3)) ∧ zi_r l2 ∧ ((¬ (g 43 ((l1 * 4) + l3)) = l2 → w_Thought_dearness_l2 l1 l2 K21 K29 Q f (l3 + 1) g) ∧ ((g 43 ((l1 * 4) + l3)) = l2 → K21 l3 g)))))))
noncomputable def w_Thought_dearness (l1 : Int) (l2 : Int) (g : zi_M) (Q : Int → zi_M → Prop) : Prop := (∃ f10, w_Thought_dearness_l2 l1 l2 (fun k7 g8 => Q k7 g8) (fun g9 => Q 4 g9) Q f10 0 g)
set_option maxRecDepth 100000 in
theorem s_Thought_dearness_l2_r {E : sx_E} {d : Nat} (hd : 1 ≤ d) {l1 : Int} {l2 : Int} {K21 : Int → zi_M → Prop} {K29 : zi_M → Prop} {Q : Int → zi_M → Prop} (hK21 : ∀ (k3 : Int) (g : zi_M), K21 k3 g → zi_W E d 159 21 [some (.ref 36), some (zi_i l1), some (zi_i l2), some (zi_i k3)] [] g (zi_Q Q)) (hK29 : ∀ (g : zi_M), K29 g → zi_W E d 159 29 [some (.ref 36), some (zi_i l1), some (zi_i l2), none] [] g (zi_Q Q)) : ∀ (f : Nat) {l3 : Int} {g : zi_M}, w_Thought_dearness_l2 l1 l2 K21 K29 Q f l3 g → zi_W E d 159 2 [some (.ref 36), some (zi_i l1), some (zi_i l2), some (zi_i l3)] [] g (zi_Q Q)
  | 0, _, _, h => False.elim h
  | f + 1, l3, g, h => by
    refine zi_iload_n (pc' := 3) rfl rfl rfl ?_
    refine zi_iconst (pc' := 4) rfl rfl ?_
    obtain ⟨o1, h⟩ := h
    refine zi_icmp_ge (x := 29) (pc' := 7) rfl rfl o1 (by decide) (fun c6 => ?_) (fun c6 => ?_)
    · replace h := h.1 c6
      exact zi_wk (hK29 _ h) (And.intro rfl (And.intro rfl (And.intro rfl trivial)))
    · replace h := h.2 c6
      refine zi_aload_n (pc' := 8) rfl rfl rfl ?_
      refine zi_getr (pc' := 11) rfl rfl rfl rfl rfl ?_
      refine zi_iload_n (pc' := 12) rfl rfl rfl ?_
      refine zi_iconst (pc' := 13) rfl rfl ?_
      refine zi_imul (pc' := 14) rfl rfl ?_
      refine zi_iload_n (pc' := 15) rfl rfl rfl ?_
      refine zi_iadd (pc' := 16) rfl rfl ?_
      obtain ⟨o2, h⟩ := h
      refine zi_iald (pc' := 17) rfl rfl rfl o2 ?_
      refine zi_iload_n (pc' := 18) rfl rfl rfl ?_
      obtain ⟨o3, o4, h⟩ := h
      refine zi_icmp_ne (x := 23) (pc' := 21) rfl rfl o3 o4 (fun c5 => ?_) (fun c5 => ?_)
      · replace h := h.1 c5
        refine zi_iinc (pc' := 26) [some _, some _, some _, some _] rfl rfl rfl rfl ?_
        refine zi_goto (x := 2) rfl ?_
        exact zi_wk (s_Thought_dearness_l2_r hd hK21 hK29 f h) (And.intro rfl (And.intro rfl (And.intro rfl (And.intro rfl trivial))))
      · replace h := h.2 c5
        exact zi_wk (hK21 _ _ h) (And.intro rfl (And.intro rfl (And.intro rfl (And.intro rfl trivial))))
set_option maxRecDepth 100000 in
theorem s_Thought_dearness_l2 {E : sx_E} {d : Nat} (hd : 1 ≤ d) {l1 : Int} {l2 : Int} {K21 : Int → zi_M → Prop} {K29 : zi_M → Prop} {Q : Int → zi_M → Prop} {l3 : Int} {g : zi_M} (h : ∃ f, w_Thought_dearness_l2 l1 l2 K21 K29 Q f l3 g) (hK21 : ∀ (k3 : Int) (g : zi_M), K21 k3 g → zi_W E d 159 21 [some (.ref 36), some (zi_i l1), some (zi_i l2), some (zi_i k3)] [] g (zi_Q Q)) (hK29 : ∀ (g : zi_M), K29 g → zi_W E d 159 29 [some (.ref 36), some (zi_i l1), some (zi_i l2), none] [] g (zi_Q Q)) : zi_W E d 159 2 [some (.ref 36), some (zi_i l1), some (zi_i l2), some (zi_i l3)] [] g (zi_Q Q) := by
  obtain ⟨f, h⟩ := h
  exact s_Thought_dearness_l2_r hd hK21 hK29 f h
set_option maxRecDepth 100000 in
theorem s_Thought_dearness {E : sx_E} {d : Nat} (hd : 1 ≤ d) {l1 : Int} {l2 : Int} {g : zi_M} {Q : Int → zi_M → Prop} (h : w_Thought_dearness l1 l2 g Q) : zi_S E d 159 [.ref 36, zi_i l1, zi_i l2] g (zi_Q Q) := by
  refine zi_Sof jf_159 [some (.ref 36), some (zi_i l1), some (zi_i l2), none] rfl (And.intro rfl (And.intro rfl (And.intro rfl trivial))) ?_
  unfold w_Thought_dearness at h
  refine zi_iconst (pc' := 1) rfl rfl ?_
  refine zi_istore_n (pc' := 2) [some _, some _, some _, some _] rfl rfl rfl ?_
  refine zi_wk (s_Thought_dearness_l2 hd h (fun k7 g8 h => ?_) (fun g9 h => ?_)) (And.intro rfl (And.intro rfl (And.intro rfl (And.intro rfl trivial))))
  · refine zi_iload_n (pc' := 22) rfl rfl rfl ?_
    exact zi_iret rfl rfl h
  · refine zi_iconst (pc' := 30) rfl rfl ?_
    exact zi_iret rfl rfl h
-- SpoutNews$Thought.offer(LSpoutNews$Told;II)V
noncomputable def w_Thought_offer_b66 (l2 : Int) (l3 : Int) (g : zi_M) (Q : Int → zi_M → Prop) : Prop := ((0 ≤ l3 ∧ l3 < 4) ∧ (∀ g5, g5 = zi_u g 187 l3 l2 → ((0 ≤ l2 ∧ l2 < 4) ∧ (∀ g7, g7 = zi_u g5 186 l2 l3 → Q 0 g7))))
noncomputable def w_Thought_offer_b41 (l2 : Int) (l3 : Int) (l4 : Int) (g : zi_M) (Q : Int → zi_M → Prop) : Prop := (zi_r l4 ∧ ((l4 = (-1) → w_Thought_offer_b66 l2 l3 g Q) ∧ (¬ l4 = (-1) → ((0 ≤ l4 ∧ l4 < 4) ∧ (∀ g9, g9 = zi_u g 186 l4 (-1) → (∀ g10, g10 = zi_u g9 188 l4 ((g9 188 l4) + 1) → w_Thought_offer_b66 l2 l3 g10 Q))))))
noncomputable def w_Thought_offer (l2 : Int) (l3 : Int) (g : zi_M) (Q : Int → zi_M → Prop) : Prop := ((0 ≤ l3 ∧ l3 < 4) ∧ (zi_r (g 187 l3) ∧ (((g 187 l3) = (-1) → w_Thought_offer_b41 l2 l3 (g 187 l3) g Q) ∧ (¬ (g 187 l3) = (-1) → w_Thought_dearness l3 (g 187 l3) g (fun v12 g13 => w_Thought_dearness l3 l2 g13 (fun v15 g16 => (zi_r v12 ∧ zi_r v15 ∧ ((v15 ≤ v12 → w_Thought_offer_b41 l2 l3 (g 187 l3) g16 Q) ∧ (v12 < v15 → ((0 ≤ l2 ∧ l2 < 4) ∧ (∀ g21, g21 = zi_u g16 188 l2 ((g16 188 l2) + 1) → Q 0 g21)))))))))))
set_option maxRecDepth 100000 in
theorem s_Thought_offer_b66 {E : sx_E} {d : Nat} (hd : 2 ≤ d) {l2 : Int} {l3 : Int} {Q : Int → zi_M → Prop} {g : zi_M} (h : w_Thought_offer_b66 l2 l3 g Q) : zi_W E d 158 66 [some (.ref 180), none, some (zi_i l2), some (zi_i l3), none] [] g (zi_Qv Q) := by
  unfold w_Thought_offer_b66 at h
  refine zi_aload_n (pc' := 67) rfl rfl rfl ?_
  refine zi_getr (pc' := 70) rfl rfl rfl rfl rfl ?_
  refine zi_iload_n (pc' := 71) rfl rfl rfl ?_
  refine zi_iload_n (pc' := 72) rfl rfl rfl ?_
  obtain ⟨o4, h⟩ := h
  refine zi_iast (pc' := 73) rfl rfl rfl o4 ?_
  replace h := h _ rfl
  refine zi_aload_n (pc' := 74) rfl rfl rfl ?_
  refine zi_getr (pc' := 77) rfl rfl rfl rfl rfl ?_
  refine zi_iload_n (pc' := 78) rfl rfl rfl ?_
  refine zi_iload_n (pc' := 79) rfl rfl rfl ?_
  obtain ⟨o6, h⟩ := h
  refine zi_iast (pc' := 80) rfl rfl rfl o6 ?_
  replace h := h _ rfl
  exact zi_vret rfl rfl h
set_option maxRecDepth 100000 in
theorem s_Thought_offer_b41 {E : sx_E} {d : Nat} (hd : 2 ≤ d) {l2 : Int} {l3 : Int} {l4 : Int} {Q : Int → zi_M → Prop} {g : zi_M} (h : w_Thought_offer_b41 l2 l3 l4 g Q) : zi_W E d 158 41 [some (.ref 180), none, some (zi_i l2), some (zi_i l3), some (zi_i l4)] [] g (zi_Qv Q) := by
  unfold w_Thought_offer_b41 at h
  refine zi_iload (pc' := 43) rfl rfl rfl ?_
  refine zi_iconst (pc' := 44) rfl rfl ?_
  obtain ⟨o3, h⟩ := h
  refine zi_icmp_eq (x := 66) (pc' := 47) rfl rfl o3 (by decide) (fun c11 => ?_) (fun c11 => ?_)
  · replace h := h.1 c11
    exact zi_wk (s_Thought_offer_b66 hd h) (And.intro rfl (And.intro rfl (And.intro rfl trivial)))
  · replace h := h.2 c11
    refine zi_aload_n (pc' := 48) rfl rfl rfl ?_
    refine zi_getr (pc' := 51) rfl rfl rfl rfl rfl ?_
    refine zi_iload (pc' := 53) rfl rfl rfl ?_
    refine zi_iconst (pc' := 54) rfl rfl ?_
    obtain ⟨o8, h⟩ := h
    refine zi_iast (pc' := 55) rfl rfl rfl o8 ?_
    replace h := h _ rfl
    refine zi_aload_n (pc' := 56) rfl rfl rfl ?_
    refine zi_getr (pc' := 59) rfl rfl rfl rfl rfl ?_
    refine zi_iload (pc' := 61) rfl rfl rfl ?_
    refine zi_dup2 (pc' := 62) rfl rfl rfl rfl ?_
    refine zi_iald (pc' := 63) rfl rfl rfl o8 ?_
    refine zi_iconst (pc' := 64) rfl rfl ?_
    refine zi_iadd (pc' := 65) rfl rfl ?_
    refine zi_iast (pc' := 66) rfl rfl rfl o8 ?_
    replace h := h _ rfl
    exact zi_wk (s_Thought_offer_b66 hd h) (And.intro rfl (And.intro rfl (And.intro rfl trivial)))
set_option maxRecDepth 100000 in
theorem s_Thought_offer {E : sx_E} {d : Nat} (hd : 2 ≤ d) {l2 : Int} {l3 : Int} {g : zi_M} {Q : Int → zi_M → Prop} (h : w_Thought_offer l2 l3 g Q) : zi_S E d 158 [.ref 180, .ref 36, zi_i l2, zi_i l3] g (zi_Qv Q) := by
  refine zi_Sof jf_158 [some (.ref 180), some (.ref 36), some (zi_i l2), some (zi_i l3), none] rfl (And.intro rfl (And.intro rfl (And.intro rfl (And.intro rfl trivial)))) ?_
  unfold w_Thought_offer at h
  refine zi_aload_n (pc' := 1) rfl rfl rfl ?_
  refine zi_getr (pc' := 4) rfl rfl rfl rfl rfl ?_
  refine zi_iload_n (pc' := 5) rfl rfl rfl ?_
  obtain ⟨o1, h⟩ := h
  refine zi_iald (pc' := 6) rfl rfl rfl o1 ?_
  refine zi_istore (pc' := 8) [some _, some _, some _, some _, some _] rfl rfl rfl ?_
  refine zi_iload (pc' := 10) rfl rfl rfl ?_
  refine zi_iconst (pc' := 11) rfl rfl ?_
  obtain ⟨o2, h⟩ := h
  refine zi_icmp_eq (x := 41) (pc' := 14) rfl rfl o2 (by decide) (fun c23 => ?_) (fun c23 => ?_)
  · replace h := h.1 c23
    exact zi_wk (s_Thought_offer_b41 hd h) (And.intro rfl (And.intro rfl (And.intro rfl (And.intro rfl trivial))))
  · replace h := h.2 c23
    refine zi_aload_n (pc' := 15) rfl rfl rfl ?_
    refine zi_iload_n (pc' := 16) rfl rfl rfl ?_
    refine zi_iload (pc' := 18) rfl rfl rfl ?_
    refine zi_callS (d' := 1) (as := [_, _, _]) (pc' := 21) rfl rfl rfl (Nat.lt_of_lt_of_le (by decide) hd) (s_Thought_dearness (Nat.le_refl _) h) (zi_ki (fun v12 g13 h => ?_))
    refine zi_aload_n (pc' := 22) rfl rfl rfl ?_
    refine zi_iload_n (pc' := 23) rfl rfl rfl ?_
    refine zi_iload_n (pc' := 24) rfl rfl rfl ?_
    refine zi_callS (d' := 1) (as := [_, _, _]) (pc' := 27) rfl rfl rfl (Nat.lt_of_lt_of_le (by decide) hd) (s_Thought_dearness (Nat.le_refl _) h) (zi_ki (fun v15 g16 h => ?_))
    obtain ⟨o18, o19, h⟩ := h
    refine zi_icmp_ge (x := 41) (pc' := 30) rfl rfl o18 o19 (fun c22 => ?_) (fun c22 => ?_)
    · replace h := h.1 c22
      exact zi_wk (s_Thought_offer_b41 hd h) (And.intro rfl (And.intro rfl (And.intro rfl (And.intro rfl trivial))))
    · replace h := h.2 c22
      refine zi_aload_n (pc' := 31) rfl rfl rfl ?_
      refine zi_getr (pc' := 34) rfl rfl rfl rfl rfl ?_
      refine zi_iload_n (pc' := 35) rfl rfl rfl ?_
      refine zi_dup2 (pc' := 36) rfl rfl rfl rfl ?_
      obtain ⟨o20, h⟩ := h
      refine zi_iald (pc' := 37) rfl rfl rfl o20 ?_
      refine zi_iconst (pc' := 38) rfl rfl ?_
      refine zi_iadd (pc' := 39) rfl rfl ?_
      refine zi_iast (pc' := 40) rfl rfl rfl o20 ?_
      replace h := h _ rfl
      exact zi_vret rfl rfl h
-- SpoutNews$Thought.makeOffers(LSpoutNews$Told;)V
noncomputable def w_Thought_makeOffers_l31 (K57 : zi_M → Prop) (K97 : zi_M → Prop) (Q : Int → zi_M → Prop) : Nat → Int → zi_M → Prop
  | 0, _, _ => False
  | f + 1, l2, g => (zi_r l2 ∧ ((16 ≤ l2 → K97 g) ∧ (l2 < 16 → w_Thought_firstWithout g (fun v6 g7 => (zi_r v6 ∧ ((v6 = (-1) → K97 g7) ∧ (¬ v6 = (-1) → ((0 ≤ v6 ∧ v6 < 4) ∧ (zi_r (g7 188 v6) ∧ (((g7 188 v6) < 4 → (∀ g12, g12 = zi_u g7 180 11 ((g7 180 11) + 1) → ((0 ≤ ((v6 * 4) + (g12 188 v6)) ∧ ((v6 * 4) + (g12 188 v6)) < 16) ∧ w_Thought_offer v6 (g12 42 ((v6 * 4) + (g12 188 v6))) g12 (fun _ g15 => w_Thought_makeOffers_l31 K57 K97 Q f (l2 + 1) g15)))) ∧ (4 ≤ (g7 188 v6) → K57 g7)))))))))))
noncomputable def w_Thought_makeOffers (g : zi_M) (Q : Int → zi_M → Prop) : Prop := (∀ g1, g1 = zi_fl g 186 4 (-1) → (∀ g2, g2 = zi_fl g1 187 4 (-1) → (∀ g3, g3 = zi_fl g2 188 4 0 → (∀ g4, g4 = zi_u g3 180 11 0 → (∃ f22, w_Thought_makeOffers_l31 (fun g20 => Q 0 g20) (fun g21 => Q 0 g21) Q f22 0 g4)))))
set_option maxRecDepth 100000 in
theorem s_Thought_makeOffers_l31_r {E : sx_E} {d : Nat} (hd : 3 ≤ d) {K57 : zi_M → Prop} {K97 : zi_M → Prop} {Q : Int → zi_M → Prop} (hK57 : ∀ (g : zi_M), K57 g → zi_W E d 156 57 [some (.ref 180), some (.ref 36), none, none] [] g (zi_Qv Q)) (hK97 : ∀ (g : zi_M), K97 g → zi_W E d 156 97 [some (.ref 180), some (.ref 36), none, none] [] g (zi_Qv Q)) : ∀ (f : Nat) {l2 : Int} {g : zi_M}, w_Thought_makeOffers_l31 K57 K97 Q f l2 g → zi_W E d 156 31 [some (.ref 180), some (.ref 36), some (zi_i l2), none] [] g (zi_Qv Q)
  | 0, _, _, h => False.elim h
  | f + 1, l2, g, h => by
    refine zi_iload_n (pc' := 32) rfl rfl rfl ?_
    refine zi_bipush (pc' := 34) rfl rfl (by decide) ?_
    obtain ⟨o5, h⟩ := h
    refine zi_icmp_ge (x := 97) (pc' := 37) rfl rfl o5 (by decide) (fun c19 => ?_) (fun c19 => ?_)
    · replace h := h.1 c19
      exact zi_wk (hK97 _ h) (And.intro rfl (And.intro rfl trivial))
    · replace h := h.2 c19
      refine zi_aload_n (pc' := 38) rfl rfl rfl ?_
      refine zi_callV (d' := 1) (as := []) (pc' := 41) rfl rfl rfl rfl (Nat.lt_of_lt_of_le (by decide) hd) (s_Thought_firstWithout (Nat.le_refl _) h) (zi_ki (fun v6 g7 h => ?_))
      refine zi_istore_n (pc' := 42) [some _, some _, some _, some _] rfl rfl rfl ?_
      refine zi_iload_n (pc' := 43) rfl rfl rfl ?_
      refine zi_iconst (pc' := 44) rfl rfl ?_
      obtain ⟨o9, h⟩ := h
      refine zi_icmp_eq (x := 97) (pc' := 47) rfl rfl o9 (by decide) (fun c18 => ?_) (fun c18 => ?_)
      · replace h := h.1 c18
        exact zi_wk (hK97 _ h) (And.intro rfl (And.intro rfl trivial))
      · replace h := h.2 c18
        refine zi_aload_n (pc' := 48) rfl rfl rfl ?_
        refine zi_getr (pc' := 51) rfl rfl rfl rfl rfl ?_
        refine zi_iload_n (pc' := 52) rfl rfl rfl ?_
        obtain ⟨o10, h⟩ := h
        refine zi_iald (pc' := 53) rfl rfl rfl o10 ?_
        refine zi_iconst (pc' := 54) rfl rfl ?_
        obtain ⟨o11, h⟩ := h
        refine zi_icmp_lt (x := 60) (pc' := 57) rfl rfl o11 (by decide) (fun c17 => ?_) (fun c17 => ?_)
        · replace h := h.1 c17
          refine zi_aload_n (pc' := 61) rfl rfl rfl ?_
          refine zi_dup (pc' := 62) rfl rfl rfl ?_
          refine zi_geti (pc' := 65) 11 rfl rfl rfl rfl rfl rfl ?_
          refine zi_iconst (pc' := 66) rfl rfl ?_
          refine zi_iadd (pc' := 67) rfl rfl ?_
          refine zi_puti (pc' := 70) 11 rfl rfl rfl rfl rfl  ?_
          replace h := h _ rfl
          refine zi_aload_n (pc' := 71) rfl rfl rfl ?_
          refine zi_aload_n (pc' := 72) rfl rfl rfl ?_
          refine zi_iload_n (pc' := 73) rfl rfl rfl ?_
          refine zi_aload_n (pc' := 74) rfl rfl rfl ?_
          refine zi_getr (pc' := 77) rfl rfl rfl rfl rfl ?_
          refine zi_iload_n (pc' := 78) rfl rfl rfl ?_
          refine zi_iconst (pc' := 79) rfl rfl ?_
          refine zi_imul (pc' := 80) rfl rfl ?_
          refine zi_aload_n (pc' := 81) rfl rfl rfl ?_
          refine zi_getr (pc' := 84) rfl rfl rfl rfl rfl ?_
          refine zi_iload_n (pc' := 85) rfl rfl rfl ?_
          refine zi_iald (pc' := 86) rfl rfl rfl o10 ?_
          refine zi_iadd (pc' := 87) rfl rfl ?_
          obtain ⟨o13, h⟩ := h
          refine zi_iald (pc' := 88) rfl rfl rfl o13 ?_
          refine zi_callV (d' := 2) (as := [_, _, _]) (pc' := 91) rfl rfl rfl rfl (Nat.lt_of_lt_of_le (by decide) hd) (s_Thought_offer (Nat.le_refl _) h) (zi_kv (fun g15 h => ?_))
          refine zi_iinc (pc' := 94) [some _, some _, some _, some _] rfl rfl rfl rfl ?_
          refine zi_goto (x := 31) rfl ?_
          exact zi_wk (s_Thought_makeOffers_l31_r hd hK57 hK97 f h) (And.intro rfl (And.intro rfl (And.intro rfl trivial)))
        · replace h := h.2 c17
          exact zi_wk (hK57 _ h) (And.intro rfl (And.intro rfl trivial))
set_option maxRecDepth 100000 in
theorem s_Thought_makeOffers_l31 {E : sx_E} {d : Nat} (hd : 3 ≤ d) {K57 : zi_M → Prop} {K97 : zi_M → Prop} {Q : Int → zi_M → Prop} {l2 : Int} {g : zi_M} (h : ∃ f, w_Thought_makeOffers_l31 K57 K97 Q f l2 g) (hK57 : ∀ (g : zi_M), K57 g → zi_W E d 156 57 [some (.ref 180), some (.ref 36), none, none] [] g (zi_Qv Q)) (hK97 : ∀ (g : zi_M), K97 g → zi_W E d 156 97 [some (.ref 180), some (.ref 36), none, none] [] g (zi_Qv Q)) : zi_W E d 156 31 [some (.ref 180), some (.ref 36), some (zi_i l2), none] [] g (zi_Qv Q) := by
  obtain ⟨f, h⟩ := h
  exact s_Thought_makeOffers_l31_r hd hK57 hK97 f h
set_option maxRecDepth 100000 in
theorem s_Thought_makeOffers {E : sx_E} {d : Nat} (hd : 3 ≤ d) {g : zi_M} {Q : Int → zi_M → Prop} (h : w_Thought_makeOffers g Q) : zi_S E d 156 [.ref 180, .ref 36] g (zi_Qv Q) := by
  refine zi_Sof jf_156 [some (.ref 180), some (.ref 36), none, none] rfl (And.intro rfl (And.intro rfl trivial)) ?_
  unfold w_Thought_makeOffers at h
  refine zi_aload_n (pc' := 1) rfl rfl rfl ?_
  refine zi_getr (pc' := 4) rfl rfl rfl rfl rfl ?_
  refine zi_iconst (pc' := 5) rfl rfl ?_
  refine zi_callS (d' := 2) (as := [_, _]) (pc' := 8) rfl rfl rfl (Nat.lt_of_lt_of_le (by decide) hd) (zi_fill (n := 4) rfl rfl) (zi_kv (fun g' h' => ?_))
  subst h'
  replace h := h _ rfl
  refine zi_aload_n (pc' := 9) rfl rfl rfl ?_
  refine zi_getr (pc' := 12) rfl rfl rfl rfl rfl ?_
  refine zi_iconst (pc' := 13) rfl rfl ?_
  refine zi_callS (d' := 2) (as := [_, _]) (pc' := 16) rfl rfl rfl (Nat.lt_of_lt_of_le (by decide) hd) (zi_fill (n := 4) rfl rfl) (zi_kv (fun g' h' => ?_))
  subst h'
  replace h := h _ rfl
  refine zi_aload_n (pc' := 17) rfl rfl rfl ?_
  refine zi_getr (pc' := 20) rfl rfl rfl rfl rfl ?_
  refine zi_iconst (pc' := 21) rfl rfl ?_
  refine zi_callS (d' := 2) (as := [_, _]) (pc' := 24) rfl rfl rfl (Nat.lt_of_lt_of_le (by decide) hd) (zi_fill (n := 4) rfl rfl) (zi_kv (fun g' h' => ?_))
  subst h'
  replace h := h _ rfl
  refine zi_aload_n (pc' := 25) rfl rfl rfl ?_
  refine zi_iconst (pc' := 26) rfl rfl ?_
  refine zi_puti (pc' := 29) 11 rfl rfl rfl rfl rfl  ?_
  replace h := h _ rfl
  refine zi_iconst (pc' := 30) rfl rfl ?_
  refine zi_istore_n (pc' := 31) [some _, some _, some _, none] rfl rfl rfl ?_
  refine zi_wk (s_Thought_makeOffers_l31 hd h (fun g20 h => ?_) (fun g21 h => ?_)) (And.intro rfl (And.intro rfl (And.intro rfl trivial)))
  · refine zi_goto (x := 97) rfl ?_
    exact zi_vret rfl rfl h
  · exact zi_vret rfl rfl h
