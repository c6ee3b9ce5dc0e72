-- by program (wip/gen/mkz.py)
-- SpoutNewsModel.waits(I)V
theorem k_M_waits {l1 : Int} {g : zi_M} {Q : Int → zi_M → Prop} (I : zk_I g) (p1 : 9 ≤ l1 ∧ l1 ≤ 12) (px0 : g 214 30 ≤ 39) (hQ : ∀ g' : zi_M, zk_I g' → zk_fr fr_M_waits g g' → (g' 214 30 = g 214 30 + 1) → (g' 231 (g 214 30) = l1) → (∀ i : Int, ¬ i = g 214 30 → g' 231 i = g 231 i) → Q 0 g') : w_M_waits l1 g Q := by
  unfold w_M_waits
  have h0 : 0 ≤ g 214 30 := (I.1 214 30).1
  refine ⟨⟨by omega, by omega⟩, ?_⟩
  intro g2 e2
  have I2 : zk_I g2 := by rw [e2]; exact zk_upd (L := -2147483648) (H := 2147483647) rfl rfl I ⟨by omega, by omega⟩
  have a1 : g2 214 30 = g 214 30 := by rw [e2]; exact zi_u_ne (by decide)
  intro g3 e3
  have I3 : zk_I g3 := by rw [e3]; exact zk_upd (L := 0) (H := 40) rfl rfl I2 ⟨by omega, by omega⟩
  have F2 : zk_fr fr_M_waits g g2 := by rw [e2]; exact zk_fu (zk_f0 _) (Or.inl rfl)
  have F3 : zk_fr fr_M_waits g g3 := by rw [e3]; exact zk_fu F2 (Or.inr ⟨rfl, rfl⟩)
  refine hQ g3 I3 F3 ?_ ?_ ?_
  · rw [e3, zi_u_eq, a1]
  · rw [e3, zi_u_ne (by decide), e2, zi_u_eq]
  · intro i hi
    rw [e3, zi_u_ne (by decide), e2, zi_u_ni hi]

-- SpoutNewsModel.readCompared()I
theorem k_M_readCompared {g : zi_M} {Q : Int → zi_M → Prop} (I : zk_I g) (px0 : zy g) (hQ : ∀ (v : Int) (g' : zi_M), zk_I g' → zk_fr fr_M_readCompared g g' → ((-1) ≤ v ∧ v ≤ 0) → (¬ v = -1 → zx 1 0 g g') → Q v g') : w_M_readCompared g Q := by
  have b43 : ∀ g2, zx 1 0 g g2 → g2 214 16 = 4 → w_M_readCompared_b43 g2 Q := by
    intro g2 x ht
    have I2 := x.I
    have a1 := x.fs; have a2 := x.sp
    have hlt := x.t3.1 (by omega)
    have b73 : ∀ w : Int, 6 ≤ w ∧ w ≤ 8 → w_M_readCompared_b73 w g2 Q := by
      intro w hw
      unfold w_M_readCompared_b73
      refine k_M_reads I2 x.sp (fun g12 I12 F12 p1 p2 p3 p4 _ => ?_)
      have x1 : zx 0 1 g2 g12 := zx_rd I12 F12 p1 p2 p3 p4 (by omega) (by omega)
      have x2 : zx 1 1 g g12 := x.t x1
      have y12 := x2.y (by decide) px0.cf
      refine k_M_readSum I12 y12 (fun v15 g16 I16 F16 hv15 hx => ⟨⟨by omega, by omega⟩, fun n1 => ?_, fun e1 => hQ _ _ I16 (zk_ft x2.fr F16 (fun _ _ e => e)) ⟨by decide, by decide⟩ (fun n => absurd rfl n)⟩)
      have x3 := hx n1
      have x4 : zx 2 1 g g16 := x2.t x3
      have z1 := x4.fs; have z2 := x4.sp
      have z3 : g16 214 13 ≤ 400 := (I16.1 214 13).2
      have z4 := x4.cf
      have z5 := px0.cf
      refine k_M_emits I16 ⟨by omega, by omega⟩ ⟨by decide, by decide⟩ (by omega) (fun g5 I5 F5 c5 o5 a5 r5 => ?_)
      have x5 : zx 1 (1 - 1) g g5 := zx_em x4 I5 F5 c5 o5 a5 r5 ⟨by omega, by omega⟩ (fun q => by omega) (fun q => by omega) (fun _ _ => by omega) (fun q => by omega) (by rw [if_neg (by omega), if_neg (by omega)]; rfl)
      exact hQ _ _ I5 x5.fr ⟨by decide, by decide⟩ (fun _ => x5)
    unfold w_M_readCompared_b43
    exact ⟨zk_rng I2 _ _, fun _ => ⟨fun _ => b73 8 ⟨by decide, by decide⟩, fun _ => b73 7 ⟨by decide, by decide⟩⟩, fun _ => b73 6 ⟨by decide, by decide⟩⟩
  unfold w_M_readCompared
  refine k_M_readSum I px0 (fun v1 g2 I2 F2 hv1 hx => ⟨⟨by omega, by omega⟩, fun n1 => ?_, fun _ => hQ _ _ I2 F2 ⟨by decide, by decide⟩ (fun n => absurd rfl n)⟩)
  have x := hx n1
  refine k_M_isSign I2 ⟨by decide, by decide⟩ (fun v5 c1 c2 c3 => ⟨fun n2 => b43 _ x (by omega), fun e => ?_⟩)
  refine k_M_isSign I2 ⟨by decide, by decide⟩ (fun v6 d1 d2 d3 => ⟨fun n2 => b43 _ x (by omega), fun e => ?_⟩)
  refine k_M_isSign I2 ⟨by decide, by decide⟩ (fun v7 f1 f2 f3 => ⟨fun n2 => b43 _ x (by omega), fun e => ?_⟩)
  refine k_M_errs I2 ⟨by decide, by decide⟩ (fun v g'' I'' F'' hv _ _ => ?_)
  exact hQ _ _ I'' (zk_ft x.fr F'' fr_XP) ⟨by omega, by omega⟩ (fun n => by omega)

-- SpoutNewsModel.readAny()I
theorem k_M_readAny_l9 {g0 : zi_M} {K42 K96 K189 K200 : zi_M → Prop} {Q : Int → zi_M → Prop} (hK42 : ∀ g, zk_I g → zk_fr fr_A g0 g → K42 g) (hK96 : ∀ g, zk_I g → zk_fr fr_A g0 g → K96 g) (hK200 : ∀ g, zk_I g → zk_fr fr_A g0 g → K200 g) (hK189 : ∀ g, zz g0 g → K189 g) :
    ∀ (n : Nat) (l1 l2 : Int) (P : List Int) (g : zi_M), (l2 = 0 ∨ l2 = 1) → zA l1 (1 - l2) P g0 g → (l2 = 0 → zl_top P ≠ 9) → 2 * (400 - g 214 15) + l2 < (n : Int) → w_M_readAny_l9 K42 K96 K189 K200 Q n l1 l2 g
  | 0, l1, l2, P, g, hl, h, ht, hm => by
    have a1 := h.fs; have a2 := h.sp
    have a3 : g 214 13 ≤ 400 := (h.I.1 214 13).2
    exfalso; omega
  | n + 1, l1, l2, P, g, hl, h, ht, hm => by
    have I := h.I
    have a1 := h.fs; have a2 := h.sp; have a3 := h.cf
    have a4 : g 214 13 ≤ 400 := (I.1 214 13).2
    have ln := h.len
    have q1 := h.q.1
    have c0 : 0 ≤ g 214 27 := (I.1 214 27).1
    have go := @k_M_readAny_l9 g0 K42 K96 K189 K200 Q hK42 hK96 hK200 hK189 n
    have br0 := zl_of0 12 12 P
    have hbr := h.br
    unfold w_M_readAny_l9
    refine ⟨⟨by omega, by omega⟩, fun e0 => ?_, fun n0 => ?_⟩
    · -- what binds is looked for
      rw [e0] at h
      have ht0 := ht e0
      have h1 : zA l1 1 P g0 g := h
      -- settling of what binds stronger
      have s10 : ∀ K : zi_M → Prop, (∀ g', zA l1 1 (zl_drop 10 P) g0 g' → g' 214 15 = g 214 15 → g' 214 14 = g 214 14 → g' 214 16 = g 214 16 → g' 214 17 = g 214 17 → K g') → w_M_settles 10 g (fun _ g' => K g') := by
        intro K hK
        refine k_M_settles I ⟨by decide, by decide⟩ ⟨P, h.q, by omega, fun q => absurd q (by decide)⟩ (fun g' I' F' s => hK g' (h1.s (Or.inr (Or.inl rfl)) (s P h.q)) ?_ ?_ ?_ ?_) <;> exact F' _ _ (by unfold fr_M_settles; omega)
      have s11 : ∀ (g' : zi_M) (K : zi_M → Prop), zA l1 1 (zl_drop 10 P) g0 g' → (∀ g'', zA l1 1 (zl_drop 11 (zl_drop 10 P)) g0 g'' → g'' 214 15 = g' 214 15 → g'' 214 14 = g' 214 14 → g'' 214 16 = g' 214 16 → g'' 214 17 = g' 214 17 → K g'') → w_M_settles 11 g' (fun _ g'' => K g'') := by
        intro g' K hz hK
        have z1 := hz.fs; have z2 := hz.sp; have z3 := hz.cf
        have z4 : g' 214 13 ≤ 400 := (hz.I.1 214 13).2
        refine k_M_settles hz.I ⟨by decide, by decide⟩ ⟨_, hz.q, by omega, fun q => absurd q (by decide)⟩ (fun g'' I' F' s => hK g'' (hz.s (Or.inr (Or.inr rfl)) (s _ hz.q)) ?_ ?_ ?_ ?_) <;> exact F' _ _ (by unfold fr_M_settles; omega)
      have ps : ∀ (x : Int) (P' : List Int) (g' : zi_M), (x = 10 ∨ x = 11) → zA l1 1 P' g0 g' → zl_ok 9 10 11 12 (x :: P') → g' 214 15 = g 214 15 → g' 214 15 < g' 214 14 → w_M_waits x g' (fun _ g36 => w_M_reads g36 (fun _ g39 => w_M_readAny_l9 K42 K96 K189 K200 Q n l1 1 g39)) := by
        intro x P' g' hx hz hok e15 hlt
        have z1 := hz.len; have z2 := hz.q.1
        refine k_M_waits hz.I ⟨by omega, by omega⟩ (by omega) (fun g36 I36 F36 w1 w2 w3 => ?_)
        have F36' : zk_fr fr_A g' g36 := zk_ft (zk_f0 _) F36 fr_WA
        have f13 : g36 214 13 = g' 214 13 := F36 _ _ (by unfold fr_M_waits; omega)
        have f14 : g36 214 14 = g' 214 14 := F36 _ _ (by unfold fr_M_waits; omega)
        refine k_M_reads I36 (by rw [f14, f13]; exact hz.sp) (fun g39 I39 F39 p1 p2 p3 p4 _ => ?_)
        obtain ⟨r1, r2⟩ := hz.p (br' := l1) (e' := 0) (by omega) hok I36 F36' w1 w2 w3 (by rw [if_neg (by omega), F36 _ _ (by unfold fr_M_waits; omega)]; omega) (fun i => ⟨F36 _ _ (by unfold fr_M_waits; omega), F36 _ _ (by unfold fr_M_waits; omega)⟩) (fun i hi => F36 _ _ (by unfold fr_M_waits; omega)) (by rw [if_neg (by omega)]; omega) (by rw [if_pos hx]; rfl) hlt I39 F39 p1 p2 p3 p4
        exact go l1 1 (x :: P') g39 (Or.inr rfl) r1 (fun q => by omega) (by omega)
      have ok1 := zl_dropok 10 P h1.ok
      have t1 := zl_dropn (n := 9) (a := 10) (o := 11) (b := 12) 10 (by decide) (by decide) (Or.inl rfl) (by decide) (by decide) P h1.ok ht0
      have t2 := zl_dropt 10 (by decide) P
      have t3 := h1.top ht0
      have tk := h.t3
      refine k_M_isWord I ⟨by decide, by decide⟩ (fun v3 d1 d2 d3 => ⟨fun e3 => ?_, fun n3 => ?_⟩)
      · refine k_M_isWord I ⟨by decide, by decide⟩ (fun v6 f1 f2 f3 => ⟨fun e6 => ?_, fun n6 => ?_⟩)
        · refine s10 _ (fun g1 z1 m1 m2 m3 m4 => s11 g1 _ z1 (fun g2 z2 k1 k2 k3 k4 => ?_))
          have brz := z2.br
          refine ⟨⟨by have := zl_of0 12 12 (zl_drop 11 (zl_drop 10 P)); omega, by have := z2.br; have := z2.len; have hh : zl_of 12 12 (zl_drop 11 (zl_drop 10 P)) ≤ (zl_drop 11 (zl_drop 10 P)).length := zl_ofl 12 12 _; omega⟩, fun nl => ?_, fun el => ?_⟩
          · refine k_M_isSign z2.I ⟨by decide, by decide⟩ (fun v16 x1 x2 x3 => ⟨fun n16 => ?_, fun _ => hK200 _ z2.I z2.fr⟩)
            intro g19 e19 g20 e20
            have hP : ∃ t, zl_drop 11 (zl_drop 10 P) = 12 :: t := by
              rcases zl_top_in _ z2.ok with q | q | q | q | q
              · rw [q] at brz; exact absurd brz nl
              · exact absurd q t3.1
              · exact absurd q t3.2.1
              · exact absurd q t3.2.2
              · cases hc : zl_drop 11 (zl_drop 10 P) with
                | nil => rw [hc] at brz; exact absurd brz nl
                | cons x t => rw [hc] at q; have q' : x = 12 := q; exact ⟨t, by rw [q']⟩
            obtain ⟨t, et⟩ := hP
            rw [et] at z2
            have z3 := z2.b e19 e20
            have u1 := z3.fs; have u2 := z3.sp; have u3 := z3.cf
            have u4 : g20 214 13 ≤ 400 := (z3.I.1 214 13).2
            have u5 := z3.op
            have hcn : zl_cnt 9 t ≤ g20 214 28 := by
              have := zl_dropof 9 12 9 t
              rw [if_pos (Or.inl rfl)] at this
              have := zl_of0 9 12 (zl_drop 9 t)
              omega
            have e15 : g20 214 15 = g2 214 15 := by rw [e20, zi_u_ni (by decide), e19, zi_u_ni (by decide)]
            have e14 : g20 214 14 = g2 214 14 := by rw [e20, zi_u_ni (by decide), e19, zi_u_ni (by decide)]
            have lt2 : g2 214 15 < g2 214 14 := z2.t3.1 (by omega)
            refine k_M_settles z3.I ⟨by decide, by decide⟩ ⟨t, z3.q, by omega, fun _ => hcn⟩ (fun g22 I22 F22 s22 => ?_)
            have z4 := z3.s (Or.inl rfl) (s22 t z3.q)
            have v15 : g22 214 15 = g20 214 15 := F22 _ _ (by unfold fr_M_settles; omega)
            have v14 : g22 214 14 = g20 214 14 := F22 _ _ (by unfold fr_M_settles; omega)
            refine k_M_reads I22 z4.sp (fun g25 I25 F25 p1 p2 p3 p4 _ => ?_)
            have z5 := z4.r I25 F25 p1 p2 p3 p4
            exact go (l1 - 1) l2 _ g25 (Or.inl e0) (by rw [e0]; exact z5) (fun _ => zl_dropt 9 (by decide) t) (by omega)
          · refine hK189 _ ?_
            have hP : zl_drop 11 (zl_drop 10 P) = [] := by
              rcases zl_top_in _ z2.ok with q | q | q | q | q
              · exact q
              · exact absurd q t3.1
              · exact absurd q t3.2.1
              · exact absurd q t3.2.2
              · cases hc : zl_drop 11 (zl_drop 10 P) with
                | nil => rfl
                | cons x t =>
                  rw [hc] at q brz
                  have q' : x = 12 := q
                  have : zl_of 12 12 (x :: t) = zl_of 12 12 t + (if x = 12 ∨ x = 12 then 1 else 0) := rfl
                  rw [this, if_pos (Or.inl q')] at brz
                  have := zl_of0 12 12 t
                  omega
            rw [hP] at z2
            have cf := z2.cf
            have lz : (([] : List Int).length : Int) = 0 := rfl
            exact ⟨z2.I, z2.sp, z2.fs, z2.t3, z2.ff, z2.cc, by omega, z2.fr, z2.lo, z2.op, z2.dp⟩
        · refine s10 _ (fun g1 z1 m1 m2 m3 m4 => s11 g1 _ z1 (fun g2 z2 k1 k2 k3 k4 => ?_))
          exact ps 11 _ g2 (Or.inr rfl) z2 ⟨z2.ok, Or.inr (Or.inr (Or.inr ⟨rfl, t3⟩))⟩ (by omega) (z2.t3.1 (by omega))
      · refine s10 _ (fun g1 z1 m1 m2 m3 m4 => ?_)
        exact ps 10 _ g1 (Or.inl rfl) z1 ⟨z1.ok, Or.inr (Or.inr (Or.inl ⟨rfl, t1, t2⟩))⟩ (by omega) (z1.t3.1 (by omega))
    · -- a comparison, a not or a bracket is due
      have e1 : l2 = 1 := by omega
      rw [e1] at h
      have h1 : zA l1 0 P g0 g := h
      have r8 : g 214 28 ≤ 8 := (I.1 214 28).2
      have r0 : 0 ≤ g 214 28 := (I.1 214 28).1
      have b33 : ∀ v : Int, (v = 0 ∨ v = 1) → ¬ g 214 16 = 0 → w_M_readAny_b33 l1 l2 v g (w_M_readAny_l9 K42 K96 K189 K200 Q n) K42 K96 K189 K200 Q := by
        intro v hv tok
        have hlt := h1.t3.1 tok
        unfold w_M_readAny_b33
        refine ⟨zk_rng I _ _, fun n8 => ?_, fun _ => hK42 _ I h1.fr⟩
        intro g56 e56
        have I56 : zk_I g56 := by rw [e56]; exact zk_upd (L := 0) (H := 8) rfl rfl I ⟨by omega, by omega⟩
        have f : ∀ i : Int, ¬ i = 28 → g56 214 i = g 214 i := fun i hi => by rw [e56]; exact zi_u_ni hi
        have fa : ∀ (a : Nat) (i : Int), a ≠ 214 → g56 a i = g a i := fun a i ha => by rw [e56]; exact zi_u_ne ha
        have f28 : g56 214 28 = g 214 28 + 1 := by rw [e56, zi_u_eq]
        have F56 : zk_fr fr_A g g56 := by rw [e56]; exact zk_fu (zk_f0 _) (fr_SA _ _ (Or.inr (Or.inr (Or.inr (Or.inl ⟨rfl, rfl⟩)))))
        have g30 := f 30 (by decide)
        have pu : ∀ (x b : Int), (x = 9 ∨ x = 12) → b = l1 + (if x = 12 then 1 else 0) → w_M_waits x g56 (fun _ g60 => w_M_reads g60 (fun _ g63 => w_M_readAny_l9 K42 K96 K189 K200 Q n b l2 g63)) := by
          intro x b hx hb
          refine k_M_waits I56 ⟨by omega, by omega⟩ (by omega) (fun g60 I60 F60 w1 w2 w3 => ?_)
          rw [g30] at w1 w2 w3
          have k : ∀ i : Int, ¬ i = 30 → g60 214 i = g56 214 i := fun i hi => F60 _ _ (by unfold fr_M_waits; omega)
          have ka : ∀ (a : Nat) (i : Int), a ≠ 214 → a ≠ 231 → g60 a i = g a i := fun a i h1 h2 => (F60 _ _ (by unfold fr_M_waits; omega)).trans (fa a i h1)
          have k13 := k 13 (by decide); have k14 := k 14 (by decide)
          have j13 := f 13 (by decide); have j14 := f 14 (by decide)
          refine k_M_reads I60 (by rw [k14, k13, j13, j14]; exact h1.sp) (fun g63 I63 F63 p1 p2 p3 p4 _ => ?_)
          obtain ⟨r1, r2⟩ := h1.p (br' := b) (e' := 0) (x := x) (by omega) ⟨h1.ok, by omega⟩ I60 (zk_ft F56 F60 fr_WA) w1 w2 (fun i hi => by rw [w3 i hi, fa _ _ (by decide)]) (by rw [if_pos hx, k 28 (by decide), f28]) (fun i => ⟨ka _ _ (by decide) (by decide), ka _ _ (by decide) (by decide)⟩) (fun i hi => by rw [k i (by omega), f i (by omega)]) hb (by rw [if_neg (by omega)]; rfl) hlt I63 F63 p1 p2 p3 p4
          exact go b l2 (x :: P) g63 hl (by rw [e1]; exact r1) (fun q => by omega) (by omega)
        refine ⟨⟨by omega, by omega⟩, fun nv => ?_, fun ev => ?_⟩
        · unfold w_M_readAny_b66
          exact ⟨⟨by omega, by omega⟩, fun e => absurd e nv, fun _ => pu 9 l1 (Or.inl rfl) (by rw [if_neg (by decide)]; omega)⟩
        · unfold w_M_readAny_b66
          exact ⟨⟨by omega, by omega⟩, fun _ => pu 12 (l1 + 1) (Or.inr rfl) (by rw [if_pos rfl]), fun n => absurd ev n⟩
      refine k_M_isWord I ⟨by decide, by decide⟩ (fun v52 d1 d2 d3 => ⟨fun n52 => b33 v52 (by omega) (by omega), fun e52 => ?_⟩)
      refine k_M_isSign I ⟨by decide, by decide⟩ (fun v74 f1 f2 f3 => ⟨fun e74 => ?_, fun n74 => b33 v52 (by omega) (by omega)⟩)
      refine k_M_readCompared I ⟨I, h1.sp, h1.fs, h1.t3, by omega⟩ (fun v77 g78 I78 F78 hv hx => ⟨⟨by omega, by omega⟩, fun n77 => ?_, fun e77 => hK96 _ I78 (zk_ft h1.fr F78 fr_PA)⟩)
      have x := hx n77
      have z := h1.c x
      have u1 := z.fs; have u2 := z.sp; have u3 := z.cf
      have u4 : g78 214 13 ≤ 400 := (I78.1 214 13).2
      have u5 := z.op
      have hcn : zl_cnt 9 P ≤ g78 214 28 := by
        have := zl_dropof 9 12 9 P
        rw [if_pos (Or.inl rfl)] at this
        have := zl_of0 9 12 (zl_drop 9 P)
        omega
      refine k_M_settles I78 ⟨by decide, by decide⟩ ⟨P, z.q, by omega, fun _ => hcn⟩ (fun g82 I82 F82 s82 => ?_)
      have z2 := z.s (Or.inl rfl) (s82 P z.q)
      have v15 : g82 214 15 = g78 214 15 := F82 _ _ (by unfold fr_M_settles; omega)
      have := x.ff
      exact go l1 0 _ g82 (Or.inl rfl) z2 (fun _ => zl_dropt 9 (by decide) P) (by omega)
theorem k_M_readAny {g : zi_M} {Q : Int → zi_M → Prop} (I : zk_I g) (px0 : zy g) (px1 : g 214 28 = 0) (hQ : ∀ (v : Int) (g' : zi_M), zk_I g' → zk_fr fr_M_readAny g g' → ((-1) ≤ v ∧ v ≤ 0) → (¬ v = -1 → zz g g') → Q v g') : w_M_readAny g Q := by
  unfold w_M_readAny
  intro g1 e1
  have I1 : zk_I g1 := by rw [e1]; exact zk_upd (L := 0) (H := 40) rfl rfl I ⟨by decide, by decide⟩
  have f : ∀ i : Int, ¬ i = 30 → g1 214 i = g 214 i := fun i hi => by rw [e1]; exact zi_u_ni hi
  have fa : ∀ (a : Nat) (i : Int), a ≠ 214 → g1 a i = g a i := fun a i ha => by rw [e1]; exact zi_u_ne ha
  have F1 : zk_fr fr_A g g1 := by rw [e1]; exact zk_fu (zk_f0 _) (fr_WA _ _ (Or.inr ⟨rfl, rfl⟩))
  have f13 := f 13 (by decide); have f14 := f 14 (by decide); have f15 := f 15 (by decide); have f16 := f 16 (by decide); have f17 := f 17 (by decide); have f27 := f 27 (by decide); have f28 := f 28 (by decide)
  have c0 : 0 ≤ g 214 27 := (I.1 214 27).1
  have hz : zA 0 0 [] g g1 := by
    refine ⟨I1, by rw [f14, f13]; exact px0.sp, by rw [f15, f14]; exact px0.fs, zt3_e px0.t3 f14 f15 f16 f17, by rw [f15]; exact Int.le_refl _, by rw [f27]; exact Int.le_refl _, ?_, F1, fun i _ => ⟨fa _ _ (by decide), fa _ _ (by decide)⟩, ⟨by rw [e1, zi_u_eq]; rfl, trivial⟩, trivial, by rw [f28, px1]; rfl, rfl, ?_⟩
    · rw [f27, f15]
      have := px0.cf
      have lz : (([] : List Int).length : Int) = 0 := rfl
      omega
    · exact zp_same (zp_nil c0) f27 (fun i _ => ⟨fa _ _ (by decide), fa _ _ (by decide)⟩)
  have er : ∀ k : Int, 1 ≤ k ∧ k ≤ 3 → ∀ g', zk_I g' → zk_fr fr_A g g' → w_M_errs k g' (fun v g'' => Q v g'') := by
    intro k hk g' I' F'
    refine k_M_errs I' hk (fun v g'' I'' F'' hv _ _ => ?_)
    exact hQ _ _ I'' (zk_ft F' F'' (fun a i h => fr_PA a i (fr_XP a i h))) ⟨by omega, by omega⟩ (fun n => by omega)
  have p15 : 0 ≤ g 214 15 := (I.1 214 15).1
  exact ⟨802, k_M_readAny_l9 (er 3 ⟨by decide, by decide⟩) (fun g' I' F' => hQ _ _ I' F' ⟨by decide, by decide⟩ (fun n => absurd rfl n)) (er 1 ⟨by decide, by decide⟩) (fun g' z => hQ _ _ z.I z.fr ⟨by decide, by decide⟩ (fun _ => z)) 802 0 1 [] g1 (Or.inr rfl) hz (fun q => by omega) (by omega)⟩

-- SpoutNewsModel.readLaw()I
theorem k_M_readLaw_l2 {g0 : zi_M} {K15 K58 K90 K111 : zi_M → Prop} {K128 : Int → zi_M → Prop} {Q : Int → zi_M → Prop} (hK15 : ∀ g, zk_I g → zk_fr fr_L g0 g → K15 g) (hK58 : ∀ g, zk_I g → zk_fr fr_L g0 g → K58 g) (hK90 : ∀ g, zk_I g → zk_fr fr_L g0 g → K90 g) (hK111 : ∀ g, zk_I g → zk_fr fr_L g0 g → K111 g) (hK128 : ∀ k g, 0 ≤ k → k ≤ 16 → zL k g0 g → K128 k g) :
    ∀ (n : Nat) (l1 : Int) (g : zi_M), 0 ≤ l1 → l1 ≤ 16 → zL l1 g0 g → 16 - l1 < (n : Int) → w_M_readLaw_l2 K15 K58 K90 K111 K128 Q n l1 g
  | 0, l1, g, h0, h1, h, hm => by exfalso; omega
  | n + 1, l1, g, h0, h1, h, hm => by
    have y := h.y
    have I := y.I
    have t := y.t3
    unfold w_M_readLaw_l2
    refine k_M_isLineWord I (fun v1 hv0 hv1 => ⟨fun _ => hK128 _ _ h0 h1 h, fun n1 => ⟨⟨by omega, by omega⟩, fun n16 => ⟨⟨by omega, by omega⟩, ?_⟩, fun _ => hK15 _ I h.fr⟩⟩)
    have htok : ¬ g 214 16 = 0 := by omega
    have hlt := t.1 htok
    intro g6 e6
    have r17 := zk_rng I 214 17
    have I6 : zk_I g6 := by rw [e6]; exact zk_upd (L := -2147483648) (H := 2147483647) rfl rfl I r17
    have f6 : ∀ (a : Nat) (i : Int), a ≠ 225 → g6 a i = g a i := fun a i ha => by rw [e6]; exact zi_u_ne ha
    refine k_M_reads I6 (by rw [f6 _ _ (by decide), f6 _ _ (by decide)]; exact y.sp) (fun g8 I8 F8 p1 p2 p3 p4 _ => ?_)
    rw [f6 _ _ (by decide)] at p1
    have q1 := y.cf
    have f8 : ∀ (a : Nat) (i : Int), a ≠ 225 → a ≠ 214 → g8 a i = g a i := fun a i h1 h2 => (F8 _ _ (by unfold fr_M_reads; omega)).trans (f6 a i h1)
    have c8 : g8 214 27 = g 214 27 := (F8 _ _ (by unfold fr_M_reads; omega)).trans (f6 _ _ (by decide))
    have o8 : g8 214 28 = g 214 28 := (F8 _ _ (by unfold fr_M_reads; omega)).trans (f6 _ _ (by decide))
    have r27 : 0 ≤ g8 214 27 ∧ g8 214 27 ≤ 400 := I8.1 214 27
    intro g10 e10
    have I10 : zk_I g10 := by rw [e10]; exact zk_u226 I8 (by omega) r27
    have f10 : ∀ (a : Nat) (i : Int), a ≠ 226 → g10 a i = g8 a i := fun a i ha => by rw [e10]; exact zi_u_ne ha
    have k10 : g10 226 (32 + l1) = g 214 27 := by rw [e10, zi_u_eq, c8]
    have j10 : ∀ i : Int, ¬ i = 32 + l1 → g10 226 i = g 226 i := fun i hi => by rw [e10, zi_u_ni hi]; exact f8 _ _ (by decide) (by decide)
    have c10 : g10 214 27 = g 214 27 := (f10 _ _ (by decide)).trans c8
    have y10 : zy g10 := by
      refine ⟨I10, ?_, ?_, zt3_e p4 (f10 _ _ (by decide)) (f10 _ _ (by decide)) (f10 _ _ (by decide)) (f10 _ _ (by decide)), ?_⟩
      · rw [f10 _ _ (by decide), f10 _ _ (by decide)]; exact p2
      · rw [f10 _ _ (by decide), f10 _ _ (by decide)]; exact p3
      · rw [c10, f10 _ _ (by decide)]; omega
    have F10 : zk_fr fr_L g g10 := by
      rw [e10]
      refine zk_fu (zk_ft ?_ F8 fr_RL) (Or.inr (Or.inl rfl))
      rw [e6]
      exact zk_fu (zk_f0 _) (Or.inl rfl)
    have L10 : zLd g10 l1 := zLd_c h.ls (fun l hl => ⟨j10 _ (by omega), (f10 _ _ (by decide)).trans (f8 _ _ (by decide) (by decide)), (f10 _ _ (by decide)).trans (f8 _ _ (by decide) (by decide))⟩) (by omega) (fun i _ => ⟨(f10 _ _ (by decide)).trans (f8 _ _ (by decide) (by decide)), (f10 _ _ (by decide)).trans (f8 _ _ (by decide) (by decide))⟩)
    refine k_M_readSum I10 y10 (fun v11 g12 I12 F12 hv11 hx => ⟨⟨by omega, by omega⟩, fun n11 => ?_, fun _ => hK58 _ I12 (zk_ft (zk_ft h.fr F10 (fun _ _ e => e)) F12 fr_PL)⟩)
    have x := hx n11
    have z1 := x.dp _ _ (zp_nil (g := g10) (by omega))
    have f12 : ∀ (a : Nat) (i : Int), a ≠ 214 → a ≠ 229 → a ≠ 230 → g12 a i = g10 a i := fun a i h1 h2 h3 => x.fr _ _ (by unfold fr_P; omega)
    have o12 : g12 214 28 = 0 := by rw [x.fr 214 28 (by unfold fr_P; omega), f10 _ _ (by decide), o8]; exact h.op
    have x1 := x.cc; have x2 := x.cf; have x3 := y10.cf
    have lt12 : g 214 27 < g12 214 27 := by
      have z3 := z1.2.2.2.2
      rw [c10] at z3
      by_cases q : g 214 27 < g12 214 27
      · exact q
      · exfalso
        rw [show (g12 214 27 - g 214 27).toNat = 0 by omega] at z3
        have z4 : (0 : Int) = 0 + 1 := z3
        omega
    have L12 : zLd g12 l1 := zLd_c L10 (fun l hl => ⟨f12 _ _ (by decide) (by decide) (by decide), f12 _ _ (by decide) (by decide) (by decide), f12 _ _ (by decide) (by decide) (by decide)⟩) x1 x.lo
    have r12 : 0 ≤ g12 214 27 ∧ g12 214 27 ≤ 400 := I12.1 214 27
    intro g15 e15
    have I15 : zk_I g15 := by rw [e15]; exact zk_u227 I12 (by omega) r12
    have f15 : ∀ (a : Nat) (i : Int), a ≠ 227 → g15 a i = g12 a i := fun a i ha => by rw [e15]; exact zi_u_ne ha
    have k15 : g15 227 (32 + l1) = g12 214 27 := by rw [e15, zi_u_eq]
    have j15 : ∀ i : Int, ¬ i = 32 + l1 → g15 227 i = g12 227 i := fun i hi => by rw [e15]; exact zi_u_ni hi
    have c15 : g15 214 27 = g12 214 27 := f15 _ _ (by decide)
    have L15 : zLd g15 l1 := zLd_c L12 (fun l hl => ⟨f15 _ _ (by decide), j15 _ (by omega), f15 _ _ (by decide)⟩) (by omega) (fun i _ => ⟨f15 _ _ (by decide), f15 _ _ (by decide)⟩)
    have F15 : zk_fr fr_L g g15 := by rw [e15]; exact zk_fu (zk_ft F10 x.fr fr_PL) (Or.inr (Or.inr (Or.inl rfl)))
    have m15 : g15 226 (32 + l1) = g 214 27 := by rw [f15 _ _ (by decide), f12 _ _ (by decide) (by decide) (by decide), k10]
    have y15 : zy g15 := by
      refine ⟨I15, ?_, ?_, zt3_e x.t3 (f15 _ _ (by decide)) (f15 _ _ (by decide)) (f15 _ _ (by decide)) (f15 _ _ (by decide)), ?_⟩
      · rw [f15 _ _ (by decide), f15 _ _ (by decide)]; exact x.sp
      · rw [f15 _ _ (by decide), f15 _ _ (by decide)]; exact x.fs
      · rw [c15, f15 _ _ (by decide)]; omega
    have s15 : zj_seg (zp_o g15) (zp_a g15) (g 214 27) (g12 214 27 - g 214 27).toNat := by
      have z2 := z1.2.2.2.1
      rw [c10] at z2
      exact zj_segc z2 (fun k _ _ => f15 229 (800 + k) (by decide)) (fun k _ _ => f15 230 (800 + k) (by decide))
    have o15 : g15 214 28 = 0 := (f15 _ _ (by decide)).trans o12
    -- the line's end
    have b92 : ∀ g17, zy g17 → g17 214 28 = 0 → zk_fr fr_L g g17 → zLd g17 l1 → g17 226 (32 + l1) = g 214 27 → g17 227 (32 + l1) = g12 214 27 → g12 214 27 ≤ g17 214 27 → zj_seg (zp_o g17) (zp_a g17) (g 214 27) (g12 214 27 - g 214 27).toNat → zj_seg (zp_o g17) (zp_a g17) (g12 214 27) (g17 214 27 - g12 214 27).toNat →
        w_M_readLaw_b92 l1 (32 + l1) g17 (w_M_readLaw_l2 K15 K58 K90 K111 K128 Q n) K15 K58 K90 K111 K128 Q := by
      intro g17 y17 o17 F17 L17 m1 m2 m3 s1 s2
      unfold w_M_readLaw_b92
      refine ⟨⟨by omega, by omega⟩, ?_⟩
      intro g20 e20
      have r17 : 0 ≤ g17 214 27 ∧ g17 214 27 ≤ 400 := y17.I.1 214 27
      have I20 : zk_I g20 := by rw [e20]; exact zk_u228 y17.I (by omega) r17
      have f20 : ∀ (a : Nat) (i : Int), a ≠ 228 → g20 a i = g17 a i := fun a i ha => by rw [e20]; exact zi_u_ne ha
      have F20 : zk_fr fr_L g g20 := by rw [e20]; exact zk_fu F17 (Or.inr (Or.inr (Or.inr (Or.inl rfl))))
      have t20 : zt3 g20 := zt3_e y17.t3 (f20 _ _ (by decide)) (f20 _ _ (by decide)) (f20 _ _ (by decide)) (f20 _ _ (by decide))
      refine k_M_isSign I20 ⟨by decide, by decide⟩ (fun v21 d1 d2 d3 => ⟨fun n21 => ?_, fun _ => hK111 _ I20 (zk_ft h.fr F20 (fun _ _ e => e))⟩)
      have lt20 := t20.1 (by omega)
      refine k_M_reads I20 (by rw [f20 _ _ (by decide), f20 _ _ (by decide)]; exact y17.sp) (fun g25 I25 F25 p1 p2 p3 p4 _ => ?_)
      have f25 : ∀ (a : Nat) (i : Int), a ≠ 214 → g25 a i = g20 a i := fun a i ha => F25 _ _ (by unfold fr_M_reads; omega)
      have c25 : g25 214 27 = g17 214 27 := (F25 _ _ (by unfold fr_M_reads; omega)).trans (f20 _ _ (by decide))
      have o25 : g25 214 28 = 0 := ((F25 _ _ (by unfold fr_M_reads; omega)).trans (f20 _ _ (by decide))).trans o17
      have u1 := y17.cf
      have u2 : g20 214 15 = g17 214 15 := f20 _ _ (by decide)
      have fo : ∀ i, g25 229 i = g17 229 i ∧ g25 230 i = g17 230 i := fun i => ⟨(f25 _ _ (by decide)).trans (f20 _ _ (by decide)), (f25 _ _ (by decide)).trans (f20 _ _ (by decide))⟩
      have j20 : ∀ i : Int, ¬ i = 32 + l1 → g25 228 i = g17 228 i := fun i hi => by rw [f25 _ _ (by decide), e20]; exact zi_u_ni hi
      have L25 : zLd g25 l1 := zLd_c L17 (fun l hl => ⟨(f25 _ _ (by decide)).trans (f20 _ _ (by decide)), (f25 _ _ (by decide)).trans (f20 _ _ (by decide)), j20 _ (by omega)⟩) (by omega) (fun i _ => fo i)
      have L26 : zLd g25 (l1 + 1) := zLd_s (a := g 214 27) (b := g12 214 27) (c := g17 214 27) L25 (by rw [f25 _ _ (by decide), f20 _ _ (by decide), m1]) (by rw [f25 _ _ (by decide), f20 _ _ (by decide), m2]) (by rw [f25 _ _ (by decide), e20, zi_u_eq]) ⟨by omega, by omega, m3, by omega⟩
        (zj_segc s1 (fun k _ _ => (fo (800 + k)).1) (fun k _ _ => (fo (800 + k)).2)) (zj_segc s2 (fun k _ _ => (fo (800 + k)).1) (fun k _ _ => (fo (800 + k)).2))
      exact k_M_readLaw_l2 hK15 hK58 hK90 hK111 hK128 n (l1 + 1) g25 (by omega) (by omega) ⟨⟨I25, p2, p3, p4, by omega⟩, o25, zk_ft (zk_ft h.fr F20 (fun _ _ e => e)) F25 fr_RL, L26⟩ (by omega)
    refine k_M_isWord I15 ⟨by decide, by decide⟩ (fun v16 d1 d2 d3 => ⟨fun _ => ?_, fun n16 => ?_⟩)
    · refine b92 g15 y15 o15 F15 L15 m15 k15 (by omega) s15 ?_
      rw [c15, Int.sub_self]
      exact fun i hi => absurd hi (Nat.not_lt_zero i)
    · have lt15 := y15.t3.1 (by omega)
      refine k_M_reads I15 y15.sp (fun g29 I29 F29 p1 p2 p3 p4 _ => ?_)
      have f29 : ∀ (a : Nat) (i : Int), a ≠ 214 → g29 a i = g15 a i := fun a i ha => F29 _ _ (by unfold fr_M_reads; omega)
      have c29 : g29 214 27 = g12 214 27 := (F29 _ _ (by unfold fr_M_reads; omega)).trans c15
      have o29 : g29 214 28 = 0 := (F29 _ _ (by unfold fr_M_reads; omega)).trans o15
      have u1 := y15.cf
      have y29 : zy g29 := ⟨I29, p2, p3, p4, by omega⟩
      refine k_M_readAny I29 y29 o29 (fun v31 g32 I32 F32 hv31 hz => ⟨⟨by omega, by omega⟩, fun n31 => ?_, fun _ => hK90 _ I32 (zk_ft (zk_ft (zk_ft h.fr F15 (fun _ _ e => e)) F29 fr_RL) F32 fr_AL)⟩)
      have z := hz n31
      have f32 : ∀ (a : Nat) (i : Int), a ≠ 214 → a ≠ 229 → a ≠ 230 → a ≠ 231 → g32 a i = g15 a i := fun a i h1 h2 h3 h4 => (z.fr _ _ (by unfold fr_A; omega)).trans (f29 a i h1)
      have w1 := z.cc
      have fo : ∀ i : Int, i < 800 + g12 214 27 → g32 229 i = g15 229 i ∧ g32 230 i = g15 230 i := fun i hi => ⟨(z.lo i (by omega)).1.trans (f29 _ _ (by decide)), (z.lo i (by omega)).2.trans (f29 _ _ (by decide))⟩
      have L32 : zLd g32 l1 := zLd_c L15 (fun l hl => ⟨f32 _ _ (by decide) (by decide) (by decide) (by decide), f32 _ _ (by decide) (by decide) (by decide) (by decide), f32 _ _ (by decide) (by decide) (by decide) (by decide)⟩) (by omega) (fun i hi => fo i (by omega))
      refine b92 g32 ⟨I32, z.sp, z.fs, z.t3, z.cf⟩ z.op (zk_ft (zk_ft F15 F29 fr_RL) z.fr fr_AL) L32 (by rw [f32 _ _ (by decide) (by decide) (by decide) (by decide)]; exact m15) (by rw [f32 _ _ (by decide) (by decide) (by decide) (by decide)]; exact k15) (by omega) ?_ ?_
      · exact zj_segc s15 (fun k k1 k2 => (fo (800 + k) (by omega)).1) (fun k k1 k2 => (fo (800 + k) (by omega)).2)
      · have := z.dp.2.2.2.1
        rw [c29] at this
        exact this
theorem k_M_readLaw {g : zi_M} {Q : Int → zi_M → Prop} (I : zk_I g) (px0 : zy g) (px1 : g 214 28 = 0) (hQ : ∀ (v : Int) (g' : zi_M), zk_I g' → zk_fr fr_M_readLaw g g' → ((-1) ≤ v ∧ v ≤ 16) → (¬ v = -1 → zLd g' v) → Q v g') : w_M_readLaw g Q := by
  unfold w_M_readLaw
  have er : ∀ k : Int, 1 ≤ k ∧ k ≤ 3 → ∀ g', zk_I g' → zk_fr fr_L g g' → w_M_errs k g' (fun v g'' => Q v g'') := by
    intro k hk g' I' F'
    refine k_M_errs I' hk (fun v g'' I'' F'' hv _ _ => ?_)
    exact hQ _ _ I'' (zk_ft F' F'' (fun a i h => fr_PL a i (fr_XP a i h))) ⟨by omega, by omega⟩ (fun n => by omega)
  refine ⟨17, k_M_readLaw_l2 (er 3 ⟨by decide, by decide⟩) (fun g' I' F' => hQ _ _ I' F' ⟨by decide, by decide⟩ (fun n => absurd rfl n)) (fun g' I' F' => hQ _ _ I' F' ⟨by decide, by decide⟩ (fun n => absurd rfl n)) (er 1 ⟨by decide, by decide⟩) (fun k g' k0 k1 L => ?_) 17 0 g (by decide) (by decide) ⟨px0, px1, zk_f0 _, zLd_0 _⟩ (by decide)⟩
  exact ⟨zk_rng L.y.I _ _, fun _ => er 1 ⟨by decide, by decide⟩ g' L.y.I L.fr, fun _ => hQ _ _ L.y.I L.fr ⟨by omega, by omega⟩ (fun _ => L.ls)⟩

-- SpoutNewsModel.readNumber(II)I
theorem k_M_readNumber {l1 : Int} {l2 : Int} {g : zi_M} {Q : Int → zi_M → Prop} (I : zk_I g) (p1 : 0 ≤ l1 ∧ l1 ≤ 0) (p2 : (-1) ≤ l2 ∧ l2 ≤ 999) (px0 : g 214 14 ≤ g 214 13) (px1 : g 214 15 ≤ g 214 14) (px2 : zt3 g) (hQ : ∀ (v : Int) (g' : zi_M), zk_I g' → zk_fr fr_M_readNumber g g' → ((-1) ≤ v ∧ v ≤ 100000) → (¬ v = -1 → l1 ≤ v ∧ v ≤ l2) → (g' 214 14 ≤ g' 214 13) → (g' 214 15 ≤ g' 214 14) → (zt3 g') → (g 214 15 ≤ g' 214 15) → (∀ (r : Nat) (T : zyT) (t : Int), zs_str r → zyR r T g t → zyE T → zyQ r T g' t (zyN T (l2 + 1) t) ∧ (zyN T (l2 + 1) t = 0 → v = T.2.1 t) ∧ (¬ zyN T (l2 + 1) t = 0 → v = -1)) → Q v g') : w_M_readNumber l1 l2 g Q := by
  unfold w_M_readNumber
  have b16 : 0 ≤ g 214 16 ∧ g 214 16 ≤ 4 := I.1 214 16
  have b17 : -1 ≤ g 214 17 ∧ g 214 17 ≤ 100000 := I.1 214 17
  have er : ∀ e : Int, 1 ≤ e → e ≤ 2 → (∀ (r : Nat) (T : zyT) (t : Int), zs_str r → zyR r T g t → zyE T → zyN T (l2 + 1) t = e) → w_M_errs e g (fun v g' => Q v g') := by
    intro e h1 h2 hz
    refine k_M_errs I ⟨h1, by omega⟩ (fun v g' I' F' c d x => ?_)
    have k13 : g' 214 13 = g 214 13 := F' 214 13 (by unfold fr_M_errs; omega)
    have k14 : g' 214 14 = g 214 14 := F' 214 14 (by unfold fr_M_errs; omega)
    have k15 : g' 214 15 = g 214 15 := F' 214 15 (by unfold fr_M_errs; omega)
    refine hQ v g' I' (zk_ft (zk_f0 _) F' (fun a i h => by unfold fr_M_errs at h; unfold fr_M_readNumber; omega)) ⟨by omega, by omega⟩ (fun n => by omega) (by omega) (by omega) (d px2) (by omega) (fun r T t hr h hE => ?_)
    rw [hz r T t hr h hE]
    exact ⟨⟨fun q => by omega, fun _ => x r T t h⟩, fun q => by omega, fun _ => by omega⟩
  refine ⟨⟨by omega, by omega⟩, fun e3 => ?_, fun n3 => er 1 (by decide) (by decide) (fun r T t hr h hE => zyN_1 (fun q => n3 ((zyR_k hr h).2.1.2 q)))⟩
  refine k_M_isIn I ⟨by omega, by omega⟩ ⟨by omega, by omega⟩ ⟨by omega, by omega⟩ (fun v2 a1 a2 a3 => ⟨fun ne => ?_, fun e => er 2 (by decide) (by decide) (fun r T t hr h hE => ?_)⟩)
  · refine k_M_reads I (by omega) (fun g6 I6 F6 c1 c2 c3 c4 c5 => ?_)
    have k13 : g6 214 13 = g 214 13 := F6 214 13 (by unfold fr_M_reads; omega)
    refine hQ _ g6 I6 (zk_ft (zk_f0 _) F6 (fun a i h => by unfold fr_M_reads at h; unfold fr_M_readNumber; omega)) ⟨by omega, by omega⟩ (by omega) (by omega) (by omega) c4 (by omega) (fun r T t hr h hE => ?_)
    have kk := zyR_k hr h
    have k1 := kk.2.1.1 e3
    have kv := kk.2.2.2.1 (Or.inl e3)
    have z : zyN T (l2 + 1) t = 0 := zyN_0.2 ⟨k1, by omega⟩
    rw [z]
    exact ⟨⟨fun _ => zyR_n h F6 c5 (zyE_lt hE h.2.1.2 (by omega)), fun q => absurd rfl q⟩, fun _ => kv, fun q => absurd rfl q⟩
  · have kk := zyR_k hr h
    have k1 := kk.2.1.1 e3
    have kv := kk.2.2.2.1 (Or.inl e3)
    have := hE.2.2.2 t h.2.1.1 h.2.1.2 k1
    exact zyN_2 k1 (by omega)

-- SpoutNewsModel.readTold(III)I
theorem k_M_readTold {l1 : Int} {l2 : Int} {l3 : Int} {g : zi_M} {Q : Int → zi_M → Prop} (I : zk_I g) (p1 : 11 ≤ l1 ∧ l1 ≤ 20) (p2 : 0 ≤ l2 ∧ l2 ≤ 0) (p3 : (-1) ≤ l3 ∧ l3 ≤ 999) (px0 : g 214 14 ≤ g 214 13) (px1 : g 214 15 ≤ g 214 14) (px2 : zt3 g) (hQ : ∀ (v : Int) (g' : zi_M), zk_I g' → zk_fr fr_M_readTold g g' → ((-1) ≤ v ∧ v ≤ 100000) → (¬ v = -1 → l2 ≤ v ∧ v ≤ l3) → (g' 214 14 ≤ g' 214 13) → (g' 214 15 ≤ g' 214 14) → (zt3 g') → (g 214 15 ≤ g' 214 15) → (∀ (r : Nat) (T : zyT) (t j : Int), zs_str r → 0 ≤ j → j < zkN r → l1 = zmp r j → zyR r T g t → zyE T → (¬ zyK T 2 j t = 0 → v = -1 ∧ zyG T g' (zyK T 2 j t) t) ∧ (zyK T 2 j t = 0 → zyQ r T g' (t + 1) (zyN T (l3 + 1) (t + 1)) ∧ (zyN T (l3 + 1) (t + 1) = 0 → v = T.2.1 (t + 1)) ∧ (¬ zyN T (l3 + 1) (t + 1) = 0 → v = -1))) → Q v g') : w_M_readTold l1 l2 l3 g Q := by
  unfold w_M_readTold
  have b16 : 0 ≤ g 214 16 ∧ g 214 16 ≤ 4 := I.1 214 16
  have b17 : -1 ≤ g 214 17 ∧ g 214 17 ≤ 100000 := I.1 214 17
  refine k_M_isWord I ⟨by omega, by omega⟩ (fun v1 a1 a2 a3 => ⟨fun ne => ?_, fun e => ?_⟩)
  · have w2 : g 214 16 = 2 ∧ g 214 17 = l1 := by omega
    refine k_M_reads I (by omega) (fun g5 I5 F5 c1 c2 c3 c4 c5 => ?_)
    have k13 : g5 214 13 = g 214 13 := F5 214 13 (by unfold fr_M_reads; omega)
    refine k_M_readNumber I5 ⟨by omega, by omega⟩ ⟨by omega, by omega⟩ (by omega) (by omega) c4 (fun v7 g8 I8 F8 d1 d2 d3 d4 d5 d6 x => ?_)
    refine hQ v7 g8 I8 (zk_ft (zk_ft (zk_f0 _) F5 (fun a i h => by unfold fr_M_reads at h; unfold fr_M_readTold; omega)) F8 (fun a i h => h)) ⟨by omega, by omega⟩ (by omega) (by omega) (by omega) d5 (by omega) (fun r T t j hr j0 j1 ej h hE => ?_)
    have k := (zyR_w hr h ⟨j0, j1⟩ ej).1 w2
    have R5 := zyR_n h F5 c5 (zyE_lt hE h.2.1.2 (by omega))
    exact ⟨fun q => absurd (zyK_0.2 k) q, fun _ => x r T (t + 1) hr R5 hE⟩
  · refine k_M_errs I ⟨by decide, by decide⟩ (fun v g' I' F' c d x => ?_)
    have k13 : g' 214 13 = g 214 13 := F' 214 13 (by unfold fr_M_errs; omega)
    have k14 : g' 214 14 = g 214 14 := F' 214 14 (by unfold fr_M_errs; omega)
    have k15 : g' 214 15 = g 214 15 := F' 214 15 (by unfold fr_M_errs; omega)
    refine hQ v g' I' (zk_ft (zk_f0 _) F' (fun a i h => by unfold fr_M_errs at h; unfold fr_M_readTold; omega)) ⟨by omega, by omega⟩ (fun n => by omega) (by omega) (by omega) (d px2) (by omega) (fun r T t j hr j0 j1 ej h hE => ?_)
    have z : zyK T 2 j t = 1 := zyK_1 (fun q => by
      have k := (zyR_w hr h ⟨j0, j1⟩ ej).2 q
      omega)
    rw [z]
    exact ⟨fun _ => ⟨by omega, x r T t h⟩, fun q => absurd q (by decide)⟩

-- SpoutNewsModel.kindOfDeed()I
set_option maxRecDepth 100000 in
set_option maxHeartbeats 4000000 in
theorem k_M_kindOfDeed {g : zi_M} {Q : Int → zi_M → Prop} (I : zk_I g) (px0 : zt3 g) (hQ : ∀ v : Int, ((-1) ≤ v ∧ v ≤ 6) → (g 214 16 = 2 → g 214 17 = 19 → v = 0) → (g 214 16 = 2 → 21 ≤ g 214 17 → g 214 17 ≤ 26 → v = g 214 17 - 20) → (¬ g 214 16 = 2 ∨ (¬ g 214 17 = 19 ∧ (g 214 17 < 21 ∨ 26 < g 214 17)) → v = -1) → Q v g) : w_M_kindOfDeed g Q := by
  unfold w_M_kindOfDeed
  have m_4 : 0 ≤ (g 214 16) ∧ (g 214 16) ≤ 4 := I.1 214 16
  have m_5 : (-1) ≤ (g 214 17) ∧ (g 214 17) ≤ 100000 := I.1 214 17
  refine k_M_isWord I ⟨by omega, by omega⟩ (fun v1 b_1 b_2 b_3 => ?_)
  refine ⟨fun c10 => ?_, fun c10 => ?_⟩
  · refine ⟨⟨by omega, by omega⟩, ?_⟩
    refine ⟨fun c9 => ?_, fun c9 => ?_⟩
    · exact hQ _ ⟨by omega, by omega⟩ (by omega) (by omega) (by omega)
    · refine k_M_isIn I ⟨by omega, by omega⟩ ⟨by omega, by omega⟩ ⟨by omega, by omega⟩ (fun v5 b_6 b_7 b_8 => ?_)
      refine ⟨fun c8 => ?_, fun c8 => ?_⟩
      · exact hQ _ ⟨by omega, by omega⟩ (by omega) (by omega) (by omega)
      · exact hQ _ ⟨by omega, by omega⟩ (by omega) (by omega) (by omega)
  · exact hQ _ ⟨by omega, by omega⟩ (by omega) (by omega) (by omega)
-- SpoutNewsModel.mostFor(I)I
set_option maxRecDepth 100000 in
set_option maxHeartbeats 4000000 in
theorem k_M_mostFor {l1 : Int} {g : zi_M} {Q : Int → zi_M → Prop} (I : zk_I g) (p1 : 0 ≤ l1 ∧ l1 ≤ 6) (hQ : ∀ v : Int, (¬ l1 = 2 → l1 < 3 → v = (g 214 7) - 1) → (¬ l1 = 2 → 3 ≤ l1 → 5 < l1 → v = (g 214 7) - 1) → (¬ l1 = 2 → 3 ≤ l1 → l1 ≤ 5 → v = (g 214 6) - 1) → (l1 = 2 → v = 5) → Q v g) : w_M_mostFor l1 g Q := by
  unfold w_M_mostFor
  refine ⟨⟨by omega, by omega⟩, ?_⟩
  refine ⟨fun c4 => ?_, fun c4 => ?_⟩
  · refine ⟨fun c3 => ?_, fun c3 => ?_⟩
    · have m_1 : 0 ≤ (g 214 7) ∧ (g 214 7) ≤ 8 := I.1 214 7
      have m_2 : 0 ≤ (g 214 6) ∧ (g 214 6) ≤ 10 := I.1 214 6
      exact hQ _ (by intros; omega) (by intros; omega) (by intros; omega) (by intros; omega)
    · refine ⟨fun c2 => ?_, fun c2 => ?_⟩
      · have m_3 : 0 ≤ (g 214 7) ∧ (g 214 7) ≤ 8 := I.1 214 7
        have m_4 : 0 ≤ (g 214 6) ∧ (g 214 6) ≤ 10 := I.1 214 6
        exact hQ _ (by intros; omega) (by intros; omega) (by intros; omega) (by intros; omega)
      · have m_5 : 0 ≤ (g 214 6) ∧ (g 214 6) ≤ 10 := I.1 214 6
        have m_6 : 0 ≤ (g 214 7) ∧ (g 214 7) ≤ 8 := I.1 214 7
        exact hQ _ (by intros; omega) (by intros; omega) (by intros; omega) (by intros; omega)
  · have m_7 : 0 ≤ (g 214 7) ∧ (g 214 7) ≤ 8 := I.1 214 7
    have m_8 : 0 ≤ (g 214 6) ∧ (g 214 6) ≤ 10 := I.1 214 6
    exact hQ _ (by intros; omega) (by intros; omega) (by intros; omega) (by intros; omega)
-- SpoutNewsModel.readMark(I)I
theorem k_M_readMark {l1 : Int} {g : zi_M} {Q : Int → zi_M → Prop} (I : zk_I g) (p1 : 59 ≤ l1 ∧ l1 ≤ 59) (px0 : g 214 14 ≤ g 214 13) (px1 : g 214 15 ≤ g 214 14) (px2 : zt3 g) (hQ : ∀ (v : Int) (g' : zi_M), zk_I g' → zk_fr fr_M_readMark g g' → ((-1) ≤ v ∧ v ≤ 0) → (g' 214 14 ≤ g' 214 13) → (g' 214 15 ≤ g' 214 14) → (zt3 g') → (g 214 15 ≤ g' 214 15) → (∀ (r : Nat) (T : zyT) (t : Int), zs_str r → zyR r T g t → zyE T → zyQ r T g' t (zyK T 3 l1 t) ∧ (zyK T 3 l1 t = 0 → v = 0) ∧ (¬ zyK T 3 l1 t = 0 → v = -1)) → Q v g') : w_M_readMark l1 g Q := by
  unfold w_M_readMark
  have b16 : 0 ≤ g 214 16 ∧ g 214 16 ≤ 4 := I.1 214 16
  have b17 : -1 ≤ g 214 17 ∧ g 214 17 ≤ 100000 := I.1 214 17
  refine k_M_isSign I ⟨by omega, by omega⟩ (fun v1 a1 a2 a3 => ⟨fun ne => ?_, fun e => ?_⟩)
  · refine k_M_reads I (by omega) (fun g6 I6 F6 c1 c2 c3 c4 c5 => ?_)
    have k13 : g6 214 13 = g 214 13 := F6 214 13 (by unfold fr_M_reads; omega)
    refine hQ 0 g6 I6 (zk_ft (zk_f0 _) F6 (fun a i h => by unfold fr_M_reads at h; unfold fr_M_readMark; omega)) ⟨by omega, by omega⟩ (by omega) (by omega) c4 (by omega) (fun r T t hr h hE => ?_)
    have kk := zyR_k hr h
    have e4 : g 214 16 = 4 := by omega
    have k1 := kk.2.2.1.1 e4
    have kv := kk.2.2.2.1 (Or.inr e4)
    have z : zyK T 3 l1 t = 0 := zyK_0.2 ⟨k1, by omega⟩
    rw [z]
    exact ⟨⟨fun _ => zyR_n h F6 c5 (zyE_lt hE h.2.1.2 (by omega)), fun q => absurd rfl q⟩, fun _ => rfl, fun q => absurd rfl q⟩
  · refine k_M_errs I ⟨by decide, by decide⟩ (fun v g' I' F' c d x => ?_)
    have k13 : g' 214 13 = g 214 13 := F' 214 13 (by unfold fr_M_errs; omega)
    have k14 : g' 214 14 = g 214 14 := F' 214 14 (by unfold fr_M_errs; omega)
    have k15 : g' 214 15 = g 214 15 := F' 214 15 (by unfold fr_M_errs; omega)
    refine hQ v g' I' (zk_ft (zk_f0 _) F' (fun a i h => by unfold fr_M_errs at h; unfold fr_M_readMark; omega)) ⟨by omega, by omega⟩ (by omega) (by omega) (d px2) (by omega) (fun r T t hr h hE => ?_)
    have z : zyK T 3 l1 t = 1 := zyK_1 (fun q => by
      have kk := zyR_k hr h
      have e4 := kk.2.2.1.2 q.1
      have kv := kk.2.2.2.1 (Or.inr e4)
      omega)
    rw [z]
    exact ⟨⟨fun q => absurd q (by decide), fun _ => x r T t h⟩, fun q => absurd q (by decide), fun _ => by omega⟩

-- SpoutNewsModel.readDeed(I)I
theorem k_M_readDeed {l1 : Int} {g : zi_M} {Q : Int → zi_M → Prop} (I : zk_I g) (p1 : 64 ≤ l1 ∧ l1 ≤ 124) (px0 : g 214 14 ≤ g 214 13) (px1 : g 214 15 ≤ g 214 14) (px2 : zt3 g) (hQ : ∀ (v : Int) (g' : zi_M), zk_I g' → zk_fr fr_M_readDeed g g' → ((-1) ≤ v ∧ v ≤ 0) → (g' 214 14 ≤ g' 214 13) → (g' 214 15 ≤ g' 214 14) → (zt3 g') → (g 214 15 ≤ g' 214 15) → (¬ v = -1 → zj_deed (g' 234 (l1 + 1)) (g' 234 (l1 + 2)) (g' 234 (l1 + 3))) → (∀ i : Int, i < l1 → g' 234 i = g 234 i) → (∀ (T : zyT) (n : Int), zyDp T g n → zyDm T (g 214 6) (g 214 7) g' l1 n v) → Q v g') : w_M_readDeed l1 g Q := by
  have hr : zs_str 1000000004 := rfl
  have z4 := zyk4
  have b6 : 0 ≤ g 214 6 ∧ g 214 6 ≤ 10 := I.1 214 6
  have b7 : 0 ≤ g 214 7 ∧ g 214 7 ≤ 8 := I.1 214 7
  have sT : ∀ a i, fr_M_readTold a i → fr_M_readDeed a i := fun a i h => by unfold fr_M_readTold at h; unfold fr_M_readDeed; omega
  have sN : ∀ a i, fr_M_readNumber a i → fr_M_readDeed a i := fun a i h => by unfold fr_M_readNumber at h; unfold fr_M_readDeed; omega
  have sM : ∀ a i, fr_M_readMark a i → fr_M_readDeed a i := fun a i h => by unfold fr_M_readMark at h; unfold fr_M_readDeed; omega
  have sR : ∀ a i, fr_M_reads a i → fr_M_readDeed a i := fun a i h => by unfold fr_M_reads at h; unfold fr_M_readDeed; omega
  have sE : ∀ a i, fr_M_errs a i → fr_M_readDeed a i := fun a i h => by unfold fr_M_errs at h; unfold fr_M_readDeed; omega
  have bad : ∀ (v : Int) (x : zi_M), v = -1 → zk_I x → zk_fr fr_M_readDeed g x → (x 214 14 ≤ x 214 13 ∧ x 214 15 ≤ x 214 14 ∧ zt3 x ∧ g 214 15 ≤ x 214 15) → (∀ i : Int, i < l1 → x 234 i = g 234 i) → (∀ (T : zyT) (n : Int), zyDp T g n → zyDf T (g 214 6) (g 214 7) n 1 (zyG T x)) → Q v x := fun v x e Ix Fx tx rx hp => hQ v x Ix Fx ⟨by omega, by omega⟩ tx.1 tx.2.1 tx.2.2.1 tx.2.2.2 (fun q => absurd e q) rx (fun T n h => Or.inl ⟨e, hp T n h⟩)
  have st : ∀ {x y : zi_M} {i v : Int}, y = zi_u x 234 i v → (x 214 14 ≤ x 214 13 ∧ x 214 15 ≤ x 214 14 ∧ zt3 x ∧ g 214 15 ≤ x 214 15) → (y 214 14 ≤ y 214 13 ∧ y 214 15 ≤ y 214 14 ∧ zt3 y ∧ g 214 15 ≤ y 214 15) := fun {x y i v} e tx => by
    have e' : ∀ k : Int, y 214 k = x 214 k := fun k => by rw [e]; exact zi_u_ne (by decide)
    rw [e', e', e']
    exact ⟨tx.1, tx.2.1, zt3_e tx.2.2.1 (e' _) (e' _) (e' _) (e' _), tx.2.2.2⟩
  have zG : ∀ {x y : zi_M} {i v : Int} {T : zyT} {n : Int}, y = zi_u x 234 i v → zyDf T (g 214 6) (g 214 7) n 1 (zyG T x) → zyDf T (g 214 6) (g 214 7) n 1 (zyG T y) := fun {x y i v T n} e h => by
    have e' : ∀ k : Int, y 214 k = x 214 k := fun k => by rw [e]; exact zi_u_ne (by decide)
    obtain ⟨o, o1, o2, o3, o4⟩ := h
    exact ⟨o, o1, o2, o3, by rw [e']; exact o4.1, by rw [e']; exact o4.2⟩
  -- what a line is worth from its mark on
  have mark : ∀ (x : zi_M) (d w b : Int), zk_I x → zk_fr fr_M_readDeed g x → (x 214 14 ≤ x 214 13 ∧ x 214 15 ≤ x 214 14 ∧ zt3 x ∧ g 214 15 ≤ x 214 15) → (∀ i : Int, i < l1 → x 234 i = g 234 i) → (x 234 (l1 + 1) = d ∧ x 234 (l1 + 2) = w ∧ x 234 (l1 + 3) = b) → zj_deed d w b → (∀ (T : zyT) (n : Int), zyDp T g n → (∀ k : Int, 1 ≤ k → k < zyPl (T.2.1 (zyPP T n + 2)) - 1 → zyPg T (g 214 6) (g 214 7) n (zyPP T n) k = 0) ∧ zyR 1000000004 T x (zyPP T n + (zyPl (T.2.1 (zyPP T n + 2)) - 1)) ∧ x 234 l1 = T.2.1 (zyPP T n + 1) ∧ d = T.2.1 (zyPP T n + 2) ∧ w = T.2.1 (zyPP T n + 3) ∧ b = zyPx T (zyPP T n)) → w_M_readMark 59 x (fun v g' => Q v g') := by
    intro x d w b Ix Fx tx rx hx hj hp
    refine k_M_readMark Ix ⟨by decide, by decide⟩ tx.1 tx.2.1 tx.2.2.1 (fun v g' I' F' c1 c2 c3 c4 c5 y => ?_)
    have r' : ∀ i : Int, g' 234 i = x 234 i := fun i => F' 234 i (by unfold fr_M_readMark; omega)
    refine hQ v g' I' (zk_ft Fx F' sM) c1 c2 c3 c4 (by omega) (fun _ => by rw [r', r', r', hx.1, hx.2.1, hx.2.2]; exact hj) (fun i hi => by rw [r']; exact rx i hi) (fun T n h => ?_)
    obtain ⟨h1, h2, h3, h4, h5, h6⟩ := hp T n h
    have u := y 1000000004 T _ hr h2 h.2.1
    rw [← zyPg_l (sp := g 214 6) (si := g 214 7) (n := n)] at u
    have b := zyPl_b (T.2.1 (zyPP T n + 2))
    by_cases z : zyPg T (g 214 6) (g 214 7) n (zyPP T n) (zyPl (T.2.1 (zyPP T n + 2)) - 1) = 0
    · have R := u.1.1 z
      rw [show zyPP T n + (zyPl (T.2.1 (zyPP T n + 2)) - 1) + 1 = zyPP T n + zyPl (T.2.1 (zyPP T n + 2)) by omega] at R
      refine Or.inr ⟨u.2.1 z, zyZ_2 h1 (by omega) z, R, ?_, ?_, ?_, ?_⟩
      · rw [r']; exact h3
      · rw [r', hx.1]; exact h4
      · rw [r', hx.2.1]; exact h5
      · rw [r', hx.2.2]; exact h6
    · exact Or.inl ⟨u.2.2 z, zyDf_o (o := zyPl (T.2.1 (zyPP T n + 2)) - 1) ⟨by omega, by omega⟩ h1 z (u.1.2 z)⟩
  unfold w_M_readDeed
  refine k_M_readTold I ⟨by decide, by decide⟩ ⟨by decide, by decide⟩ ⟨by decide, by decide⟩ px0 px1 px2 (fun v1 g2 I2 F2 c1 c2 c3 c4 c5 c6 y2 => ⟨⟨by omega, by omega⟩, ?_⟩)
  intro g5 e5
  have G2 : zk_fr fr_M_readDeed g g2 := zk_ft (zk_f0 _) F2 sT
  have I5 : zk_I g5 := by rw [e5]; exact zk_u234 I2 (by omega) ⟨by omega, by omega⟩
  have G5 : zk_fr fr_M_readDeed g g5 := by rw [e5]; exact zk_fu G2 (Or.inl rfl)
  have t5 := st e5 ⟨c3, c4, c5, c6⟩
  have r5 : ∀ i : Int, i < l1 → g5 234 i = g 234 i := fun i hi => by rw [e5, zi_u_ni (by omega), F2 234 i (by unfold fr_M_readTold; omega)]
  have v5 : g5 234 l1 = v1 := by rw [e5, zi_u_eq]
  have L2 : ∀ (T : zyT) (n : Int), zyDp T g n → zyQ 1000000004 T g2 (zyPP T n + 1) (zyPg T (g 214 6) (g 214 7) n (zyPP T n) 1) ∧ (zyPg T (g 214 6) (g 214 7) n (zyPP T n) 1 = 0 → v1 = T.2.1 (zyPP T n + 1)) ∧ (¬ zyPg T (g 214 6) (g 214 7) n (zyPP T n) 1 = 0 → v1 = -1) := fun T n h => by
    have u := (y2 1000000004 T _ 7 hr (by decide) (by omega) z4.2.2.1.symm h.1 h.2.1).2 (zyK_0.2 h.2.2.2)
    rw [show (999 : Int) + 1 = 1000 from rfl, ← zyPg_1 (sp := g 214 6) (si := g 214 7) (n := n)] at u
    exact u
  have N2 : ∀ (T : zyT) (n : Int), zyDp T g n → (v1 = -1 → ¬ zyPg T (g 214 6) (g 214 7) n (zyPP T n) 1 = 0) := fun T n h e q => by
    have u := L2 T n h
    have v := u.2.1 q
    have k := zyN_0.1 (zyPg_1.symm.trans q)
    have := h.2.1.2.2.2 (zyPP T n + 1) (by have := zyPP_b (T := T) (n := n); omega) (by have := (u.1.1 q).2.1.2; omega) k.1
    omega
  rw [v5]
  refine ⟨⟨by omega, by omega⟩, fun ne1 => ?_, fun e1 => ?_⟩
  · have L5 : ∀ (T : zyT) (n : Int), zyDp T g n → zyPg T (g 214 6) (g 214 7) n (zyPP T n) 1 = 0 ∧ v1 = T.2.1 (zyPP T n + 1) ∧ zyR 1000000004 T g5 (zyPP T n + 2) := fun T n h => by
      have u := L2 T n h
      have z : zyPg T (g 214 6) (g 214 7) n (zyPP T n) 1 = 0 := Classical.byContradiction (fun q => ne1 (u.2.2 q))
      have R := zyR_u (u.1.1 z) e5 ⟨by decide, by decide⟩
      rw [show zyPP T n + 1 + 1 = zyPP T n + 2 by omega] at R
      exact ⟨z, u.2.1 z, R⟩
    have b16 : 0 ≤ g5 214 16 ∧ g5 214 16 ≤ 4 := I5.1 214 16
    refine k_M_kindOfDeed I5 t5.2.2.1 (fun v7 d1 d2 d3 d4 => ⟨⟨by omega, by omega⟩, fun ne7 => ?_, fun e7 => ?_⟩)
    · refine k_M_reads I5 t5.1 (fun g12 I12 F12 f1 f2 f3 f4 f5 => ⟨⟨by omega, by omega⟩, ?_⟩)
      have G12 := zk_ft G5 F12 sR
      have L12 : ∀ (T : zyT) (n : Int), zyDp T g n → v7 = T.2.1 (zyPP T n + 2) ∧ (0 ≤ v7 ∧ v7 ≤ 6) ∧ (∀ k : Int, 1 ≤ k → k < 3 → zyPg T (g 214 6) (g 214 7) n (zyPP T n) k = 0) ∧ v1 = T.2.1 (zyPP T n + 1) ∧ zyR 1000000004 T g12 (zyPP T n + 3) := fun T n h => by
        obtain ⟨h1, h2, h3⟩ := L5 T n h
        have k := (zyR_d h3 b16 d2 d3 d4).1 ne7
        have R := zyR_n h3 F12 f5 (zyE_lt h.2.1 h3.2.1.2 (by omega))
        rw [show zyPP T n + 2 + 1 = zyPP T n + 3 by omega] at R
        exact ⟨k.2.1.symm, ⟨by omega, by omega⟩, zyZ_2 (zyZ_2 zyZ_0 (by decide) h1) (by decide) (zyPg_2 ⟨k.1, by omega, by omega⟩), h2, R⟩
      have c7 : 0 ≤ v7 ∧ v7 ≤ 6 := by omega
      intro g15 e15
      have k13 : g12 214 13 = g5 214 13 := F12 214 13 (by unfold fr_M_reads; omega)
      have I15 : zk_I g15 := by rw [e15]; exact zk_u234 I12 (by omega) ⟨by omega, by omega⟩
      have G15 : zk_fr fr_M_readDeed g g15 := by rw [e15]; exact zk_fu G12 (Or.inl rfl)
      have t15 := st e15 ⟨by omega, f3, f4, by have := t5.2.1; have := t5.2.2.2; omega⟩
      have m6 : g15 214 6 = g 214 6 := by rw [e15, zi_u_ne (by decide), F12 214 6 (by unfold fr_M_reads; omega), e5, zi_u_ne (by decide), F2 214 6 (by unfold fr_M_readTold; omega)]
      have m7 : g15 214 7 = g 214 7 := by rw [e15, zi_u_ne (by decide), F12 214 7 (by unfold fr_M_reads; omega), e5, zi_u_ne (by decide), F2 214 7 (by unfold fr_M_readTold; omega)]
      have r15 : ∀ i : Int, ¬ i = l1 + 1 → g15 234 i = g5 234 i := fun i hi => by rw [e15, zi_u_ni hi, F12 234 i (by unfold fr_M_reads; omega)]
      refine k_M_mostFor I15 c7 (fun v16 h1 h2 h3 h4 => ?_)
      have cw : v16 + 1 = zCw (g 214 6) (g 214 7) v7 := by
        have f := zCw_f (g 214 6) (g 214 7) v7
        omega
      have b16' : -1 ≤ v16 ∧ v16 ≤ 9 := by omega
      refine k_M_readNumber I15 ⟨by decide, by decide⟩ ⟨by omega, by omega⟩ t15.1 t15.2.1 t15.2.2.1 (fun v19 g20 I20 F20 j1 j2 j3 j4 j5 j6 y20 => ⟨⟨by omega, by omega⟩, ?_⟩)
      have G20 := zk_ft G15 F20 sN
      intro g23 e23
      have I23 : zk_I g23 := by rw [e23]; exact zk_u234 I20 (by omega) ⟨by omega, by omega⟩
      have G23 : zk_fr fr_M_readDeed g g23 := by rw [e23]; exact zk_fu G20 (Or.inl rfl)
      have t23 := st e23 ⟨j3, j4, j5, by have := t15.2.2.2; omega⟩
      have r23 : ∀ i : Int, ¬ i = l1 + 2 → g23 234 i = g15 234 i := fun i hi => by rw [e23, zi_u_ni hi, F20 234 i (by unfold fr_M_readNumber; omega)]
      have q23 : g23 234 (l1 + 2) = v19 := by rw [e23, zi_u_eq]
      have q15 : g23 234 (l1 + 1) = v7 := by rw [r23 _ (by omega), e15, zi_u_eq]
      have q5 : g23 234 l1 = v1 := by rw [r23 _ (by omega), r15 _ (by omega), v5]
      have rr : ∀ i : Int, i < l1 → g23 234 i = g 234 i := fun i hi => by rw [r23 _ (by omega), r15 _ (by omega)]; exact r5 i hi
      have m23 : g23 214 6 = g 214 6 := by rw [e23, zi_u_ne (by decide), F20 214 6 (by unfold fr_M_readNumber; omega)]; exact m6
      have L20 : ∀ (T : zyT) (n : Int), zyDp T g n → zyPg T (g 214 6) (g 214 7) n (zyPP T n) 3 = zyN T (v16 + 1) (zyPP T n + 3) ∧ zyQ 1000000004 T g20 (zyPP T n + 3) (zyN T (v16 + 1) (zyPP T n + 3)) ∧ (zyN T (v16 + 1) (zyPP T n + 3) = 0 → v19 = T.2.1 (zyPP T n + 3)) ∧ (¬ zyN T (v16 + 1) (zyPP T n + 3) = 0 → v19 = -1) := fun T n h => by
        obtain ⟨h1, -, -, -, h5⟩ := L12 T n h
        exact ⟨by rw [zyPg_3, ← h1, cw], y20 1000000004 T _ hr (zyR_u h5 e15 ⟨by decide, by decide⟩) h.2.1⟩
      rw [q23]
      refine ⟨⟨by omega, by omega⟩, fun ne19 => ?_, fun e19 => ?_⟩
      · have L23 : ∀ (T : zyT) (n : Int), zyDp T g n → v7 = T.2.1 (zyPP T n + 2) ∧ (∀ k : Int, 1 ≤ k → k < 4 → zyPg T (g 214 6) (g 214 7) n (zyPP T n) k = 0) ∧ v1 = T.2.1 (zyPP T n + 1) ∧ v19 = T.2.1 (zyPP T n + 3) ∧ zyR 1000000004 T g23 (zyPP T n + 4) := fun T n h => by
          obtain ⟨h1, -, h3, h4, -⟩ := L12 T n h
          obtain ⟨u0, u1, u2, u3⟩ := L20 T n h
          have z : zyN T (v16 + 1) (zyPP T n + 3) = 0 := Classical.byContradiction (fun q => ne19 (u3 q))
          have R := zyR_u (u1.1 z) e23 ⟨by decide, by decide⟩
          rw [show zyPP T n + 3 + 1 = zyPP T n + 4 by omega] at R
          exact ⟨h1, zyZ_2 h3 (by decide) (u0.trans z), h4, u2 z, R⟩
        have hw : zCw (g 214 6) (g 214 7) v7 = v16 + 1 := cw.symm
        have fC := zCw_f (g 214 6) (g 214 7) v7
        -- behind what is named besides
        have tail : ∀ (v : Int) (x : zi_M), zk_I x → zk_fr fr_M_readDeed g x → (x 214 14 ≤ x 214 13 ∧ x 214 15 ≤ x 214 14 ∧ zt3 x ∧ g 214 15 ≤ x 214 15) → (∀ i : Int, x 234 i = g23 234 i) → (-1 ≤ v ∧ v ≤ 100000) → (¬ v = -1 → zj_deed v7 v19 v) → (∀ (T : zyT) (n : Int), zyDp T g n → (v = -1 → zyDf T (g 214 6) (g 214 7) n 1 (zyG T x)) ∧ (¬ v = -1 → (∀ k : Int, 1 ≤ k → k < zyPl (T.2.1 (zyPP T n + 2)) - 1 → zyPg T (g 214 6) (g 214 7) n (zyPP T n) k = 0) ∧ zyR 1000000004 T x (zyPP T n + (zyPl (T.2.1 (zyPP T n + 2)) - 1)) ∧ v = zyPx T (zyPP T n))) → ((0 ≤ (l1 + 3) ∧ (l1 + 3) < 128) ∧ (∀ g29, g29 = zi_u x 234 (l1 + 3) v → (zi_r (g29 234 (l1 + 3)) ∧ ((¬ (g29 234 (l1 + 3)) = (-1) → w_M_readMark 59 g29 (fun v31 g32 => Q v31 g32)) ∧ ((g29 234 (l1 + 3)) = (-1) → Q (-1) g29))))) := by
          intro v x Ix Fx tx rx bv hj hp
          refine ⟨⟨by omega, by omega⟩, ?_⟩
          intro g29 e29
          have I29 : zk_I g29 := by rw [e29]; exact zk_u234 Ix (by omega) ⟨by omega, by omega⟩
          have G29 : zk_fr fr_M_readDeed g g29 := by rw [e29]; exact zk_fu Fx (Or.inl rfl)
          have t29 := st e29 tx
          have r29 : ∀ i : Int, ¬ i = l1 + 3 → g29 234 i = g23 234 i := fun i hi => by rw [e29, zi_u_ni hi]; exact rx i
          have q29 : g29 234 (l1 + 3) = v := by rw [e29, zi_u_eq]
          have rs : ∀ i : Int, i < l1 → g29 234 i = g 234 i := fun i hi => by rw [r29 _ (by omega)]; exact rr i hi
          rw [q29]
          refine ⟨⟨by omega, by omega⟩, fun ne => ?_, fun e => ?_⟩
          · refine mark g29 v7 v19 v I29 G29 t29 rs ⟨by rw [r29 _ (by omega)]; exact q15, by rw [r29 _ (by omega)]; exact q23, q29⟩ (hj ne) (fun T n h => ?_)
            obtain ⟨h1, -, h3, h4, -⟩ := L23 T n h
            obtain ⟨w1, w2, w3⟩ := (hp T n h).2 ne
            exact ⟨w1, zyR_u w2 e29 ⟨by decide, by decide⟩, by rw [r29 _ (by omega), q5]; exact h3, h1, h4, w3⟩
          · exact bad (-1) g29 rfl I29 G29 t29 rs (fun T n h => zG e29 ((hp T n h).1 e))
        have at_ : (v7 = 0 ∨ v7 = 2) → w_M_readTold 20 0 ((g23 214 6) - 1) g23 (fun v25 g26 => ((0 ≤ (l1 + 3) ∧ (l1 + 3) < 128) ∧ (∀ g29, g29 = zi_u g26 234 (l1 + 3) v25 → (zi_r (g29 234 (l1 + 3)) ∧ ((¬ (g29 234 (l1 + 3)) = (-1) → w_M_readMark 59 g29 (fun v31 g32 => Q v31 g32)) ∧ ((g29 234 (l1 + 3)) = (-1) → Q (-1) g29)))))) := by
          intro hv
          rw [m23]
          refine k_M_readTold I23 ⟨by decide, by decide⟩ ⟨by decide, by decide⟩ ⟨by omega, by omega⟩ t23.1 t23.2.1 t23.2.2.1 (fun v25 g26 I26 F26 i1 i2 i3 i4 i5 i6 y26 => ?_)
          refine tail v25 g26 I26 (zk_ft G23 F26 sT) ⟨i3, i4, i5, by have := t23.2.2.2; omega⟩ (fun i => F26 234 i (by unfold fr_M_readTold; omega)) i1 (fun ne => ?_) (fun T n h => ?_)
          · unfold zj_deed
            omega
          · obtain ⟨h1, h2, -, -, h5⟩ := L23 T n h
            have w : T.2.1 (zyPP T n + 2) = 0 ∨ T.2.1 (zyPP T n + 2) = 2 := by rw [← h1]; exact hv
            have u := y26 1000000004 T _ 8 hr (by decide) (by omega) z4.2.2.2.1.symm h5 h.2.1
            rw [show g 214 6 - 1 + 1 = g 214 6 by omega, show zyPP T n + 4 + 1 = zyPP T n + 5 by omega, ← zyPg_4a (sp := g 214 6) (si := g 214 7) (n := n) w, ← zyPg_5a (sp := g 214 6) (si := g 214 7) (n := n) w] at u
            rw [zyPl_2 w, show (7 : Int) - 1 = 6 from rfl, zyPx_a w]
            refine ⟨fun q => ?_, fun ne => ?_⟩
            · by_cases z : zyPg T (g 214 6) (g 214 7) n (zyPP T n) 4 = 0
              · have u2 := u.2 z
                have z5 : ¬ zyPg T (g 214 6) (g 214 7) n (zyPP T n) 5 = 0 := fun y => by
                  have v := u2.2.1 y
                  have kk := (zyN_0.1 ((zyPg_5a w).symm.trans y)).1
                  have := h.2.1.2.2.2 (zyPP T n + 5) (by have := zyPP_b (T := T) (n := n); omega) (by have := (u2.1.1 y).2.1.2; omega) kk
                  omega
                exact zyDf_o (o := 5) ⟨by decide, by rw [zyPl_2 w]; decide⟩ (zyZ_2 h2 (by decide) z) z5 (u2.1.2 z5)
              · exact zyDf_o (o := 4) ⟨by decide, by rw [zyPl_2 w]; decide⟩ h2 z (u.1 z).2
            · have z : zyPg T (g 214 6) (g 214 7) n (zyPP T n) 4 = 0 := Classical.byContradiction (fun q => ne (u.1 q).1)
              have u2 := u.2 z
              have z5 : zyPg T (g 214 6) (g 214 7) n (zyPP T n) 5 = 0 := Classical.byContradiction (fun q => ne (u2.2.2 q))
              have R := u2.1.1 z5
              rw [show zyPP T n + 5 + 1 = zyPP T n + 6 by omega] at R
              exact ⟨zyZ_2 (zyZ_2 h2 (by decide) z) (by decide) z5, R, u2.2.1 z5⟩
        refine ⟨fun e0 => at_ (Or.inl e0), fun n0 => ⟨fun n2 => ⟨fun n6 => ?_, fun e6 => ?_⟩, fun e2 => at_ (Or.inr e2)⟩⟩
        · refine tail 0 g23 I23 G23 t23 (fun _ => rfl) ⟨by decide, by decide⟩ (fun _ => ?_) (fun T n h => ⟨fun q => absurd q (by decide), fun _ => ?_⟩)
          · unfold zj_deed
            omega
          · obtain ⟨h1, h2, -, -, h5⟩ := L23 T n h
            have w1 : ¬ (T.2.1 (zyPP T n + 2) = 0 ∨ T.2.1 (zyPP T n + 2) = 2) := by omega
            have w2 : ¬ T.2.1 (zyPP T n + 2) = 6 := by omega
            rw [zyPl_n w1 w2, show (5 : Int) - 1 = 4 from rfl, zyPx_e w1 w2]
            exact ⟨h2, h5, rfl⟩
        · refine k_M_readNumber I23 ⟨by decide, by decide⟩ ⟨by decide, by decide⟩ t23.1 t23.2.1 t23.2.2.1 (fun v42 g43 I43 F43 i1 i2 i3 i4 i5 i6 y43 => ?_)
          refine tail v42 g43 I43 (zk_ft G23 F43 sN) ⟨i3, i4, i5, by have := t23.2.2.2; omega⟩ (fun i => F43 234 i (by unfold fr_M_readNumber; omega)) i1 (fun ne => ?_) (fun T n h => ?_)
          · unfold zj_deed
            omega
          · obtain ⟨h1, h2, -, -, h5⟩ := L23 T n h
            have w : T.2.1 (zyPP T n + 2) = 6 := by omega
            have u := y43 1000000004 T _ hr h5 h.2.1
            rw [show (15 : Int) + 1 = 16 from rfl, ← zyPg_4t (sp := g 214 6) (si := g 214 7) (n := n) w] at u
            rw [zyPl_6 w, show (6 : Int) - 1 = 5 from rfl, zyPx_t w]
            refine ⟨fun q => ?_, fun ne => ?_⟩
            · have z : ¬ zyPg T (g 214 6) (g 214 7) n (zyPP T n) 4 = 0 := fun y => by
                have v := u.2.1 y
                have kk := (zyN_0.1 ((zyPg_4t w).symm.trans y)).1
                have := h.2.1.2.2.2 _ h5.2.1.1 h5.2.1.2 kk
                omega
              exact zyDf_o (o := 4) ⟨by decide, by rw [zyPl_6 w]; decide⟩ h2 z (u.1.2 z)
            · have z : zyPg T (g 214 6) (g 214 7) n (zyPP T n) 4 = 0 := Classical.byContradiction (fun q => ne (u.2.2 q))
              have R := u.1.1 z
              rw [show zyPP T n + 4 + 1 = zyPP T n + 5 by omega] at R
              exact ⟨zyZ_2 h2 (by decide) z, R, u.2.1 z⟩
      · refine bad (-1) g23 rfl I23 G23 t23 rr (fun T n h => ?_)
        obtain ⟨-, -, h3, -, h5⟩ := L12 T n h
        obtain ⟨u0, u1, u2, u3⟩ := L20 T n h
        have z : ¬ zyN T (v16 + 1) (zyPP T n + 3) = 0 := fun q => by
          have v := u2 q
          have kk := (zyN_0.1 q).1
          have := h.2.1.2.2.2 _ h5.2.1.1 h5.2.1.2 kk
          omega
        have b := zyPl_b (T.2.1 (zyPP T n + 2))
        exact zG e23 (zyDf_o (o := 3) ⟨by decide, by omega⟩ h3 (by rw [u0]; exact z) (by rw [u0]; exact u1.2 z))
    · refine k_M_errs I5 ⟨by decide, by decide⟩ (fun v g' I' F' c d x => ?_)
      have k13 : g' 214 13 = g5 214 13 := F' 214 13 (by unfold fr_M_errs; omega)
      have k14 : g' 214 14 = g5 214 14 := F' 214 14 (by unfold fr_M_errs; omega)
      have k15 : g' 214 15 = g5 214 15 := F' 214 15 (by unfold fr_M_errs; omega)
      refine bad v g' (by omega) I' (zk_ft G5 F' sE) ⟨by have := t5.1; omega, by have := t5.2.1; omega, d t5.2.2.1, by have := t5.2.2.2; omega⟩ (fun i hi => by rw [F' 234 i (by unfold fr_M_errs; omega)]; exact r5 i hi) (fun T n h => ?_)
      obtain ⟨h1, h2, h3⟩ := L5 T n h
      have k := (zyR_d h3 b16 d2 d3 d4).2 e7
      have z : zyPg T (g 214 6) (g 214 7) n (zyPP T n) 2 = 1 := zyPg_2n k
      have b := zyPl_b (T.2.1 (zyPP T n + 2))
      exact zyDf_o (o := 2) ⟨by decide, by omega⟩ (zyZ_2 zyZ_0 (by decide) h1) (by rw [z]; decide) (by rw [z]; exact x _ _ _ h3)
  · refine bad (-1) g5 rfl I5 G5 t5 r5 (fun T n h => ?_)
    have z1 := N2 T n h e1
    have b := zyPl_b (T.2.1 (zyPP T n + 2))
    exact zG e5 (zyDf_o (o := 1) ⟨by decide, by omega⟩ zyZ_0 z1 ((L2 T n h).1.2 z1))

-- SpoutNewsModel.readPlan()I
theorem k_M_readPlan_l2 {T : zyT} (hE : zyE T) {g0 : zi_M} {K17 K37 : zi_M → Prop} {K46 : Int → zi_M → Prop} {Q : Int → zi_M → Prop}
    (h17 : ∀ g : zi_M, zk_I g → zk_fr fr_M_readPlan g0 g → (∀ i : Int, i < 64 → g 234 i = g0 234 i) → zyR 1000000004 T g (zyPP T 16) → zyPi T (g0 214 6) (g0 214 7) 16 0 → zyPg T (g0 214 6) (g0 214 7) 16 (zyPP T 16) 0 = 3 → K17 g)
    (hF : ∀ (g : zi_M) (n o : Int), zk_I g → zk_fr fr_M_readPlan g0 g → (∀ i : Int, i < 64 → g 234 i = g0 234 i) → zyPi T (g0 214 6) (g0 214 7) n o → ¬ zyPg T (g0 214 6) (g0 214 7) n (zyPP T n) o = -1 → zyG T g (zyPg T (g0 214 6) (g0 214 7) n (zyPP T n) o) (zyPP T n + o) → K37 g)
    (hN : ∀ (n : Int) (g : zi_M), zk_I g → zk_fr fr_M_readPlan g0 g → (∀ i : Int, i < 64 → g 234 i = g0 234 i) → 0 ≤ n → n ≤ 16 → zd g n → zyR 1000000004 T g (zyPP T n) → zyPr T g n → (∀ m : Int, 0 ≤ m → m < n → ∀ k : Int, 0 ≤ k → k < zyPl (T.2.1 (zyPP T m + 2)) → zyPg T (g0 214 6) (g0 214 7) m (zyPP T m) k = 0) → ¬ (T.1 (zyPP T n) = 2 ∧ T.2.1 (zyPP T n) = 7) → K46 n g) :
    ∀ (m : Nat) (l1 : Int) (g : zi_M), zk_I g → zk_fr fr_M_readPlan g0 g → (∀ i : Int, i < 64 → g 234 i = g0 234 i) → (g 214 14 ≤ g 214 13 ∧ g 214 15 ≤ g 214 14 ∧ zt3 g) → (0 ≤ l1 ∧ l1 ≤ 16) → zd g l1 → zyR 1000000004 T g (zyPP T l1) → zyPr T g l1 → (∀ m : Int, 0 ≤ m → m < l1 → ∀ k : Int, 0 ≤ k → k < zyPl (T.2.1 (zyPP T m + 2)) → zyPg T (g0 214 6) (g0 214 7) m (zyPP T m) k = 0) → 16 - l1 < (m : Int) → w_M_readPlan_l2 K17 K37 K46 Q m l1 g
  | 0, l1, g, I, F, hk, hq, hl, hd, hc, hw, hz, hm => by exfalso; omega
  | m + 1, l1, g, I, F, hk, hq, hl, hd, hc, hw, hz, hm => by
    have hr : zs_str 1000000004 := rfl
    have z4 := zyk4
    have e6 : g 214 6 = g0 214 6 := F 214 6 (by unfold fr_M_readPlan; omega)
    have e7 : g 214 7 = g0 214 7 := F 214 7 (by unfold fr_M_readPlan; omega)
    unfold w_M_readPlan_l2
    refine k_M_isWord I ⟨by decide, by decide⟩ (fun v1 a1 a2 a3 => ⟨fun e => ?_, fun ne => ⟨⟨by omega, by omega⟩, fun n16 => ?_, fun e16 => ?_⟩⟩)
    · exact hN l1 g I F hk hl.1 hl.2 hd hc hw hz (fun q => by
        have k := (zyR_w (w := 18) (j := 7) hr hc ⟨by decide, by omega⟩ z4.2.2.1.symm).2 q
        omega)
    · have k := (zyR_w (w := 18) (j := 7) hr hc ⟨by decide, by omega⟩ z4.2.2.1.symm).1 (by omega)
      have y0 : zyPg T (g0 214 6) (g0 214 7) l1 (zyPP T l1) 0 = 0 := (zyPg_0 (by omega)).trans (zyL_0.2 ⟨k, by omega⟩)
      refine k_M_readDeed I ⟨by omega, by omega⟩ hq.1 hq.2.1 hq.2.2 (fun v5 g6 I6 F6 c1 c2 c3 c4 c5 c6 c7 x => ⟨⟨by omega, by omega⟩, fun ne => ?_, fun e => ?_⟩)
      · have G6 := zk_ft F F6 (fun a i h => h)
        have u := x T l1 ⟨hc, hE, hl.1, k⟩
        rw [e6, e7] at u
        rcases u with u | ⟨-, u1, u2, u3, u4, u5, u6⟩
        · exact absurd u.1 ne
        · refine k_M_readPlan_l2 hE h17 hF hN m (l1 + 1) g6 I6 G6 (fun i hi => by rw [c7 i (by omega)]; exact hk i hi) ⟨c2, c3, c4⟩ ⟨by omega, by omega⟩ (zd_step hd (fun i hi => c7 i hi) (c6 ne)) (by rw [zyPP_s hl.1]; exact u2) (fun k k0 k1 => ?_) (zyPm_s hz y0 u1) (by omega)
          by_cases q : k = l1
          · rw [q]; exact ⟨u3, u4, u5, u6⟩
          · rw [c7 _ (by omega), c7 _ (by omega), c7 _ (by omega), c7 _ (by omega)]
            exact hw k k0 (by omega)
      · have G6 := zk_ft F F6 (fun a i h => h)
        have u := x T l1 ⟨hc, hE, hl.1, k⟩
        rw [e6, e7] at u
        rcases u with u | u
        · obtain ⟨o, w1, w2, w3⟩ := zyPi_f hl.1 hz y0 u.2
          exact hF g6 l1 o I6 G6 (fun i hi => by rw [c7 i (by omega)]; exact hk i hi) w1 w2 w3
        · exfalso; have := u.1; omega
    · have k := (zyR_w (w := 18) (j := 7) hr hc ⟨by decide, by omega⟩ z4.2.2.1.symm).1 (by omega)
      have y0 : zyPg T (g0 214 6) (g0 214 7) l1 (zyPP T l1) 0 = 3 := (zyPg_0 (by omega)).trans (zyL_3 k (by omega))
      rw [e16] at hc hz y0
      exact h17 g I F hk hc (zyPi_0 (by decide) hz (by rw [y0]; decide)) y0
theorem k_M_readPlan {g : zi_M} {Q : Int → zi_M → Prop} (I : zk_I g) (px0 : g 214 14 ≤ g 214 13) (px1 : g 214 15 ≤ g 214 14) (px2 : zt3 g) (px3 : zyR 1000000004 (zyM g) g 0 ∧ zyE (zyM g)) (hQ : ∀ (v : Int) (g' : zi_M), zk_I g' → zk_fr fr_M_readPlan g g' → ((-1) ≤ v ∧ v ≤ 16) → (¬ v = -1 → zd g' v) → (∀ i : Int, i < 64 → g' 234 i = g 234 i) → (zyPM (zyM g) (g 214 6) (g 214 7) g' v) → Q v g') : w_M_readPlan g Q := by
  unfold w_M_readPlan
  have hr : zs_str 1000000004 := rfl
  refine ⟨17, k_M_readPlan_l2 px3.2 (g0 := g) (fun g26 I26 F26 hk hc hi hy => ?_) (fun g' n o I' F' hk hi hn hf => ?_) (fun n g33 I33 F33 hk n0 n16 hd hc hw hz hno => ?_) 17 0 g I (zk_f0 _) (fun _ _ => rfl) ⟨px0, px1, px2⟩ ⟨by decide, by decide⟩ (zd_0 _) px3.1 (fun k k0 k1 => by exfalso; omega) (fun k k0 k1 => by exfalso; omega) (by omega)⟩
  · refine k_M_errs I26 ⟨by decide, by decide⟩ (fun v g' I' F' c d x => ?_)
    have y := x _ _ _ hc
    exact hQ v g' I' (zk_ft F26 F' (fun a i h => by unfold fr_M_errs at h; unfold fr_M_readPlan; omega)) ⟨by omega, by omega⟩ (fun q => by exfalso; omega) (fun i hi => by rw [F' 234 i (by unfold fr_M_errs; omega)]; exact hk i hi) ⟨16, 0, hi, fun q => by omega, fun _ => ⟨by omega, by rw [hy, Int.add_zero]; exact y⟩⟩
  · exact hQ (-1) g' I' F' ⟨by decide, by decide⟩ (fun q => absurd rfl q) hk ⟨n, o, hi, fun q => absurd q hn, fun _ => ⟨rfl, hf⟩⟩
  · have b16 : 0 ≤ g33 214 16 ∧ g33 214 16 ≤ 4 := I33.1 214 16
    refine ⟨⟨by omega, by omega⟩, fun ne => ?_, fun e => ?_⟩
    · have k4 : ¬ (zyM g).1 (zyPP (zyM g) n) = 4 := fun q => ne ((zyR_k hr hc).1.2 q)
      have y0 : zyPg (zyM g) (g 214 6) (g 214 7) n (zyPP (zyM g) n) 0 = 1 := (zyPg_0 k4).trans (zyL_1 hno)
      refine k_M_errs I33 ⟨by decide, by decide⟩ (fun v g' I' F' c d x => ?_)
      have y := x _ _ _ hc
      exact hQ v g' I' (zk_ft F33 F' (fun a i h => by unfold fr_M_errs at h; unfold fr_M_readPlan; omega)) ⟨by omega, by omega⟩ (fun q => by exfalso; omega) (fun i hi => by rw [F' 234 i (by unfold fr_M_errs; omega)]; exact hk i hi) ⟨n, 0, zyPi_0 n0 hz (by rw [y0]; decide), fun q => by omega, fun _ => ⟨by omega, by rw [y0, Int.add_zero]; exact y⟩⟩
    · have k4 : (zyM g).1 (zyPP (zyM g) n) = 4 := (zyR_k hr hc).1.1 e
      have y0 : zyPg (zyM g) (g 214 6) (g 214 7) n (zyPP (zyM g) n) 0 = -1 := zyPg_e k4
      exact hQ n g33 I33 F33 ⟨by omega, by omega⟩ (fun _ => hd) hk ⟨n, 0, zyPi_0 n0 hz (by rw [y0]; decide), fun _ => ⟨rfl, hw⟩, fun q => absurd y0 q⟩

