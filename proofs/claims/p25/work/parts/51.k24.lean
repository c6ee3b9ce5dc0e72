-- by program (wip/gen/mkz.py)
-- SpoutNewsModel.waits(I)V
theorem k_M_waits {l1 : Int} {g : zi_M} {Q : Int → zi_M → Prop} (I : zk_I g) (p1 : 9 ≤ l1 ∧ l1 ≤ 12) (px0 : g 214 30 ≤ 39) (hQ : ∀ g' : zi_M, zk_I g' → zk_fr fr_M_waits g g' → (g' 214 30 = g 214 30 + 1) → (g' 231 (g 214 30) = l1) → (∀ i : Int, ¬ i = g 214 30 → g' 231 i = g 231 i) → Q 0 g') : w_M_waits l1 g Q := by
  unfold w_M_waits
  have h0 : 0 ≤ g 214 30 := (I.1 214 30).1
  refine ⟨⟨by omega, by omega⟩, ?_⟩
  intro g2 e2
  have I2 : zk_I g2 := by rw [e2]; exact zk_upd (L := -2147483648) (H := 2147483647) rfl rfl I ⟨by omega, by omega⟩
  have a1 : g2 214 30 = g 214 30 := by rw [e2]; exact zi_u_ne (by decide)
  intro g3 e3
  have I3 : zk_I g3 := by rw [e3]; exact zk_upd (L := 0) (H := 40) rfl rfl I2 ⟨by omega, by omega⟩
  have F2 : zk_fr fr_M_waits g g2 := by rw [e2]; exact zk_fu (zk_f0 _) (Or.inl rfl)
  have F3 : zk_fr fr_M_waits g g3 := by rw [e3]; exact zk_fu F2 (Or.inr ⟨rfl, rfl⟩)
  refine hQ g3 I3 F3 ?_ ?_ ?_
  · rw [e3, zi_u_eq, a1]
  · rw [e3, zi_u_ne (by decide), e2, zi_u_eq]
  · intro i hi
    rw [e3, zi_u_ne (by decide), e2, zi_u_ni hi]

-- SpoutNewsModel.readCompared()I
theorem k_M_readCompared {g : zi_M} {Q : Int → zi_M → Prop} (I : zk_I g) (px0 : zy g) (hQ : ∀ (v : Int) (g' : zi_M), zk_I g' → zk_fr fr_M_readCompared g g' → ((-1) ≤ v ∧ v ≤ 0) → (¬ v = -1 → zx 1 0 g g') → (zmcn zCp v g g') → Q v g') : w_M_readCompared g Q := by
  have b43 : ∀ (g2 : zi_M) (v1 : Int), zx 1 0 g g2 → zmcn zSu v1 g g2 → ¬ v1 = -1 → g2 214 16 = 4 → (g2 214 17 = 60 ∨ g2 214 17 = 61 ∨ g2 214 17 = 62) → w_M_readCompared_b43 g2 Q := by
    intro g2 v1 x su nv ht hv
    have I2 := x.I
    have a1 := x.fs; have a2 := x.sp
    have hlt := x.t3.1 (by omega)
    have b73 : ∀ w : Int, 6 ≤ w ∧ w ≤ 8 → ((w = 6 ∧ g2 214 16 = 4 ∧ g2 214 17 = 60) ∨ (w = 7 ∧ g2 214 16 = 4 ∧ g2 214 17 = 61) ∨ (w = 8 ∧ g2 214 16 = 4 ∧ g2 214 17 = 62)) → w_M_readCompared_b73 w g2 Q := by
      intro w hw sw
      unfold w_M_readCompared_b73
      refine k_M_reads I2 x.sp (fun g12 I12 F12 p1 p2 p3 p4 tn => ?_)
      have st := zstm_of F12 tn
      have x1 : zx 0 1 g2 g12 := zx_rd I12 F12 p1 p2 p3 p4 (by omega) (by omega)
      have x2 : zx 1 1 g g12 := x.t x1
      have y12 := x2.y (by decide) px0.cf
      refine k_M_readSum I12 y12 (fun v15 g16 I16 F16 hv15 hx cn => ⟨⟨by omega, by omega⟩, fun n1 => ?_, fun e1 => hQ _ _ I16 (zk_ft x2.fr F16 (fun _ _ e => e)) ⟨by decide, by decide⟩ (fun n => absurd rfl n) ((zMc_u su nv sw st F12 cn).1 e1)⟩)
      have x3 := hx n1
      have x4 : zx 2 1 g g16 := x2.t x3
      have z1 := x4.fs; have z2 := x4.sp
      have z3 : g16 214 13 ≤ 400 := (I16.1 214 13).2
      have z4 := x4.cf
      have z5 := px0.cf
      refine k_M_emits I16 ⟨by omega, by omega⟩ ⟨by decide, by decide⟩ (by omega) (fun g5 I5 F5 c5 o5 a5 r5 => ?_)
      have x5 : zx 1 (1 - 1) g g5 := zx_em x4 I5 F5 c5 o5 a5 r5 ⟨by omega, by omega⟩ (fun q => by omega) (fun q => by omega) (fun _ _ => by omega) (fun q => by omega) (by rw [if_neg (by omega), if_neg (by omega)]; rfl)
      exact hQ _ _ I5 x5.fr ⟨by decide, by decide⟩ (fun _ => x5) ((zMc_u su nv sw st F12 cn).2 n1 g5 (zEm_1 (I16.1 214 27).1 c5 o5 a5 r5) F5)
    unfold w_M_readCompared_b43
    exact ⟨zk_rng I2 _ _, fun n60 => ⟨fun n61 => b73 8 ⟨by decide, by decide⟩ (Or.inr (Or.inr ⟨rfl, ht, by omega⟩)), fun e61 => b73 7 ⟨by decide, by decide⟩ (Or.inr (Or.inl ⟨rfl, ht, e61⟩))⟩, fun e60 => b73 6 ⟨by decide, by decide⟩ (Or.inl ⟨rfl, ht, e60⟩)⟩
  unfold w_M_readCompared
  refine k_M_readSum I px0 (fun v1 g2 I2 F2 hv1 hx su => ⟨⟨by omega, by omega⟩, fun n1 => ?_, fun e1 => hQ _ _ I2 F2 ⟨by decide, by decide⟩ (fun n => absurd rfl n) (zMc_f su e1)⟩)
  have x := hx n1
  refine k_M_isSign I2 ⟨by decide, by decide⟩ (fun v5 c1 c2 c3 => ⟨fun n2 => b43 _ _ x su n1 (by omega) (by omega), fun e => ?_⟩)
  refine k_M_isSign I2 ⟨by decide, by decide⟩ (fun v6 d1 d2 d3 => ⟨fun n2 => b43 _ _ x su n1 (by omega) (by omega), fun e => ?_⟩)
  refine k_M_isSign I2 ⟨by decide, by decide⟩ (fun v7 f1 f2 f3 => ⟨fun n2 => b43 _ _ x su n1 (by omega) (by omega), fun e => ?_⟩)
  refine k_M_errs I2 ⟨by decide, by decide⟩ (fun v g'' I'' F'' hv _ er => ?_)
  exact hQ _ _ I'' (zk_ft x.fr F'' fr_XP) ⟨by omega, by omega⟩ (fun n => by omega) (zMc_1 su n1 (by omega) (by omega) (by omega) (by omega) er (zlo_x F''))

-- SpoutNewsModel.readAny()I
theorem k_M_readAny_l9 {g0 : zi_M} {K42 K96 K189 K200 : zi_M → Prop} {Q : Int → zi_M → Prop} (hK42 : ∀ g, zk_I g → zk_fr fr_A g0 g → zAf 3 g0 g → K42 g) (hK96 : ∀ g, zk_I g → zk_fr fr_A g0 g → zmcn zCnd (-1) g0 g → K96 g) (hK200 : ∀ g, zk_I g → zk_fr fr_A g0 g → zAf 1 g0 g → K200 g) (hK189 : ∀ g, zz g0 g → zmcn zCnd 0 g0 g → K189 g) :
    ∀ (n : Nat) (l1 l2 : Int) (P : List Int) (g : zi_M), (l2 = 0 ∨ l2 = 1) → zA l1 (1 - l2) P g0 g → zAn l2 P g0 g → (l2 = 0 → zl_top P ≠ 9) → 2 * (400 - g 214 15) + l2 < (n : Int) → w_M_readAny_l9 K42 K96 K189 K200 Q n l1 l2 g
  | 0, l1, l2, P, g, hl, h, an, ht, hm => by
    have a1 := h.fs; have a2 := h.sp
    have a3 : g 214 13 ≤ 400 := (h.I.1 214 13).2
    exfalso; omega
  | n + 1, l1, l2, P, g, hl, h, an, ht, hm => by
    have I := h.I
    have a1 := h.fs; have a2 := h.sp; have a3 := h.cf
    have a4 : g 214 13 ≤ 400 := (I.1 214 13).2
    have ln := h.len
    have q1 := h.q.1
    have c0 : 0 ≤ g 214 27 := (I.1 214 27).1
    have go := @k_M_readAny_l9 g0 K42 K96 K189 K200 Q hK42 hK96 hK200 hK189 n
    have br0 := zl_of0 12 12 P
    have hbr := h.br
    unfold w_M_readAny_l9
    refine ⟨⟨by omega, by omega⟩, fun e0 => ?_, fun n0 => ?_⟩
    · -- what binds is looked for
      rw [e0] at h an
      have ht0 := ht e0
      have h1 : zA l1 1 P g0 g := h
      -- settling of what binds stronger
      have s10 : ∀ K : zi_M → Prop, (∀ g', zA l1 1 (zl_drop 10 P) g0 g' → g' 214 15 = g 214 15 → g' 214 14 = g 214 14 → g' 214 16 = g 214 16 → g' 214 17 = g 214 17 → zk_fr fr_S g g' → zEm (zdl 10 P) g g' → K g') → w_M_settles 10 g (fun _ g' => K g') := by
        intro K hK
        refine k_M_settles I ⟨by decide, by decide⟩ ⟨P, h.q, by omega, fun q => absurd q (by decide)⟩ (fun g' I' F' s sm => hK g' (h1.s (Or.inr (Or.inl rfl)) (s P h.q)) ?_ ?_ ?_ ?_ (s P h.q).fr (sm P h.q)) <;> exact F' _ _ (by unfold fr_M_settles; omega)
      have s11 : ∀ (g' : zi_M) (K : zi_M → Prop), zA l1 1 (zl_drop 10 P) g0 g' → (∀ g'', zA l1 1 (zl_drop 11 (zl_drop 10 P)) g0 g'' → g'' 214 15 = g' 214 15 → g'' 214 14 = g' 214 14 → g'' 214 16 = g' 214 16 → g'' 214 17 = g' 214 17 → zk_fr fr_S g' g'' → zEm (zdl 11 (zl_drop 10 P)) g' g'' → K g'') → w_M_settles 11 g' (fun _ g'' => K g'') := by
        intro g' K hz hK
        have z1 := hz.fs; have z2 := hz.sp; have z3 := hz.cf
        have z4 : g' 214 13 ≤ 400 := (hz.I.1 214 13).2
        refine k_M_settles hz.I ⟨by decide, by decide⟩ ⟨_, hz.q, by omega, fun q => absurd q (by decide)⟩ (fun g'' I' F' s sm => hK g'' (hz.s (Or.inr (Or.inr rfl)) (s _ hz.q)) ?_ ?_ ?_ ?_ (s _ hz.q).fr (sm _ hz.q)) <;> exact F' _ _ (by unfold fr_M_settles; omega)
      have ps : ∀ (x : Int) (P' : List Int) (g' : zi_M), (x = 10 ∨ x = 11) → zA l1 1 P' g0 g' → zl_ok 9 10 11 12 (x :: P') → g' 214 15 = g 214 15 → g' 214 15 < g' 214 14 → (∀ g36 g39 : zi_M, (∀ (a : Nat) (i : Int), ¬ a = 231 → ¬ (a = 214 ∧ i = 30) → g36 a i = g' a i) → zk_fr fr_M_reads g36 g39 → zstm g36 g39 → zAn 1 (x :: P') g0 g39) → w_M_waits x g' (fun _ g36 => w_M_reads g36 (fun _ g39 => w_M_readAny_l9 K42 K96 K189 K200 Q n l1 1 g39)) := by
        intro x P' g' hx hz hok e15 hlt han
        have z1 := hz.len; have z2 := hz.q.1
        refine k_M_waits hz.I ⟨by omega, by omega⟩ (by omega) (fun g36 I36 F36 w1 w2 w3 => ?_)
        have F36' : zk_fr fr_A g' g36 := zk_ft (zk_f0 _) F36 fr_WA
        have f13 : g36 214 13 = g' 214 13 := F36 _ _ (by unfold fr_M_waits; omega)
        have f14 : g36 214 14 = g' 214 14 := F36 _ _ (by unfold fr_M_waits; omega)
        refine k_M_reads I36 (by rw [f14, f13]; exact hz.sp) (fun g39 I39 F39 p1 p2 p3 p4 tn => ?_)
        obtain ⟨r1, r2⟩ := hz.p (br' := l1) (e' := 0) (by omega) hok I36 F36' w1 w2 w3 (by rw [if_neg (by omega), F36 _ _ (by unfold fr_M_waits; omega)]; omega) (fun i => ⟨F36 _ _ (by unfold fr_M_waits; omega), F36 _ _ (by unfold fr_M_waits; omega)⟩) (fun i hi => F36 _ _ (by unfold fr_M_waits; omega)) (by rw [if_neg (by omega)]; omega) (by rw [if_pos hx]; rfl) hlt I39 F39 p1 p2 p3 p4
        exact go l1 1 (x :: P') g39 (Or.inr rfl) r1 (han g36 g39 (fun a i n1 n2 => F36 a i (by unfold fr_M_waits; omega)) F39 (zstm_of F39 tn)) (fun q => by omega) (by omega)
      have ok1 := zl_dropok 10 P h1.ok
      have t1 := zl_dropn (n := 9) (a := 10) (o := 11) (b := 12) 10 (by decide) (by decide) (Or.inl rfl) (by decide) (by decide) P h1.ok ht0
      have t2 := zl_dropt 10 (by decide) P
      have t3 := h1.top ht0
      have tk := h.t3
      refine k_M_isWord I ⟨by decide, by decide⟩ (fun v3 d1 d2 d3 => ⟨fun e3 => ?_, fun n3 => ?_⟩)
      · refine k_M_isWord I ⟨by decide, by decide⟩ (fun v6 f1 f2 f3 => ⟨fun e6 => ?_, fun n6 => ?_⟩)
        · refine s10 _ (fun g1 z1 m1 m2 m3 m4 mF mE => s11 g1 _ z1 (fun g2 z2 k1 k2 k3 k4 kF kE => ?_))
          obtain ⟨X1, X2, X3⟩ := zAn_x an h1.ok (by omega) (by omega) mF mE kF kE
          have hbr1 := h1.br
          have brz := z2.br
          refine ⟨⟨by have := zl_of0 12 12 (zl_drop 11 (zl_drop 10 P)); omega, by have := z2.br; have := z2.len; have hh : zl_of 12 12 (zl_drop 11 (zl_drop 10 P)) ≤ (zl_drop 11 (zl_drop 10 P)).length := zl_ofl 12 12 _; omega⟩, fun nl => ?_, fun el => ?_⟩
          · refine k_M_isSign z2.I ⟨by decide, by decide⟩ (fun v16 x1 x2 x3 => ⟨fun n16 => ?_, fun e16 => hK200 _ z2.I z2.fr (X2 (by omega) (by omega))⟩)
            intro g19 e19 g20 e20
            have hP : ∃ t, zl_drop 11 (zl_drop 10 P) = 12 :: t := by
              rcases zl_top_in _ z2.ok with q | q | q | q | q
              · rw [q] at brz; exact absurd brz nl
              · exact absurd q t3.1
              · exact absurd q t3.2.1
              · exact absurd q t3.2.2
              · cases hc : zl_drop 11 (zl_drop 10 P) with
                | nil => rw [hc] at brz; exact absurd brz nl
                | cons x t => rw [hc] at q; have q' : x = 12 := q; exact ⟨t, by rw [q']⟩
            obtain ⟨t, et⟩ := hP
            rw [et] at z2
            have z3 := z2.b e19 e20
            have u1 := z3.fs; have u2 := z3.sp; have u3 := z3.cf
            have u4 : g20 214 13 ≤ 400 := (z3.I.1 214 13).2
            have u5 := z3.op
            have hcn : zl_cnt 9 t ≤ g20 214 28 := by
              have := zl_dropof 9 12 9 t
              rw [if_pos (Or.inl rfl)] at this
              have := zl_of0 9 12 (zl_drop 9 t)
              omega
            have e15 : g20 214 15 = g2 214 15 := by rw [e20, zi_u_ni (by decide), e19, zi_u_ni (by decide)]
            have e14 : g20 214 14 = g2 214 14 := by rw [e20, zi_u_ni (by decide), e19, zi_u_ni (by decide)]
            have lt2 : g2 214 15 < g2 214 14 := z2.t3.1 (by omega)
            refine k_M_settles z3.I ⟨by decide, by decide⟩ ⟨t, z3.q, by omega, fun _ => hcn⟩ (fun g22 I22 F22 s22 sm22 => ?_)
            have z4 := z3.s (Or.inl rfl) (s22 t z3.q)
            have v15 : g22 214 15 = g20 214 15 := F22 _ _ (by unfold fr_M_settles; omega)
            have v14 : g22 214 14 = g20 214 14 := F22 _ _ (by unfold fr_M_settles; omega)
            refine k_M_reads I22 z4.sp (fun g25 I25 F25 p1 p2 p3 p4 tn => ?_)
            have an5 := X3 (by omega) (by omega) t g20 g22 g25 et (fun a i w => by rw [e20, zi_unn (by omega), e19, zi_unn (by omega)]) (s22 t z3.q).fr (sm22 t z3.q) F25 (zstm_of F25 tn)
            have z5 := z4.r I25 F25 p1 p2 p3 p4
            exact go (l1 - 1) l2 _ g25 (Or.inl e0) (by rw [e0]; exact z5) (by rw [e0]; exact an5) (fun _ => zl_dropt 9 (by decide) t) (by omega)
          · refine hK189 _ ?_ (X1 (by omega))
            have hP : zl_drop 11 (zl_drop 10 P) = [] := by
              rcases zl_top_in _ z2.ok with q | q | q | q | q
              · exact q
              · exact absurd q t3.1
              · exact absurd q t3.2.1
              · exact absurd q t3.2.2
              · cases hc : zl_drop 11 (zl_drop 10 P) with
                | nil => rfl
                | cons x t =>
                  rw [hc] at q brz
                  have q' : x = 12 := q
                  have : zl_of 12 12 (x :: t) = zl_of 12 12 t + (if x = 12 ∨ x = 12 then 1 else 0) := rfl
                  rw [this, if_pos (Or.inl q')] at brz
                  have := zl_of0 12 12 t
                  omega
            rw [hP] at z2
            have cf := z2.cf
            have lz : (([] : List Int).length : Int) = 0 := rfl
            exact ⟨z2.I, z2.sp, z2.fs, z2.t3, z2.ff, z2.cc, by omega, z2.fr, z2.lo, z2.op, z2.dp⟩
        · refine s10 _ (fun g1 z1 m1 m2 m3 m4 mF mE => s11 g1 _ z1 (fun g2 z2 k1 k2 k3 k4 kF kE => ?_))
          exact ps 11 _ g2 (Or.inr rfl) z2 ⟨z2.ok, Or.inr (Or.inr (Or.inr ⟨rfl, t3⟩))⟩ (by omega) (z2.t3.1 (by omega)) (fun g36 g39 f2 f3 st => zAn_or an h1.ok (by omega) mF mE kF kE f2 f3 st)
      · refine s10 _ (fun g1 z1 m1 m2 m3 m4 mF mE => ?_)
        exact ps 10 _ g1 (Or.inl rfl) z1 ⟨z1.ok, Or.inr (Or.inr (Or.inl ⟨rfl, t1, t2⟩))⟩ (by omega) (z1.t3.1 (by omega)) (fun g36 g39 f2 f3 st => zAn_and an (by omega) mF mE f2 f3 st)
    · -- a comparison, a not or a bracket is due
      have e1 : l2 = 1 := by omega
      rw [e1] at h an
      have h1 : zA l1 0 P g0 g := h
      have r8 : g 214 28 ≤ 8 := (I.1 214 28).2
      have r0 : 0 ≤ g 214 28 := (I.1 214 28).1
      have b33 : ∀ v : Int, (v = 0 ∨ v = 1) → ¬ g 214 16 = 0 → (v = 1 → g 214 16 = 2 ∧ g 214 17 = 6) → (v = 0 → g 214 16 = 4 ∧ g 214 17 = 40) → w_M_readAny_b33 l1 l2 v g (w_M_readAny_l9 K42 K96 K189 K200 Q n) K42 K96 K189 K200 Q := by
        intro v hv tok hv1 hv0
        have hop := h1.op
        have hlt := h1.t3.1 tok
        unfold w_M_readAny_b33
        refine ⟨zk_rng I _ _, fun n8 => ?_, fun g8 => hK42 _ I h1.fr (zAn_8 an h1.ok (by omega) (by omega))⟩
        intro g56 e56
        have I56 : zk_I g56 := by rw [e56]; exact zk_upd (L := 0) (H := 8) rfl rfl I ⟨by omega, by omega⟩
        have f : ∀ i : Int, ¬ i = 28 → g56 214 i = g 214 i := fun i hi => by rw [e56]; exact zi_u_ni hi
        have fa : ∀ (a : Nat) (i : Int), a ≠ 214 → g56 a i = g a i := fun a i ha => by rw [e56]; exact zi_u_ne ha
        have f28 : g56 214 28 = g 214 28 + 1 := by rw [e56, zi_u_eq]
        have F56 : zk_fr fr_A g g56 := by rw [e56]; exact zk_fu (zk_f0 _) (fr_SA _ _ (Or.inr (Or.inr (Or.inr (Or.inl ⟨rfl, rfl⟩)))))
        have g30 := f 30 (by decide)
        have pu : ∀ (x b : Int), (x = 9 ∨ x = 12) → ((x = 9 ∧ g 214 16 = 2 ∧ g 214 17 = 6) ∨ (x = 12 ∧ g 214 16 = 4 ∧ g 214 17 = 40)) → b = l1 + (if x = 12 then 1 else 0) → w_M_waits x g56 (fun _ g60 => w_M_reads g60 (fun _ g63 => w_M_readAny_l9 K42 K96 K189 K200 Q n b l2 g63)) := by
          intro x b hx hxs hb
          refine k_M_waits I56 ⟨by omega, by omega⟩ (by omega) (fun g60 I60 F60 w1 w2 w3 => ?_)
          rw [g30] at w1 w2 w3
          have k : ∀ i : Int, ¬ i = 30 → g60 214 i = g56 214 i := fun i hi => F60 _ _ (by unfold fr_M_waits; omega)
          have ka : ∀ (a : Nat) (i : Int), a ≠ 214 → a ≠ 231 → g60 a i = g a i := fun a i h1 h2 => (F60 _ _ (by unfold fr_M_waits; omega)).trans (fa a i h1)
          have k13 := k 13 (by decide); have k14 := k 14 (by decide)
          have j13 := f 13 (by decide); have j14 := f 14 (by decide)
          refine k_M_reads I60 (by rw [k14, k13, j13, j14]; exact h1.sp) (fun g63 I63 F63 p1 p2 p3 p4 tn => ?_)
          obtain ⟨r1, r2⟩ := h1.p (br' := b) (e' := 0) (x := x) (by omega) ⟨h1.ok, by omega⟩ I60 (zk_ft F56 F60 fr_WA) w1 w2 (fun i hi => by rw [w3 i hi, fa _ _ (by decide)]) (by rw [if_pos hx, k 28 (by decide), f28]) (fun i => ⟨ka _ _ (by decide) (by decide), ka _ _ (by decide) (by decide)⟩) (fun i hi => by rw [k i (by omega), f i (by omega)]) hb (by rw [if_neg (by omega)]; rfl) hlt I63 F63 p1 p2 p3 p4
          exact go b l2 (x :: P) g63 hl (by rw [e1]; exact r1) (by rw [e1]; exact zAn_o an h1.ok hxs (by omega) (fun a i n1 n2 => by rw [F60 a i (by unfold fr_M_waits; omega), e56, zi_unn (by omega)]) F63 (zstm_of F63 tn)) (fun q => by omega) (by omega)
        refine ⟨⟨by omega, by omega⟩, fun nv => ?_, fun ev => ?_⟩
        · unfold w_M_readAny_b66
          exact ⟨⟨by omega, by omega⟩, fun e => absurd e nv, fun _ => pu 9 l1 (Or.inl rfl) (Or.inl ⟨rfl, hv1 (by omega)⟩) (by rw [if_neg (by decide)]; omega)⟩
        · unfold w_M_readAny_b66
          exact ⟨⟨by omega, by omega⟩, fun _ => pu 12 (l1 + 1) (Or.inr rfl) (Or.inr ⟨rfl, hv0 ev⟩) (by rw [if_pos rfl]), fun n => absurd ev n⟩
      refine k_M_isWord I ⟨by decide, by decide⟩ (fun v52 d1 d2 d3 => ⟨fun n52 => b33 v52 (by omega) (by omega) (fun _ => by omega) (fun _ => by omega), fun e52 => ?_⟩)
      refine k_M_isSign I ⟨by decide, by decide⟩ (fun v74 f1 f2 f3 => ⟨fun e74 => ?_, fun n74 => b33 v52 (by omega) (by omega) (fun _ => by omega) (fun _ => by omega)⟩)
      refine k_M_readCompared I ⟨I, h1.sp, h1.fs, h1.t3, by omega⟩ (fun v77 g78 I78 F78 hv hx cm => ⟨⟨by omega, by omega⟩, fun n77 => ?_, fun e77 => hK96 _ I78 (zk_ft h1.fr F78 fr_PA) ((zAn_c an (by omega) (by omega) cm).1 e77)⟩)
      have x := hx n77
      have z := h1.c x
      have u1 := z.fs; have u2 := z.sp; have u3 := z.cf
      have u4 : g78 214 13 ≤ 400 := (I78.1 214 13).2
      have u5 := z.op
      have hcn : zl_cnt 9 P ≤ g78 214 28 := by
        have := zl_dropof 9 12 9 P
        rw [if_pos (Or.inl rfl)] at this
        have := zl_of0 9 12 (zl_drop 9 P)
        omega
      refine k_M_settles I78 ⟨by decide, by decide⟩ ⟨P, z.q, by omega, fun _ => hcn⟩ (fun g82 I82 F82 s82 sm82 => ?_)
      have z2 := z.s (Or.inl rfl) (s82 P z.q)
      have v15 : g82 214 15 = g78 214 15 := F82 _ _ (by unfold fr_M_settles; omega)
      have := x.ff
      exact go l1 0 _ g82 (Or.inl rfl) z2 ((zAn_c an (by omega) (by omega) cm).2 n77 g82 (s82 P z.q).fr (sm82 P z.q)) (fun _ => zl_dropt 9 (by decide) P) (by omega)
theorem k_M_readAny {g : zi_M} {Q : Int → zi_M → Prop} (I : zk_I g) (px0 : zy g) (px1 : g 214 28 = 0) (hQ : ∀ (v : Int) (g' : zi_M), zk_I g' → zk_fr fr_M_readAny g g' → ((-1) ≤ v ∧ v ≤ 0) → (¬ v = -1 → zz g g') → (zmcn zCnd v g g') → Q v g') : w_M_readAny g Q := by
  unfold w_M_readAny
  intro g1 e1
  have I1 : zk_I g1 := by rw [e1]; exact zk_upd (L := 0) (H := 40) rfl rfl I ⟨by decide, by decide⟩
  have f : ∀ i : Int, ¬ i = 30 → g1 214 i = g 214 i := fun i hi => by rw [e1]; exact zi_u_ni hi
  have fa : ∀ (a : Nat) (i : Int), a ≠ 214 → g1 a i = g a i := fun a i ha => by rw [e1]; exact zi_u_ne ha
  have F1 : zk_fr fr_A g g1 := by rw [e1]; exact zk_fu (zk_f0 _) (fr_WA _ _ (Or.inr ⟨rfl, rfl⟩))
  have f13 := f 13 (by decide); have f14 := f 14 (by decide); have f15 := f 15 (by decide); have f16 := f 16 (by decide); have f17 := f 17 (by decide); have f27 := f 27 (by decide); have f28 := f 28 (by decide)
  have c0 : 0 ≤ g 214 27 := (I.1 214 27).1
  have hz : zA 0 0 [] g g1 := by
    refine ⟨I1, by rw [f14, f13]; exact px0.sp, by rw [f15, f14]; exact px0.fs, zt3_e px0.t3 f14 f15 f16 f17, by rw [f15]; exact Int.le_refl _, by rw [f27]; exact Int.le_refl _, ?_, F1, fun i _ => ⟨fa _ _ (by decide), fa _ _ (by decide)⟩, ⟨by rw [e1, zi_u_eq]; rfl, trivial⟩, trivial, by rw [f28, px1]; rfl, rfl, ?_⟩
    · rw [f27, f15]
      have := px0.cf
      have lz : (([] : List Int).length : Int) = 0 := rfl
      omega
    · exact zp_same (zp_nil c0) f27 (fun i _ => ⟨fa _ _ (by decide), fa _ _ (by decide)⟩)
  have er : ∀ k : Int, 1 ≤ k ∧ k ≤ 3 → ∀ g', zk_I g' → zk_fr fr_A g g' → zAf k g g' → w_M_errs k g' (fun v g'' => Q v g'') := by
    intro k hk g' I' F' af
    refine k_M_errs I' hk (fun v g'' I'' F'' hv _ er => ?_)
    exact hQ _ _ I'' (zk_ft F' F'' (fun a i h => fr_PA a i (fr_XP a i h))) ⟨by omega, by omega⟩ (fun n => by omega) (zAf_n af (by omega) (by omega) er (zlo_x F''))
  have p15 : 0 ≤ g 214 15 := (I.1 214 15).1
  exact ⟨802, k_M_readAny_l9 (er 3 ⟨by decide, by decide⟩) (fun g' I' F' cf => hQ _ _ I' F' ⟨by decide, by decide⟩ (fun n => absurd rfl n) cf) (er 1 ⟨by decide, by decide⟩) (fun g' z cy => hQ _ _ z.I z.fr ⟨by decide, by decide⟩ (fun _ => z) cy) 802 0 1 [] g1 (Or.inr rfl) hz (zAn_0 fa f) (fun q => by omega) (by omega)⟩

-- SpoutNewsModel.readLaw()I
theorem k_M_readLaw_l2 {g0 : zi_M} {K15 K58 K90 K111 : zi_M → Prop} {K128 : Int → zi_M → Prop} {Q : Int → zi_M → Prop} (hK15 : ∀ g, zk_I g → zk_fr fr_L g0 g → zLaf 3 g0 g → K15 g) (hK58 : ∀ g, zk_I g → zk_fr fr_L g0 g → zLrf (-1) g0 g → K58 g) (hK90 : ∀ g, zk_I g → zk_fr fr_L g0 g → zLrf (-1) g0 g → K90 g) (hK111 : ∀ g, zk_I g → zk_fr fr_L g0 g → zLaf 1 g0 g → K111 g) (hK128 : ∀ k g, 0 ≤ k → k ≤ 16 → zL k g0 g → zLrl k g0 g → ¬ (g 214 16 = 2 ∧ 0 ≤ g 214 17 ∧ g 214 17 ≤ 2) → K128 k g) :
    ∀ (n : Nat) (l1 : Int) (g : zi_M), 0 ≤ l1 → l1 ≤ 16 → zL l1 g0 g → zLrl l1 g0 g → 16 - l1 < (n : Int) → w_M_readLaw_l2 K15 K58 K90 K111 K128 Q n l1 g
  | 0, l1, g, h0, h1, h, lr, hm => by exfalso; omega
  | n + 1, l1, g, h0, h1, h, lr, hm => by
    have y := h.y
    have I := y.I
    have t := y.t3
    unfold w_M_readLaw_l2
    refine k_M_isLineWord I (fun v1 hv0 hv1 hw0 hw1 => ⟨fun z1 => hK128 _ _ h0 h1 h lr (hw0 z1), fun n1 => ⟨⟨by omega, by omega⟩, fun n16 => ⟨⟨by omega, by omega⟩, ?_⟩, fun e16 => hK15 _ I h.fr (zLrl_3 lr (hw1 n1) e16)⟩⟩)
    have hlw := hw1 n1
    have htok : ¬ g 214 16 = 0 := by omega
    have hlt := t.1 htok
    intro g6 e6
    have r17 := zk_rng I 214 17
    have I6 : zk_I g6 := by rw [e6]; exact zk_upd (L := -2147483648) (H := 2147483647) rfl rfl I r17
    have f6 : ∀ (a : Nat) (i : Int), a ≠ 225 → g6 a i = g a i := fun a i ha => by rw [e6]; exact zi_u_ne ha
    refine k_M_reads I6 (by rw [f6 _ _ (by decide), f6 _ _ (by decide)]; exact y.sp) (fun g8 I8 F8 p1 p2 p3 p4 tn8 => ?_)
    rw [f6 _ _ (by decide)] at p1
    have q1 := y.cf
    have f8 : ∀ (a : Nat) (i : Int), a ≠ 225 → a ≠ 214 → g8 a i = g a i := fun a i h1 h2 => (F8 _ _ (by unfold fr_M_reads; omega)).trans (f6 a i h1)
    have c8 : g8 214 27 = g 214 27 := (F8 _ _ (by unfold fr_M_reads; omega)).trans (f6 _ _ (by decide))
    have o8 : g8 214 28 = g 214 28 := (F8 _ _ (by unfold fr_M_reads; omega)).trans (f6 _ _ (by decide))
    have r27 : 0 ≤ g8 214 27 ∧ g8 214 27 ≤ 400 := I8.1 214 27
    intro g10 e10
    have I10 : zk_I g10 := by rw [e10]; exact zk_u226 I8 (by omega) r27
    have f10 : ∀ (a : Nat) (i : Int), a ≠ 226 → g10 a i = g8 a i := fun a i ha => by rw [e10]; exact zi_u_ne ha
    have k10 : g10 226 (32 + l1) = g 214 27 := by rw [e10, zi_u_eq, c8]
    have j10 : ∀ i : Int, ¬ i = 32 + l1 → g10 226 i = g 226 i := fun i hi => by rw [e10, zi_u_ni hi]; exact f8 _ _ (by decide) (by decide)
    have c10 : g10 214 27 = g 214 27 := (f10 _ _ (by decide)).trans c8
    have y10 : zy g10 := by
      refine ⟨I10, ?_, ?_, zt3_e p4 (f10 _ _ (by decide)) (f10 _ _ (by decide)) (f10 _ _ (by decide)) (f10 _ _ (by decide)), ?_⟩
      · rw [f10 _ _ (by decide), f10 _ _ (by decide)]; exact p2
      · rw [f10 _ _ (by decide), f10 _ _ (by decide)]; exact p3
      · rw [c10, f10 _ _ (by decide)]; omega
    have F10 : zk_fr fr_L g g10 := by
      rw [e10]
      refine zk_fu (zk_ft ?_ F8 fr_RL) (Or.inr (Or.inl rfl))
      rw [e6]
      exact zk_fu (zk_f0 _) (Or.inl rfl)
    have L10 : zLd g10 l1 := zLd_c h.ls (fun l hl => ⟨j10 _ (by omega), (f10 _ _ (by decide)).trans (f8 _ _ (by decide) (by decide)), (f10 _ _ (by decide)).trans (f8 _ _ (by decide) (by decide))⟩) (by omega) (fun i _ => ⟨(f10 _ _ (by decide)).trans (f8 _ _ (by decide) (by decide)), (f10 _ _ (by decide)).trans (f8 _ _ (by decide) (by decide))⟩)
    have lh := zLrl_h lr hlw e6 F8 (zstm_of F8 tn8) e10
    refine k_M_readSum I10 y10 (fun v11 g12 I12 F12 hv11 hx su => ⟨⟨by omega, by omega⟩, fun n11 => ?_, fun e11 => hK58 _ I12 (zk_ft (zk_ft h.fr F10 (fun _ _ e => e)) F12 fr_PL) (zLrh_n lh (by omega) su e11 (fun i a q1 q2 => F12 a i (by show ¬ fr_P a i; unfold fr_P; omega)))⟩)
    have x := hx n11
    have z1 := x.dp _ _ (zp_nil (g := g10) (by omega))
    have f12 : ∀ (a : Nat) (i : Int), a ≠ 214 → a ≠ 229 → a ≠ 230 → g12 a i = g10 a i := fun a i h1 h2 h3 => x.fr _ _ (by unfold fr_P; omega)
    have o12 : g12 214 28 = 0 := by rw [x.fr 214 28 (by unfold fr_P; omega), f10 _ _ (by decide), o8]; exact h.op
    have x1 := x.cc; have x2 := x.cf; have x3 := y10.cf
    have lt12 : g 214 27 < g12 214 27 := by
      have z3 := z1.2.2.2.2
      rw [c10] at z3
      by_cases q : g 214 27 < g12 214 27
      · exact q
      · exfalso
        rw [show (g12 214 27 - g 214 27).toNat = 0 by omega] at z3
        have z4 : (0 : Int) = 0 + 1 := z3
        omega
    have L12 : zLd g12 l1 := zLd_c L10 (fun l hl => ⟨f12 _ _ (by decide) (by decide) (by decide), f12 _ _ (by decide) (by decide) (by decide), f12 _ _ (by decide) (by decide) (by decide)⟩) x1 x.lo
    have r12 : 0 ≤ g12 214 27 ∧ g12 214 27 ≤ 400 := I12.1 214 27
    intro g15 e15
    have I15 : zk_I g15 := by rw [e15]; exact zk_u227 I12 (by omega) r12
    have f15 : ∀ (a : Nat) (i : Int), a ≠ 227 → g15 a i = g12 a i := fun a i ha => by rw [e15]; exact zi_u_ne ha
    have k15 : g15 227 (32 + l1) = g12 214 27 := by rw [e15, zi_u_eq]
    have j15 : ∀ i : Int, ¬ i = 32 + l1 → g15 227 i = g12 227 i := fun i hi => by rw [e15]; exact zi_u_ni hi
    have c15 : g15 214 27 = g12 214 27 := f15 _ _ (by decide)
    have L15 : zLd g15 l1 := zLd_c L12 (fun l hl => ⟨f15 _ _ (by decide), j15 _ (by omega), f15 _ _ (by decide)⟩) (by omega) (fun i _ => ⟨f15 _ _ (by decide), f15 _ _ (by decide)⟩)
    have F15 : zk_fr fr_L g g15 := by rw [e15]; exact zk_fu (zk_ft F10 x.fr fr_PL) (Or.inr (Or.inr (Or.inl rfl)))
    have m15 : g15 226 (32 + l1) = g 214 27 := by rw [f15 _ _ (by decide), f12 _ _ (by decide) (by decide) (by decide), k10]
    have y15 : zy g15 := by
      refine ⟨I15, ?_, ?_, zt3_e x.t3 (f15 _ _ (by decide)) (f15 _ _ (by decide)) (f15 _ _ (by decide)) (f15 _ _ (by decide)), ?_⟩
      · rw [f15 _ _ (by decide), f15 _ _ (by decide)]; exact x.sp
      · rw [f15 _ _ (by decide), f15 _ _ (by decide)]; exact x.fs
      · rw [c15, f15 _ _ (by decide)]; omega
    have s15 : zj_seg (zp_o g15) (zp_a g15) (g 214 27) (g12 214 27 - g 214 27).toNat := by
      have z2 := z1.2.2.2.1
      rw [c10] at z2
      exact zj_segc z2 (fun k _ _ => f15 229 (800 + k) (by decide)) (fun k _ _ => f15 230 (800 + k) (by decide))
    have o15 : g15 214 28 = 0 := (f15 _ _ (by decide)).trans o12
    have li := zLrh_y lh c10 su n11 (fun i a q1 q2 => f12 a i (by omega) (by omega) (by omega)) e15
    have w15 : g15 225 (32 + l1) = g 214 17 := by rw [f15 _ _ (by decide), f12 _ _ (by decide) (by decide) (by decide), f10 _ _ (by decide), F8 225 _ (by unfold fr_M_reads; omega), e6, zi_u_eq]
    -- the line's end
    have b92 : ∀ g17, zy g17 → g17 214 28 = 0 → zk_fr fr_L g g17 → zLd g17 l1 → g17 226 (32 + l1) = g 214 27 → g17 227 (32 + l1) = g12 214 27 → g17 225 (32 + l1) = g 214 17 → zLrj l1 (g 214 17) (g 214 27) (g12 214 27) g0 g17 → g12 214 27 ≤ g17 214 27 → zj_seg (zp_o g17) (zp_a g17) (g 214 27) (g12 214 27 - g 214 27).toNat → zj_seg (zp_o g17) (zp_a g17) (g12 214 27) (g17 214 27 - g12 214 27).toNat →
        w_M_readLaw_b92 l1 (32 + l1) g17 (w_M_readLaw_l2 K15 K58 K90 K111 K128 Q n) K15 K58 K90 K111 K128 Q := by
      intro g17 y17 o17 F17 L17 m1 m2 m0 lj m3 s1 s2
      unfold w_M_readLaw_b92
      refine ⟨⟨by omega, by omega⟩, ?_⟩
      intro g20 e20
      have X := zLrj_e lj (by omega) e20 m0 m1 m2
      have r17 : 0 ≤ g17 214 27 ∧ g17 214 27 ≤ 400 := y17.I.1 214 27
      have I20 : zk_I g20 := by rw [e20]; exact zk_u228 y17.I (by omega) r17
      have f20 : ∀ (a : Nat) (i : Int), a ≠ 228 → g20 a i = g17 a i := fun a i ha => by rw [e20]; exact zi_u_ne ha
      have F20 : zk_fr fr_L g g20 := by rw [e20]; exact zk_fu F17 (Or.inr (Or.inr (Or.inr (Or.inl rfl))))
      have t20 : zt3 g20 := zt3_e y17.t3 (f20 _ _ (by decide)) (f20 _ _ (by decide)) (f20 _ _ (by decide)) (f20 _ _ (by decide))
      refine k_M_isSign I20 ⟨by decide, by decide⟩ (fun v21 d1 d2 d3 => ⟨fun n21 => ?_, fun z21 => hK111 _ I20 (zk_ft h.fr F20 (fun _ _ e => e)) (X.1 (by omega))⟩)
      have lt20 := t20.1 (by omega)
      refine k_M_reads I20 (by rw [f20 _ _ (by decide), f20 _ _ (by decide)]; exact y17.sp) (fun g25 I25 F25 p1 p2 p3 p4 tn25 => ?_)
      have f25 : ∀ (a : Nat) (i : Int), a ≠ 214 → g25 a i = g20 a i := fun a i ha => F25 _ _ (by unfold fr_M_reads; omega)
      have c25 : g25 214 27 = g17 214 27 := (F25 _ _ (by unfold fr_M_reads; omega)).trans (f20 _ _ (by decide))
      have o25 : g25 214 28 = 0 := ((F25 _ _ (by unfold fr_M_reads; omega)).trans (f20 _ _ (by decide))).trans o17
      have u1 := y17.cf
      have u2 : g20 214 15 = g17 214 15 := f20 _ _ (by decide)
      have fo : ∀ i, g25 229 i = g17 229 i ∧ g25 230 i = g17 230 i := fun i => ⟨(f25 _ _ (by decide)).trans (f20 _ _ (by decide)), (f25 _ _ (by decide)).trans (f20 _ _ (by decide))⟩
      have j20 : ∀ i : Int, ¬ i = 32 + l1 → g25 228 i = g17 228 i := fun i hi => by rw [f25 _ _ (by decide), e20]; exact zi_u_ni hi
      have L25 : zLd g25 l1 := zLd_c L17 (fun l hl => ⟨(f25 _ _ (by decide)).trans (f20 _ _ (by decide)), (f25 _ _ (by decide)).trans (f20 _ _ (by decide)), j20 _ (by omega)⟩) (by omega) (fun i _ => fo i)
      have L26 : zLd g25 (l1 + 1) := zLd_s (a := g 214 27) (b := g12 214 27) (c := g17 214 27) L25 (by rw [f25 _ _ (by decide), f20 _ _ (by decide), m1]) (by rw [f25 _ _ (by decide), f20 _ _ (by decide), m2]) (by rw [f25 _ _ (by decide), e20, zi_u_eq]) ⟨by omega, by omega, m3, by omega⟩
        (zj_segc s1 (fun k _ _ => (fo (800 + k)).1) (fun k _ _ => (fo (800 + k)).2)) (zj_segc s2 (fun k _ _ => (fo (800 + k)).1) (fun k _ _ => (fo (800 + k)).2))
      exact k_M_readLaw_l2 hK15 hK58 hK90 hK111 hK128 n (l1 + 1) g25 (by omega) (by omega) ⟨⟨I25, p2, p3, p4, by omega⟩, o25, zk_ft (zk_ft h.fr F20 (fun _ _ e => e)) F25 fr_RL, L26⟩ (X.2 (by omega) g25 F25 (zstm_of F25 tn25)) (by omega)
    refine k_M_isWord I15 ⟨by decide, by decide⟩ (fun v16 d1 d2 d3 => ⟨fun z16 => ?_, fun n16 => ?_⟩)
    · refine b92 g15 y15 o15 F15 L15 m15 k15 w15 (zLri_0 li c15 (by omega)) (by omega) s15 ?_
      rw [c15, Int.sub_self]
      exact fun i hi => absurd hi (Nat.not_lt_zero i)
    · have lt15 := y15.t3.1 (by omega)
      refine k_M_reads I15 y15.sp (fun g29 I29 F29 p1 p2 p3 p4 tn29 => ?_)
      have f29 : ∀ (a : Nat) (i : Int), a ≠ 214 → g29 a i = g15 a i := fun a i ha => F29 _ _ (by unfold fr_M_reads; omega)
      have c29 : g29 214 27 = g12 214 27 := (F29 _ _ (by unfold fr_M_reads; omega)).trans c15
      have o29 : g29 214 28 = 0 := (F29 _ _ (by unfold fr_M_reads; omega)).trans o15
      have u1 := y15.cf
      have y29 : zy g29 := ⟨I29, p2, p3, p4, by omega⟩
      refine k_M_readAny I29 y29 o29 (fun v31 g32 I32 F32 hv31 hz cd => ⟨⟨by omega, by omega⟩, fun n31 => ?_, fun e31 => hK90 _ I32 (zk_ft (zk_ft (zk_ft h.fr F15 (fun _ _ e => e)) F29 fr_RL) F32 fr_AL) (zLri_n li (by omega) (by omega) F29 (zstm_of F29 tn29) cd e31 (fun i a q1 q2 => F32 a i (by show ¬ fr_A a i; unfold fr_A; omega)))⟩)
      have z := hz n31
      have f32 : ∀ (a : Nat) (i : Int), a ≠ 214 → a ≠ 229 → a ≠ 230 → a ≠ 231 → g32 a i = g15 a i := fun a i h1 h2 h3 h4 => (z.fr _ _ (by unfold fr_A; omega)).trans (f29 a i h1)
      have w1 := z.cc
      have fo : ∀ i : Int, i < 800 + g12 214 27 → g32 229 i = g15 229 i ∧ g32 230 i = g15 230 i := fun i hi => ⟨(z.lo i (by omega)).1.trans (f29 _ _ (by decide)), (z.lo i (by omega)).2.trans (f29 _ _ (by decide))⟩
      have L32 : zLd g32 l1 := zLd_c L15 (fun l hl => ⟨f32 _ _ (by decide) (by decide) (by decide) (by decide), f32 _ _ (by decide) (by decide) (by decide) (by decide), f32 _ _ (by decide) (by decide) (by decide) (by decide)⟩) (by omega) (fun i hi => fo i (by omega))
      refine b92 g32 ⟨I32, z.sp, z.fs, z.t3, z.cf⟩ z.op (zk_ft (zk_ft F15 F29 fr_RL) z.fr fr_AL) L32 (by rw [f32 _ _ (by decide) (by decide) (by decide) (by decide)]; exact m15) (by rw [f32 _ _ (by decide) (by decide) (by decide) (by decide)]; exact k15) (by rw [f32 _ _ (by decide) (by decide) (by decide) (by decide)]; exact w15) (zLri_y li c15 (by omega) F29 (zstm_of F29 tn29) cd n31 (fun i a q1 q2 => z.fr a i (by unfold fr_A; omega))) (by omega) ?_ ?_
      · exact zj_segc s15 (fun k k1 k2 => (fo (800 + k) (by omega)).1) (fun k k1 k2 => (fo (800 + k) (by omega)).2)
      · have := z.dp.2.2.2.1
        rw [c29] at this
        exact this
theorem k_M_readLaw {g : zi_M} {Q : Int → zi_M → Prop} (I : zk_I g) (px0 : zy g) (px1 : g 214 28 = 0) (hQ : ∀ (v : Int) (g' : zi_M), zk_I g' → zk_fr fr_M_readLaw g g' → ((-1) ≤ v ∧ v ≤ 16) → (¬ v = -1 → zLd g' v) → (zLrf v g g') → Q v g') : w_M_readLaw g Q := by
  unfold w_M_readLaw
  have er : ∀ k : Int, 1 ≤ k ∧ k ≤ 3 → ∀ g', zk_I g' → zk_fr fr_L g g' → zLaf k g g' → w_M_errs k g' (fun v g'' => Q v g'') := by
    intro k hk g' I' F' af
    refine k_M_errs I' hk (fun v g'' I'' F'' hv _ er => ?_)
    exact hQ _ _ I'' (zk_ft F' F'' (fun a i h => fr_PL a i (fr_XP a i h))) ⟨by omega, by omega⟩ (fun n => by omega) (zLaf_n af (by omega) (by omega) er (zlrw_x F''))
  refine ⟨17, k_M_readLaw_l2 (er 3 ⟨by decide, by decide⟩) (fun g' I' F' cf => hQ _ _ I' F' ⟨by decide, by decide⟩ (fun n => absurd rfl n) cf) (fun g' I' F' cf => hQ _ _ I' F' ⟨by decide, by decide⟩ (fun n => absurd rfl n) cf) (er 1 ⟨by decide, by decide⟩) (fun k g' k0 k1 L lr nw => ?_) 17 0 g (by decide) (by decide) ⟨px0, px1, zk_f0 _, zLd_0 _⟩ zLrl_0 (by decide)⟩
  exact ⟨zk_rng L.y.I _ _, fun n16 => er 1 ⟨by decide, by decide⟩ g' L.y.I L.fr (zLrl_1 lr n16 nw), fun e16 => hQ _ _ L.y.I L.fr ⟨by omega, by omega⟩ (fun _ => L.ls) (zLrl_e lr e16)⟩

