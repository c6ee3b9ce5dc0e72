-- by program (wip/gen/mkz.py)
-- SpoutNewsModel.readSum()I
noncomputable def fr_M_readSum (a : Nat) (i : Int) : Prop := a = 229 ∨ a = 230 ∨ (a = 214 ∧ i = 14) ∨ (a = 214 ∧ i = 15) ∨ (a = 214 ∧ i = 16) ∨ (a = 214 ∧ i = 17) ∨ (a = 214 ∧ i = 27) ∨ (a = 214 ∧ i = 31) ∨ (a = 214 ∧ i = 32)
theorem k_M_readSum_l10 {g0 : zi_M} {K55 K66 : zi_M → Prop} {Q : Int → zi_M → Prop} (h0 : g0 214 27 ≤ g0 214 15) (hK55 : ∀ g, zk_I g → zk_fr fr_P g0 g → K55 g) (hK66 : ∀ g, zx 1 0 g0 g → K66 g) :
    ∀ (n : Nat) (g : zi_M), zx 1 0 g0 g → 400 - g 214 15 < (n : Int) → w_M_readSum_l10 K55 K66 Q n g
  | 0, g, x, hm => by
    have a1 := x.fs; have a2 := x.sp
    have a3 : g 214 13 ≤ 400 := (x.I.1 214 13).2
    exfalso; omega
  | n + 1, g, x, hm => by
    have I := x.I
    have a1 := x.fs; have a2 := x.sp
    have a3 : g 214 13 ≤ 400 := (x.I.1 214 13).2
    have b28 : g 214 16 = 4 → w_M_readSum_b28 g (w_M_readSum_l10 K55 K66 Q n) K55 K66 Q := by
      intro ht
      have hlt := x.t3.1 (by omega)
      have b42 : ∀ w : Int, 2 ≤ w ∧ w ≤ 3 → w_M_readSum_b42 w g (w_M_readSum_l10 K55 K66 Q n) K55 K66 Q := by
        intro w hw
        unfold w_M_readSum_b42
        refine k_M_reads I x.sp (fun g12 I12 F12 p1 p2 p3 p4 => ?_)
        have x1 : zx 0 1 g g12 := zx_rd I12 F12 p1 p2 p3 p4 (by omega) (by omega)
        have x2 : zx 1 1 g0 g12 := x.t x1
        have y12 := x2.y (by decide) h0
        refine k_M_readProduct I12 y12 (fun v15 g16 I16 F16 hv15 hx => ⟨⟨by omega, by omega⟩, fun n1 => ?_, fun e1 => hK55 _ I16 (zk_ft x2.fr F16 (fun _ _ e => e))⟩)
        have x3 := hx n1
        have x4 : zx 2 1 g0 g16 := x2.t x3
        have z1 := x4.fs; have z2 := x4.sp
        have z3 : g16 214 13 ≤ 400 := (I16.1 214 13).2
        have z4 := x4.cf
        have z5 := x3.ff
        have z8 := x1.ff
        refine k_M_emits I16 ⟨by omega, by omega⟩ ⟨by decide, by decide⟩ (by omega) (fun g5 I5 F5 c5 o5 a5 r5 => ?_)
        have x5 : zx 1 (1 - 1) g0 g5 := zx_em x4 I5 F5 c5 o5 a5 r5 ⟨by omega, by omega⟩ (fun q => by omega) (fun q => by omega) (fun _ _ => by omega) (fun q => by omega) (by rw [if_neg (by omega), if_neg (by omega)]; rfl)
        have f15 : g5 214 15 = g16 214 15 := F5 _ _ (by unfold fr_M_emits; omega)
        exact k_M_readSum_l10 h0 hK55 hK66 n g5 x5 (by omega)
      unfold w_M_readSum_b28
      exact ⟨zk_rng I _ _, fun _ => b42 3 ⟨by decide, by decide⟩, fun _ => b42 2 ⟨by decide, by decide⟩⟩
    unfold w_M_readSum_l10
    refine k_M_isSign I ⟨by decide, by decide⟩ (fun v5 c1 c2 c3 => ⟨fun n1 => b28 (by omega), fun e => ?_⟩)
    refine k_M_isSign I ⟨by decide, by decide⟩ (fun v34 d1 d2 d3 => ⟨fun _ => hK66 _ x, fun n2 => b28 (by omega)⟩)
theorem k_M_readSum {g : zi_M} {Q : Int → zi_M → Prop} (I : zk_I g) (px0 : zy g) (hQ : ∀ (v : Int) (g' : zi_M), zk_I g' → zk_fr fr_M_readSum g g' → ((-1) ≤ v ∧ v ≤ 0) → (¬ v = -1 → zx 1 0 g g') → Q v g') : w_M_readSum g Q := by
  unfold w_M_readSum
  refine k_M_readProduct I px0 (fun v1 g2 I2 F2 hv1 hx => ⟨⟨by omega, by omega⟩, fun n1 => ?_, fun _ => hQ _ _ I2 F2 ⟨by decide, by decide⟩ (fun n => absurd rfl n)⟩)
  have x := hx n1
  have a3 : 0 ≤ g2 214 15 := (I2.1 214 15).1
  exact ⟨401, k_M_readSum_l10 px0.cf (fun g' I' F' => hQ _ _ I' F' ⟨by decide, by decide⟩ (fun n => absurd rfl n)) (fun g' x' => hQ _ _ x'.I x'.fr ⟨by decide, by decide⟩ (fun _ => x')) 401 g2 x (by omega)⟩

-- SpoutNewsModel.isWord(I)Z
set_option maxRecDepth 100000 in
set_option maxHeartbeats 4000000 in
theorem k_M_isWord {l1 : Int} {g : zi_M} {Q : Int → zi_M → Prop} (I : zk_I g) (p1 : 3 ≤ l1 ∧ l1 ≤ 20) (hQ : ∀ v : Int, (¬ (g 214 16) = 2 → v = 0) → ((g 214 16) = 2 → ¬ (g 214 17) = l1 → v = 0) → ((g 214 16) = 2 → (g 214 17) = l1 → v = 1) → Q v g) : w_M_isWord l1 g Q := by
  unfold w_M_isWord
  have m_1 : 0 ≤ (g 214 16) ∧ (g 214 16) ≤ 4 := I.1 214 16
  refine ⟨⟨by omega, by omega⟩, ?_⟩
  refine ⟨fun c5 => ?_, fun c5 => ?_⟩
  · have m_2 : (-1) ≤ (g 214 17) ∧ (g 214 17) ≤ 100000 := I.1 214 17
    exact hQ _ (by intros; omega) (by intros; omega) (by intros; omega)
  · have m_3 : (-1) ≤ (g 214 17) ∧ (g 214 17) ≤ 100000 := I.1 214 17
    refine ⟨⟨by omega, by omega⟩, ⟨by omega, by omega⟩, ?_⟩
    refine ⟨fun c4 => ?_, fun c4 => ?_⟩
    · exact hQ _ (by intros; omega) (by intros; omega) (by intros; omega)
    · exact hQ _ (by intros; omega) (by intros; omega) (by intros; omega)
-- SpoutNewsModel.settles(I)V
noncomputable def fr_M_settles (a : Nat) (i : Int) : Prop := a = 229 ∨ a = 230 ∨ (a = 214 ∧ i = 27) ∨ (a = 214 ∧ i = 28) ∨ (a = 214 ∧ i = 30)
theorem k_M_settles_l0 {w : Int} (hw : w = 9 ∨ w = 10 ∨ w = 11) {K : zi_M → Prop} {Q : Int → zi_M → Prop} : ∀ (P : List Int) (g : zi_M), zk_I g → zq g P → g 214 27 + P.length ≤ 400 → (w = 9 → zl_cnt 9 P ≤ g 214 28) → (∀ g', zS w P g g' → K g') → w_M_settles_l0 w K Q (P.length + 1) g
  | [], g, I, q, hc, ho, hK => by
    have z : g 214 30 = 0 := q.1
    show _ ∧ _
    refine ⟨zk_rng I _ _, fun _ => hK g (zS_0 I q (Or.inr rfl)), fun n => by omega⟩
  | x :: t, g, I, q, hc, ho, hK => by
    have z : g 214 30 = ((x :: t).length : Int) := q.1
    rw [List.length_cons] at z hc
    have zx : g 231 (t.length : Int) = x := q.2.1
    have hl : g 214 30 ≤ 40 := (I.1 214 30).2
    have ei : g 214 30 - 1 = (t.length : Int) := by omega
    rw [List.length_cons]
    show _ ∧ _
    refine ⟨zk_rng I _ _, fun n => by omega, fun _ => ⟨⟨by omega, by omega⟩, zk_rng I _ _, ⟨by omega, by omega⟩, fun n => ?_, fun e => ?_⟩⟩
    · refine hK g (zS_0 I q (Or.inl ?_))
      show x ≠ w
      intro e
      exact n (by rw [ei, zx, e])
    · rw [ei, zx] at e
      intro g5 e5
      have c0 : 0 ≤ g 214 27 := (I.1 214 27).1
      have I5 : zk_I g5 := by rw [e5]; exact zk_upd (L := 0) (H := 40) rfl rfl I ⟨by omega, by omega⟩
      have F5 : zk_fr fr_S g g5 := by rw [e5]; exact zk_fu (zk_f0 _) (Or.inr (Or.inr (Or.inr (Or.inr ⟨rfl, rfl⟩))))
      have a27 : g5 214 27 = g 214 27 := by rw [e5]; exact zi_u_ni (by decide)
      have a28 : g5 214 28 = g 214 28 := by rw [e5]; exact zi_u_ni (by decide)
      have a30 : g5 214 30 = (t.length : Int) := by rw [e5, zi_u_eq, ei]
      have a231 : ∀ i, g5 231 i = g 231 i := fun i => by rw [e5]; exact zi_u_ne (by decide)
      have a229 : ∀ i, g5 229 i = g 229 i ∧ g5 230 i = g 230 i := fun i => ⟨by rw [e5]; exact zi_u_ne (by decide), by rw [e5]; exact zi_u_ne (by decide)⟩
      refine k_M_emits I5 ⟨by omega, by omega⟩ ⟨by decide, by decide⟩ (by omega) (fun g7 I7 F7 c7 o7 v7 l7 => ?_)
      have F7' : zk_fr fr_S g g7 := zk_ft F5 F7 (fun a i h => h.elim Or.inl (fun h => h.elim (fun h => Or.inr (Or.inl h)) (fun h => Or.inr (Or.inr (Or.inl h)))))
      have b28 : g7 214 28 = g 214 28 := by rw [F7 214 28 (by unfold fr_M_emits; omega), a28]
      have b30 : g7 214 30 = (t.length : Int) := by rw [F7 214 30 (by unfold fr_M_emits; omega), a30]
      have b231 : ∀ i, g7 231 i = g 231 i := fun i => by rw [F7 231 i (by unfold fr_M_emits; omega), a231]
      rw [a27] at c7 o7 v7 l7
      have lw : ∀ i : Int, ¬ i = 800 + g 214 27 → g7 229 i = g 229 i ∧ g7 230 i = g 230 i := fun i hi => ⟨(l7 i hi).1.trans (a229 i).1, (l7 i hi).2.trans (a229 i).2⟩
      have cn : zl_cnt w (x :: t) = zl_cnt w t + 1 := by show (if x = w then _ else _) = _; rw [if_pos e]
      have cn0 := zl_cnt0 w t
      refine ⟨fun n9 => ?_, fun e9 => ?_⟩
      · refine k_M_settles_l0 hw t g7 I7 ⟨b30, zql_c q.2.2 (fun i _ _ => b231 i)⟩ (by omega) (fun q => absurd q n9) (fun g' s' => hK g' ?_)
        rw [e]
        exact zS_1 ⟨by omega, by omega, by omega⟩ I7 F7' c7 o7 v7 lw (by rw [b28, if_neg n9]; omega) s'
      · intro g9 e9'
        have ho9 := ho e9
        rw [← e9] at ho9
        have I9 : zk_I g9 := by
          rw [e9']
          have := (I7.1 214 28).2
          exact zk_upd (L := 0) (H := 8) rfl rfl I7 ⟨by omega, by have h8 : g7 214 28 ≤ 8 := this; omega⟩
        have F9 : zk_fr fr_S g g9 := by rw [e9']; exact zk_fu F7' (Or.inr (Or.inr (Or.inr (Or.inl ⟨rfl, rfl⟩))))
        have d27 : g9 214 27 = g7 214 27 := by rw [e9']; exact zi_u_ni (by decide)
        have d28 : g9 214 28 = g 214 28 - 1 := by rw [e9', zi_u_eq, b28]
        have d30 : g9 214 30 = (t.length : Int) := by rw [e9', zi_u_ni (by decide), b30]
        have d231 : ∀ i, g9 231 i = g 231 i := fun i => by rw [e9', zi_u_ne (by decide), b231]
        have d229 : ∀ i, g9 229 i = g7 229 i ∧ g9 230 i = g7 230 i := fun i => ⟨by rw [e9']; exact zi_u_ne (by decide), by rw [e9']; exact zi_u_ne (by decide)⟩
        refine k_M_settles_l0 hw t g9 I9 ⟨d30, zql_c q.2.2 (fun i _ _ => d231 i)⟩ (by omega) (fun _ => by rw [d28, ← e9]; omega) (fun g' s' => hK g' ?_)
        rw [e]
        exact zS_1 ⟨by omega, by omega, by omega⟩ I9 F9 (by rw [d27, c7]) (by rw [(d229 _).1, o7]) (by rw [(d229 _).2, v7]) (fun i hi => ⟨(d229 i).1.trans (lw i hi).1, (d229 i).2.trans (lw i hi).2⟩) (by rw [d28, if_pos e9]) s'
theorem k_M_settles {l1 : Int} {g : zi_M} {Q : Int → zi_M → Prop} (I : zk_I g) (p1 : 9 ≤ l1 ∧ l1 ≤ 11) (px0 : ∃ P, zq g P ∧ g 214 27 + P.length ≤ 400 ∧ (l1 = 9 → zl_cnt 9 P ≤ g 214 28)) (hQ : ∀ g' : zi_M, zk_I g' → zk_fr fr_M_settles g g' → (∀ P, zq g P → zS l1 P g g') → Q 0 g') : w_M_settles l1 g Q := by
  unfold w_M_settles
  obtain ⟨P, h1, h2, h3⟩ := px0
  exact ⟨P.length + 1, k_M_settles_l0 (by omega) P g I h1 h2 h3 (fun g' s => hQ g' s.I s.fr (fun P' q' => by rw [← zq_u h1 q']; exact s))⟩

-- SpoutNewsModel.waits(I)V
noncomputable def fr_M_waits (a : Nat) (i : Int) : Prop := a = 231 ∨ (a = 214 ∧ i = 30)
theorem k_M_waits {l1 : Int} {g : zi_M} {Q : Int → zi_M → Prop} (I : zk_I g) (p1 : 9 ≤ l1 ∧ l1 ≤ 12) (px0 : g 214 30 ≤ 39) (hQ : ∀ g' : zi_M, zk_I g' → zk_fr fr_M_waits g g' → (g' 214 30 = g 214 30 + 1) → (g' 231 (g 214 30) = l1) → (∀ i : Int, ¬ i = g 214 30 → g' 231 i = g 231 i) → Q 0 g') : w_M_waits l1 g Q := by
  unfold w_M_waits
  have h0 : 0 ≤ g 214 30 := (I.1 214 30).1
  refine ⟨⟨by omega, by omega⟩, ?_⟩
  intro g2 e2
  have I2 : zk_I g2 := by rw [e2]; exact zk_upd (L := -2147483648) (H := 2147483647) rfl rfl I ⟨by omega, by omega⟩
  have a1 : g2 214 30 = g 214 30 := by rw [e2]; exact zi_u_ne (by decide)
  intro g3 e3
  have I3 : zk_I g3 := by rw [e3]; exact zk_upd (L := 0) (H := 40) rfl rfl I2 ⟨by omega, by omega⟩
  have F2 : zk_fr fr_M_waits g g2 := by rw [e2]; exact zk_fu (zk_f0 _) (Or.inl rfl)
  have F3 : zk_fr fr_M_waits g g3 := by rw [e3]; exact zk_fu F2 (Or.inr ⟨rfl, rfl⟩)
  refine hQ g3 I3 F3 ?_ ?_ ?_
  · rw [e3, zi_u_eq, a1]
  · rw [e3, zi_u_ne (by decide), e2, zi_u_eq]
  · intro i hi
    rw [e3, zi_u_ne (by decide), e2, zi_u_ni hi]

-- SpoutNewsModel.readCompared()I
noncomputable def fr_M_readCompared (a : Nat) (i : Int) : Prop := a = 229 ∨ a = 230 ∨ (a = 214 ∧ i = 14) ∨ (a = 214 ∧ i = 15) ∨ (a = 214 ∧ i = 16) ∨ (a = 214 ∧ i = 17) ∨ (a = 214 ∧ i = 27) ∨ (a = 214 ∧ i = 31) ∨ (a = 214 ∧ i = 32)
theorem k_M_readCompared {g : zi_M} {Q : Int → zi_M → Prop} (I : zk_I g) (px0 : zy g) (hQ : ∀ (v : Int) (g' : zi_M), zk_I g' → zk_fr fr_M_readCompared g g' → ((-1) ≤ v ∧ v ≤ 0) → (¬ v = -1 → zx 1 0 g g') → Q v g') : w_M_readCompared g Q := by
  have b43 : ∀ g2, zx 1 0 g g2 → g2 214 16 = 4 → w_M_readCompared_b43 g2 Q := by
    intro g2 x ht
    have I2 := x.I
    have a1 := x.fs; have a2 := x.sp
    have hlt := x.t3.1 (by omega)
    have b73 : ∀ w : Int, 6 ≤ w ∧ w ≤ 8 → w_M_readCompared_b73 w g2 Q := by
      intro w hw
      unfold w_M_readCompared_b73
      refine k_M_reads I2 x.sp (fun g12 I12 F12 p1 p2 p3 p4 => ?_)
      have x1 : zx 0 1 g2 g12 := zx_rd I12 F12 p1 p2 p3 p4 (by omega) (by omega)
      have x2 : zx 1 1 g g12 := x.t x1
      have y12 := x2.y (by decide) px0.cf
      refine k_M_readSum I12 y12 (fun v15 g16 I16 F16 hv15 hx => ⟨⟨by omega, by omega⟩, fun n1 => ?_, fun e1 => hQ _ _ I16 (zk_ft x2.fr F16 (fun _ _ e => e)) ⟨by decide, by decide⟩ (fun n => absurd rfl n)⟩)
      have x3 := hx n1
      have x4 : zx 2 1 g g16 := x2.t x3
      have z1 := x4.fs; have z2 := x4.sp
      have z3 : g16 214 13 ≤ 400 := (I16.1 214 13).2
      have z4 := x4.cf
      have z5 := px0.cf
      refine k_M_emits I16 ⟨by omega, by omega⟩ ⟨by decide, by decide⟩ (by omega) (fun g5 I5 F5 c5 o5 a5 r5 => ?_)
      have x5 : zx 1 (1 - 1) g g5 := zx_em x4 I5 F5 c5 o5 a5 r5 ⟨by omega, by omega⟩ (fun q => by omega) (fun q => by omega) (fun _ _ => by omega) (fun q => by omega) (by rw [if_neg (by omega), if_neg (by omega)]; rfl)
      exact hQ _ _ I5 x5.fr ⟨by decide, by decide⟩ (fun _ => x5)
    unfold w_M_readCompared_b43
    exact ⟨zk_rng I2 _ _, fun _ => ⟨fun _ => b73 8 ⟨by decide, by decide⟩, fun _ => b73 7 ⟨by decide, by decide⟩⟩, fun _ => b73 6 ⟨by decide, by decide⟩⟩
  unfold w_M_readCompared
  refine k_M_readSum I px0 (fun v1 g2 I2 F2 hv1 hx => ⟨⟨by omega, by omega⟩, fun n1 => ?_, fun _ => hQ _ _ I2 F2 ⟨by decide, by decide⟩ (fun n => absurd rfl n)⟩)
  have x := hx n1
  refine k_M_isSign I2 ⟨by decide, by decide⟩ (fun v5 c1 c2 c3 => ⟨fun n2 => b43 _ x (by omega), fun e => ?_⟩)
  refine k_M_isSign I2 ⟨by decide, by decide⟩ (fun v6 d1 d2 d3 => ⟨fun n2 => b43 _ x (by omega), fun e => ?_⟩)
  refine k_M_isSign I2 ⟨by decide, by decide⟩ (fun v7 f1 f2 f3 => ⟨fun n2 => b43 _ x (by omega), fun e => ?_⟩)
  refine k_M_errs I2 ⟨by decide, by decide⟩ (fun v g'' I'' F'' hv _ => ?_)
  exact hQ _ _ I'' (zk_ft x.fr F'' fr_XP) ⟨by omega, by omega⟩ (fun n => by omega)

-- SpoutNewsModel.readAny()I
noncomputable def fr_M_readAny (a : Nat) (i : Int) : Prop := a = 229 ∨ a = 230 ∨ a = 231 ∨ (a = 214 ∧ i = 14) ∨ (a = 214 ∧ i = 15) ∨ (a = 214 ∧ i = 16) ∨ (a = 214 ∧ i = 17) ∨ (a = 214 ∧ i = 27) ∨ (a = 214 ∧ i = 28) ∨ (a = 214 ∧ i = 30) ∨ (a = 214 ∧ i = 31) ∨ (a = 214 ∧ i = 32)
theorem k_M_readAny_l9 {g0 : zi_M} {K42 K96 K189 K200 : zi_M → Prop} {Q : Int → zi_M → Prop} (hK42 : ∀ g, zk_I g → zk_fr fr_A g0 g → K42 g) (hK96 : ∀ g, zk_I g → zk_fr fr_A g0 g → K96 g) (hK200 : ∀ g, zk_I g → zk_fr fr_A g0 g → K200 g) (hK189 : ∀ g, zz g0 g → K189 g) :
    ∀ (n : Nat) (l1 l2 : Int) (P : List Int) (g : zi_M), (l2 = 0 ∨ l2 = 1) → zA l1 (1 - l2) P g0 g → (l2 = 0 → zl_top P ≠ 9) → 2 * (400 - g 214 15) + l2 < (n : Int) → w_M_readAny_l9 K42 K96 K189 K200 Q n l1 l2 g
  | 0, l1, l2, P, g, hl, h, ht, hm => by
    have a1 := h.fs; have a2 := h.sp
    have a3 : g 214 13 ≤ 400 := (h.I.1 214 13).2
    exfalso; omega
  | n + 1, l1, l2, P, g, hl, h, ht, hm => by
    have I := h.I
    have a1 := h.fs; have a2 := h.sp; have a3 := h.cf
    have a4 : g 214 13 ≤ 400 := (I.1 214 13).2
    have ln := h.len
    have q1 := h.q.1
    have c0 : 0 ≤ g 214 27 := (I.1 214 27).1
    have go := @k_M_readAny_l9 g0 K42 K96 K189 K200 Q hK42 hK96 hK200 hK189 n
    have br0 := zl_of0 12 12 P
    have hbr := h.br
    unfold w_M_readAny_l9
    refine ⟨⟨by omega, by omega⟩, fun e0 => ?_, fun n0 => ?_⟩
    · -- what binds is looked for
      rw [e0] at h
      have ht0 := ht e0
      have h1 : zA l1 1 P g0 g := h
      -- settling of what binds stronger
      have s10 : ∀ K : zi_M → Prop, (∀ g', zA l1 1 (zl_drop 10 P) g0 g' → g' 214 15 = g 214 15 → g' 214 14 = g 214 14 → g' 214 16 = g 214 16 → g' 214 17 = g 214 17 → K g') → w_M_settles 10 g (fun _ g' => K g') := by
        intro K hK
        refine k_M_settles I ⟨by decide, by decide⟩ ⟨P, h.q, by omega, fun q => absurd q (by decide)⟩ (fun g' I' F' s => hK g' (h1.s (Or.inr (Or.inl rfl)) (s P h.q)) ?_ ?_ ?_ ?_) <;> exact F' _ _ (by unfold fr_M_settles; omega)
      have s11 : ∀ (g' : zi_M) (K : zi_M → Prop), zA l1 1 (zl_drop 10 P) g0 g' → (∀ g'', zA l1 1 (zl_drop 11 (zl_drop 10 P)) g0 g'' → g'' 214 15 = g' 214 15 → g'' 214 14 = g' 214 14 → g'' 214 16 = g' 214 16 → g'' 214 17 = g' 214 17 → K g'') → w_M_settles 11 g' (fun _ g'' => K g'') := by
        intro g' K hz hK
        have z1 := hz.fs; have z2 := hz.sp; have z3 := hz.cf
        have z4 : g' 214 13 ≤ 400 := (hz.I.1 214 13).2
        refine k_M_settles hz.I ⟨by decide, by decide⟩ ⟨_, hz.q, by omega, fun q => absurd q (by decide)⟩ (fun g'' I' F' s => hK g'' (hz.s (Or.inr (Or.inr rfl)) (s _ hz.q)) ?_ ?_ ?_ ?_) <;> exact F' _ _ (by unfold fr_M_settles; omega)
      have ps : ∀ (x : Int) (P' : List Int) (g' : zi_M), (x = 10 ∨ x = 11) → zA l1 1 P' g0 g' → zl_ok 9 10 11 12 (x :: P') → g' 214 15 = g 214 15 → g' 214 15 < g' 214 14 → w_M_waits x g' (fun _ g36 => w_M_reads g36 (fun _ g39 => w_M_readAny_l9 K42 K96 K189 K200 Q n l1 1 g39)) := by
        intro x P' g' hx hz hok e15 hlt
        have z1 := hz.len; have z2 := hz.q.1
        refine k_M_waits hz.I ⟨by omega, by omega⟩ (by omega) (fun g36 I36 F36 w1 w2 w3 => ?_)
        have F36' : zk_fr fr_A g' g36 := zk_ft (zk_f0 _) F36 fr_WA
        have f13 : g36 214 13 = g' 214 13 := F36 _ _ (by unfold fr_M_waits; omega)
        have f14 : g36 214 14 = g' 214 14 := F36 _ _ (by unfold fr_M_waits; omega)
        refine k_M_reads I36 (by rw [f14, f13]; exact hz.sp) (fun g39 I39 F39 p1 p2 p3 p4 => ?_)
        obtain ⟨r1, r2⟩ := hz.p (br' := l1) (e' := 0) (by omega) hok I36 F36' w1 w2 w3 (by rw [if_neg (by omega), F36 _ _ (by unfold fr_M_waits; omega)]; omega) (fun i => ⟨F36 _ _ (by unfold fr_M_waits; omega), F36 _ _ (by unfold fr_M_waits; omega)⟩) (fun i hi => F36 _ _ (by unfold fr_M_waits; omega)) (by rw [if_neg (by omega)]; omega) (by rw [if_pos hx]; rfl) hlt I39 F39 p1 p2 p3 p4
        exact go l1 1 (x :: P') g39 (Or.inr rfl) r1 (fun q => by omega) (by omega)
      have ok1 := zl_dropok 10 P h1.ok
      have t1 := zl_dropn (n := 9) (a := 10) (o := 11) (b := 12) 10 (by decide) (by decide) (Or.inl rfl) (by decide) (by decide) P h1.ok ht0
      have t2 := zl_dropt 10 (by decide) P
      have t3 := h1.top ht0
      have tk := h.t3
      refine k_M_isWord I ⟨by decide, by decide⟩ (fun v3 d1 d2 d3 => ⟨fun e3 => ?_, fun n3 => ?_⟩)
      · refine k_M_isWord I ⟨by decide, by decide⟩ (fun v6 f1 f2 f3 => ⟨fun e6 => ?_, fun n6 => ?_⟩)
        · refine s10 _ (fun g1 z1 m1 m2 m3 m4 => s11 g1 _ z1 (fun g2 z2 k1 k2 k3 k4 => ?_))
          have brz := z2.br
          refine ⟨⟨by have := zl_of0 12 12 (zl_drop 11 (zl_drop 10 P)); omega, by have := z2.br; have := z2.len; have hh : zl_of 12 12 (zl_drop 11 (zl_drop 10 P)) ≤ (zl_drop 11 (zl_drop 10 P)).length := zl_ofl 12 12 _; omega⟩, fun nl => ?_, fun el => ?_⟩
          · refine k_M_isSign z2.I ⟨by decide, by decide⟩ (fun v16 x1 x2 x3 => ⟨fun n16 => ?_, fun _ => hK200 _ z2.I z2.fr⟩)
            intro g19 e19 g20 e20
            have hP : ∃ t, zl_drop 11 (zl_drop 10 P) = 12 :: t := by
              rcases zl_top_in _ z2.ok with q | q | q | q | q
              · rw [q] at brz; exact absurd brz nl
              · exact absurd q t3.1
              · exact absurd q t3.2.1
              · exact absurd q t3.2.2
              · cases hc : zl_drop 11 (zl_drop 10 P) with
                | nil => rw [hc] at brz; exact absurd brz nl
                | cons x t => rw [hc] at q; have q' : x = 12 := q; exact ⟨t, by rw [q']⟩
            obtain ⟨t, et⟩ := hP
            rw [et] at z2
            have z3 := z2.b e19 e20
            have u1 := z3.fs; have u2 := z3.sp; have u3 := z3.cf
            have u4 : g20 214 13 ≤ 400 := (z3.I.1 214 13).2
            have u5 := z3.op
            have hcn : zl_cnt 9 t ≤ g20 214 28 := by
              have := zl_dropof 9 12 9 t
              rw [if_pos (Or.inl rfl)] at this
              have := zl_of0 9 12 (zl_drop 9 t)
              omega
            have e15 : g20 214 15 = g2 214 15 := by rw [e20, zi_u_ni (by decide), e19, zi_u_ni (by decide)]
            have e14 : g20 214 14 = g2 214 14 := by rw [e20, zi_u_ni (by decide), e19, zi_u_ni (by decide)]
            have lt2 : g2 214 15 < g2 214 14 := z2.t3.1 (by omega)
            refine k_M_settles z3.I ⟨by decide, by decide⟩ ⟨t, z3.q, by omega, fun _ => hcn⟩ (fun g22 I22 F22 s22 => ?_)
            have z4 := z3.s (Or.inl rfl) (s22 t z3.q)
            have v15 : g22 214 15 = g20 214 15 := F22 _ _ (by unfold fr_M_settles; omega)
            have v14 : g22 214 14 = g20 214 14 := F22 _ _ (by unfold fr_M_settles; omega)
            refine k_M_reads I22 z4.sp (fun g25 I25 F25 p1 p2 p3 p4 => ?_)
            have z5 := z4.r I25 F25 p1 p2 p3 p4
            exact go (l1 - 1) l2 _ g25 (Or.inl e0) (by rw [e0]; exact z5) (fun _ => zl_dropt 9 (by decide) t) (by omega)
          · refine hK189 _ ?_
            have hP : zl_drop 11 (zl_drop 10 P) = [] := by
              rcases zl_top_in _ z2.ok with q | q | q | q | q
              · exact q
              · exact absurd q t3.1
              · exact absurd q t3.2.1
              · exact absurd q t3.2.2
              · cases hc : zl_drop 11 (zl_drop 10 P) with
                | nil => rfl
                | cons x t =>
                  rw [hc] at q brz
                  have q' : x = 12 := q
                  have : zl_of 12 12 (x :: t) = zl_of 12 12 t + (if x = 12 ∨ x = 12 then 1 else 0) := rfl
                  rw [this, if_pos (Or.inl q')] at brz
                  have := zl_of0 12 12 t
                  omega
            rw [hP] at z2
            have cf := z2.cf
            have lz : (([] : List Int).length : Int) = 0 := rfl
            exact ⟨z2.I, z2.sp, z2.fs, z2.t3, z2.ff, z2.cc, by omega, z2.fr, z2.lo, z2.op, z2.dp⟩
        · refine s10 _ (fun g1 z1 m1 m2 m3 m4 => s11 g1 _ z1 (fun g2 z2 k1 k2 k3 k4 => ?_))
          exact ps 11 _ g2 (Or.inr rfl) z2 ⟨z2.ok, Or.inr (Or.inr (Or.inr ⟨rfl, t3⟩))⟩ (by omega) (z2.t3.1 (by omega))
      · refine s10 _ (fun g1 z1 m1 m2 m3 m4 => ?_)
        exact ps 10 _ g1 (Or.inl rfl) z1 ⟨z1.ok, Or.inr (Or.inr (Or.inl ⟨rfl, t1, t2⟩))⟩ (by omega) (z1.t3.1 (by omega))
    · -- a comparison, a not or a bracket is due
      have e1 : l2 = 1 := by omega
      rw [e1] at h
      have h1 : zA l1 0 P g0 g := h
      have r8 : g 214 28 ≤ 8 := (I.1 214 28).2
      have r0 : 0 ≤ g 214 28 := (I.1 214 28).1
      have b33 : ∀ v : Int, (v = 0 ∨ v = 1) → ¬ g 214 16 = 0 → w_M_readAny_b33 l1 l2 v g (w_M_readAny_l9 K42 K96 K189 K200 Q n) K42 K96 K189 K200 Q := by
        intro v hv tok
        have hlt := h1.t3.1 tok
        unfold w_M_readAny_b33
        refine ⟨zk_rng I _ _, fun n8 => ?_, fun _ => hK42 _ I h1.fr⟩
        intro g56 e56
        have I56 : zk_I g56 := by rw [e56]; exact zk_upd (L := 0) (H := 8) rfl rfl I ⟨by omega, by omega⟩
        have f : ∀ i : Int, ¬ i = 28 → g56 214 i = g 214 i := fun i hi => by rw [e56]; exact zi_u_ni hi
        have fa : ∀ (a : Nat) (i : Int), a ≠ 214 → g56 a i = g a i := fun a i ha => by rw [e56]; exact zi_u_ne ha
        have f28 : g56 214 28 = g 214 28 + 1 := by rw [e56, zi_u_eq]
        have F56 : zk_fr fr_A g g56 := by rw [e56]; exact zk_fu (zk_f0 _) (fr_SA _ _ (Or.inr (Or.inr (Or.inr (Or.inl ⟨rfl, rfl⟩)))))
        have g30 := f 30 (by decide)
        have pu : ∀ (x b : Int), (x = 9 ∨ x = 12) → b = l1 + (if x = 12 then 1 else 0) → w_M_waits x g56 (fun _ g60 => w_M_reads g60 (fun _ g63 => w_M_readAny_l9 K42 K96 K189 K200 Q n b l2 g63)) := by
          intro x b hx hb
          refine k_M_waits I56 ⟨by omega, by omega⟩ (by omega) (fun g60 I60 F60 w1 w2 w3 => ?_)
          rw [g30] at w1 w2 w3
          have k : ∀ i : Int, ¬ i = 30 → g60 214 i = g56 214 i := fun i hi => F60 _ _ (by unfold fr_M_waits; omega)
          have ka : ∀ (a : Nat) (i : Int), a ≠ 214 → a ≠ 231 → g60 a i = g a i := fun a i h1 h2 => (F60 _ _ (by unfold fr_M_waits; omega)).trans (fa a i h1)
          have k13 := k 13 (by decide); have k14 := k 14 (by decide)
          have j13 := f 13 (by decide); have j14 := f 14 (by decide)
          refine k_M_reads I60 (by rw [k14, k13, j13, j14]; exact h1.sp) (fun g63 I63 F63 p1 p2 p3 p4 => ?_)
          obtain ⟨r1, r2⟩ := h1.p (br' := b) (e' := 0) (x := x) (by omega) ⟨h1.ok, by omega⟩ I60 (zk_ft F56 F60 fr_WA) w1 w2 (fun i hi => by rw [w3 i hi, fa _ _ (by decide)]) (by rw [if_pos hx, k 28 (by decide), f28]) (fun i => ⟨ka _ _ (by decide) (by decide), ka _ _ (by decide) (by decide)⟩) (fun i hi => by rw [k i (by omega), f i (by omega)]) hb (by rw [if_neg (by omega)]; rfl) hlt I63 F63 p1 p2 p3 p4
          exact go b l2 (x :: P) g63 hl (by rw [e1]; exact r1) (fun q => by omega) (by omega)
        refine ⟨⟨by omega, by omega⟩, fun nv => ?_, fun ev => ?_⟩
        · unfold w_M_readAny_b66
          exact ⟨⟨by omega, by omega⟩, fun e => absurd e nv, fun _ => pu 9 l1 (Or.inl rfl) (by rw [if_neg (by decide)]; omega)⟩
        · unfold w_M_readAny_b66
          exact ⟨⟨by omega, by omega⟩, fun _ => pu 12 (l1 + 1) (Or.inr rfl) (by rw [if_pos rfl]), fun n => absurd ev n⟩
      refine k_M_isWord I ⟨by decide, by decide⟩ (fun v52 d1 d2 d3 => ⟨fun n52 => b33 v52 (by omega) (by omega), fun e52 => ?_⟩)
      refine k_M_isSign I ⟨by decide, by decide⟩ (fun v74 f1 f2 f3 => ⟨fun e74 => ?_, fun n74 => b33 v52 (by omega) (by omega)⟩)
      refine k_M_readCompared I ⟨I, h1.sp, h1.fs, h1.t3, by omega⟩ (fun v77 g78 I78 F78 hv hx => ⟨⟨by omega, by omega⟩, fun n77 => ?_, fun e77 => hK96 _ I78 (zk_ft h1.fr F78 fr_PA)⟩)
      have x := hx n77
      have z := h1.c x
      have u1 := z.fs; have u2 := z.sp; have u3 := z.cf
      have u4 : g78 214 13 ≤ 400 := (I78.1 214 13).2
      have u5 := z.op
      have hcn : zl_cnt 9 P ≤ g78 214 28 := by
        have := zl_dropof 9 12 9 P
        rw [if_pos (Or.inl rfl)] at this
        have := zl_of0 9 12 (zl_drop 9 P)
        omega
      refine k_M_settles I78 ⟨by decide, by decide⟩ ⟨P, z.q, by omega, fun _ => hcn⟩ (fun g82 I82 F82 s82 => ?_)
      have z2 := z.s (Or.inl rfl) (s82 P z.q)
      have v15 : g82 214 15 = g78 214 15 := F82 _ _ (by unfold fr_M_settles; omega)
      have := x.ff
      exact go l1 0 _ g82 (Or.inl rfl) z2 (fun _ => zl_dropt 9 (by decide) P) (by omega)
theorem k_M_readAny {g : zi_M} {Q : Int → zi_M → Prop} (I : zk_I g) (px0 : zy g) (px1 : g 214 28 = 0) (hQ : ∀ (v : Int) (g' : zi_M), zk_I g' → zk_fr fr_M_readAny g g' → ((-1) ≤ v ∧ v ≤ 0) → (¬ v = -1 → zz g g') → Q v g') : w_M_readAny g Q := by
  unfold w_M_readAny
  intro g1 e1
  have I1 : zk_I g1 := by rw [e1]; exact zk_upd (L := 0) (H := 40) rfl rfl I ⟨by decide, by decide⟩
  have f : ∀ i : Int, ¬ i = 30 → g1 214 i = g 214 i := fun i hi => by rw [e1]; exact zi_u_ni hi
  have fa : ∀ (a : Nat) (i : Int), a ≠ 214 → g1 a i = g a i := fun a i ha => by rw [e1]; exact zi_u_ne ha
  have F1 : zk_fr fr_A g g1 := by rw [e1]; exact zk_fu (zk_f0 _) (fr_WA _ _ (Or.inr ⟨rfl, rfl⟩))
  have f13 := f 13 (by decide); have f14 := f 14 (by decide); have f15 := f 15 (by decide); have f16 := f 16 (by decide); have f17 := f 17 (by decide); have f27 := f 27 (by decide); have f28 := f 28 (by decide)
  have c0 : 0 ≤ g 214 27 := (I.1 214 27).1
  have hz : zA 0 0 [] g g1 := by
    refine ⟨I1, by rw [f14, f13]; exact px0.sp, by rw [f15, f14]; exact px0.fs, zt3_e px0.t3 f14 f15 f16 f17, by rw [f15]; exact Int.le_refl _, by rw [f27]; exact Int.le_refl _, ?_, F1, fun i _ => ⟨fa _ _ (by decide), fa _ _ (by decide)⟩, ⟨by rw [e1, zi_u_eq]; rfl, trivial⟩, trivial, by rw [f28, px1]; rfl, rfl, ?_⟩
    · rw [f27, f15]
      have := px0.cf
      have lz : (([] : List Int).length : Int) = 0 := rfl
      omega
    · exact zp_same (zp_nil c0) f27 (fun i _ => ⟨fa _ _ (by decide), fa _ _ (by decide)⟩)
  have er : ∀ k : Int, 1 ≤ k ∧ k ≤ 3 → ∀ g', zk_I g' → zk_fr fr_A g g' → w_M_errs k g' (fun v g'' => Q v g'') := by
    intro k hk g' I' F'
    refine k_M_errs I' hk (fun v g'' I'' F'' hv _ => ?_)
    exact hQ _ _ I'' (zk_ft F' F'' (fun a i h => fr_PA a i (fr_XP a i h))) ⟨by omega, by omega⟩ (fun n => by omega)
  have p15 : 0 ≤ g 214 15 := (I.1 214 15).1
  exact ⟨802, k_M_readAny_l9 (er 3 ⟨by decide, by decide⟩) (fun g' I' F' => hQ _ _ I' F' ⟨by decide, by decide⟩ (fun n => absurd rfl n)) (er 1 ⟨by decide, by decide⟩) (fun g' z => hQ _ _ z.I z.fr ⟨by decide, by decide⟩ (fun _ => z)) 802 0 1 [] g1 (Or.inr rfl) hz (fun q => by omega) (by omega)⟩

-- SpoutNewsModel.readLaw()I
noncomputable def fr_M_readLaw (a : Nat) (i : Int) : Prop := a = 225 ∨ a = 226 ∨ a = 227 ∨ a = 228 ∨ a = 229 ∨ a = 230 ∨ a = 231 ∨ (a = 214 ∧ i = 14) ∨ (a = 214 ∧ i = 15) ∨ (a = 214 ∧ i = 16) ∨ (a = 214 ∧ i = 17) ∨ (a = 214 ∧ i = 27) ∨ (a = 214 ∧ i = 28) ∨ (a = 214 ∧ i = 30) ∨ (a = 214 ∧ i = 31) ∨ (a = 214 ∧ i = 32)
theorem k_M_readLaw_l2 {g0 : zi_M} {K15 K58 K90 K111 : zi_M → Prop} {K128 : Int → zi_M → Prop} {Q : Int → zi_M → Prop} (hK15 : ∀ g, zk_I g → zk_fr fr_L g0 g → K15 g) (hK58 : ∀ g, zk_I g → zk_fr fr_L g0 g → K58 g) (hK90 : ∀ g, zk_I g → zk_fr fr_L g0 g → K90 g) (hK111 : ∀ g, zk_I g → zk_fr fr_L g0 g → K111 g) (hK128 : ∀ k g, 0 ≤ k → k ≤ 16 → zL k g0 g → K128 k g) :
    ∀ (n : Nat) (l1 : Int) (g : zi_M), 0 ≤ l1 → l1 ≤ 16 → zL l1 g0 g → 16 - l1 < (n : Int) → w_M_readLaw_l2 K15 K58 K90 K111 K128 Q n l1 g
  | 0, l1, g, h0, h1, h, hm => by exfalso; omega
  | n + 1, l1, g, h0, h1, h, hm => by
    have y := h.y
    have I := y.I
    have t := y.t3
    unfold w_M_readLaw_l2
    refine k_M_isLineWord I (fun v1 hv0 hv1 => ⟨fun _ => hK128 _ _ h0 h1 h, fun n1 => ⟨⟨by omega, by omega⟩, fun n16 => ⟨⟨by omega, by omega⟩, ?_⟩, fun _ => hK15 _ I h.fr⟩⟩)
    have htok : ¬ g 214 16 = 0 := by omega
    have hlt := t.1 htok
    intro g6 e6
    have r17 := zk_rng I 214 17
    have I6 : zk_I g6 := by rw [e6]; exact zk_upd (L := -2147483648) (H := 2147483647) rfl rfl I r17
    have f6 : ∀ (a : Nat) (i : Int), a ≠ 225 → g6 a i = g a i := fun a i ha => by rw [e6]; exact zi_u_ne ha
    refine k_M_reads I6 (by rw [f6 _ _ (by decide), f6 _ _ (by decide)]; exact y.sp) (fun g8 I8 F8 p1 p2 p3 p4 => ?_)
    rw [f6 _ _ (by decide)] at p1
    have q1 := y.cf
    have f8 : ∀ (a : Nat) (i : Int), a ≠ 225 → a ≠ 214 → g8 a i = g a i := fun a i h1 h2 => (F8 _ _ (by unfold fr_M_reads; omega)).trans (f6 a i h1)
    have c8 : g8 214 27 = g 214 27 := (F8 _ _ (by unfold fr_M_reads; omega)).trans (f6 _ _ (by decide))
    have o8 : g8 214 28 = g 214 28 := (F8 _ _ (by unfold fr_M_reads; omega)).trans (f6 _ _ (by decide))
    have r27 : 0 ≤ g8 214 27 ∧ g8 214 27 ≤ 400 := I8.1 214 27
    intro g10 e10
    have I10 : zk_I g10 := by rw [e10]; exact zk_u226 I8 (by omega) r27
    have f10 : ∀ (a : Nat) (i : Int), a ≠ 226 → g10 a i = g8 a i := fun a i ha => by rw [e10]; exact zi_u_ne ha
    have k10 : g10 226 (32 + l1) = g 214 27 := by rw [e10, zi_u_eq, c8]
    have j10 : ∀ i : Int, ¬ i = 32 + l1 → g10 226 i = g 226 i := fun i hi => by rw [e10, zi_u_ni hi]; exact f8 _ _ (by decide) (by decide)
    have c10 : g10 214 27 = g 214 27 := (f10 _ _ (by decide)).trans c8
    have y10 : zy g10 := by
      refine ⟨I10, ?_, ?_, zt3_e p4 (f10 _ _ (by decide)) (f10 _ _ (by decide)) (f10 _ _ (by decide)) (f10 _ _ (by decide)), ?_⟩
      · rw [f10 _ _ (by decide), f10 _ _ (by decide)]; exact p2
      · rw [f10 _ _ (by decide), f10 _ _ (by decide)]; exact p3
      · rw [c10, f10 _ _ (by decide)]; omega
    have F10 : zk_fr fr_L g g10 := by
      rw [e10]
      refine zk_fu (zk_ft ?_ F8 fr_RL) (Or.inr (Or.inl rfl))
      rw [e6]
      exact zk_fu (zk_f0 _) (Or.inl rfl)
    have L10 : zLd g10 l1 := zLd_c h.ls (fun l hl => ⟨j10 _ (by omega), (f10 _ _ (by decide)).trans (f8 _ _ (by decide) (by decide)), (f10 _ _ (by decide)).trans (f8 _ _ (by decide) (by decide))⟩) (by omega) (fun i _ => ⟨(f10 _ _ (by decide)).trans (f8 _ _ (by decide) (by decide)), (f10 _ _ (by decide)).trans (f8 _ _ (by decide) (by decide))⟩)
    refine k_M_readSum I10 y10 (fun v11 g12 I12 F12 hv11 hx => ⟨⟨by omega, by omega⟩, fun n11 => ?_, fun _ => hK58 _ I12 (zk_ft (zk_ft h.fr F10 (fun _ _ e => e)) F12 fr_PL)⟩)
    have x := hx n11
    have z1 := x.dp _ _ (zp_nil (g := g10) (by omega))
    have f12 : ∀ (a : Nat) (i : Int), a ≠ 214 → a ≠ 229 → a ≠ 230 → g12 a i = g10 a i := fun a i h1 h2 h3 => x.fr _ _ (by unfold fr_P; omega)
    have o12 : g12 214 28 = 0 := by rw [x.fr 214 28 (by unfold fr_P; omega), f10 _ _ (by decide), o8]; exact h.op
    have x1 := x.cc; have x2 := x.cf; have x3 := y10.cf
    have L12 : zLd g12 l1 := zLd_c L10 (fun l hl => ⟨f12 _ _ (by decide) (by decide) (by decide), f12 _ _ (by decide) (by decide) (by decide), f12 _ _ (by decide) (by decide) (by decide)⟩) x1 x.lo
    have r12 : 0 ≤ g12 214 27 ∧ g12 214 27 ≤ 400 := I12.1 214 27
    intro g15 e15
    have I15 : zk_I g15 := by rw [e15]; exact zk_u227 I12 (by omega) r12
    have f15 : ∀ (a : Nat) (i : Int), a ≠ 227 → g15 a i = g12 a i := fun a i ha => by rw [e15]; exact zi_u_ne ha
    have k15 : g15 227 (32 + l1) = g12 214 27 := by rw [e15, zi_u_eq]
    have j15 : ∀ i : Int, ¬ i = 32 + l1 → g15 227 i = g12 227 i := fun i hi => by rw [e15]; exact zi_u_ni hi
    have c15 : g15 214 27 = g12 214 27 := f15 _ _ (by decide)
    have L15 : zLd g15 l1 := zLd_c L12 (fun l hl => ⟨f15 _ _ (by decide), j15 _ (by omega), f15 _ _ (by decide)⟩) (by omega) (fun i _ => ⟨f15 _ _ (by decide), f15 _ _ (by decide)⟩)
    have F15 : zk_fr fr_L g g15 := by rw [e15]; exact zk_fu (zk_ft F10 x.fr fr_PL) (Or.inr (Or.inr (Or.inl rfl)))
    have m15 : g15 226 (32 + l1) = g 214 27 := by rw [f15 _ _ (by decide), f12 _ _ (by decide) (by decide) (by decide), k10]
    have y15 : zy g15 := by
      refine ⟨I15, ?_, ?_, zt3_e x.t3 (f15 _ _ (by decide)) (f15 _ _ (by decide)) (f15 _ _ (by decide)) (f15 _ _ (by decide)), ?_⟩
      · rw [f15 _ _ (by decide), f15 _ _ (by decide)]; exact x.sp
      · rw [f15 _ _ (by decide), f15 _ _ (by decide)]; exact x.fs
      · rw [c15, f15 _ _ (by decide)]; omega
    have s15 : zj_seg (zp_o g15) (zp_a g15) (g 214 27) (g12 214 27 - g 214 27).toNat := by
      have z2 := z1.2.2.2.1
      rw [c10] at z2
      exact zj_segc z2 (fun k _ _ => f15 229 (800 + k) (by decide)) (fun k _ _ => f15 230 (800 + k) (by decide))
    have o15 : g15 214 28 = 0 := (f15 _ _ (by decide)).trans o12
    -- the line's end
    have b92 : ∀ g17, zy g17 → g17 214 28 = 0 → zk_fr fr_L g g17 → zLd g17 l1 → g17 226 (32 + l1) = g 214 27 → g17 227 (32 + l1) = g12 214 27 → g12 214 27 ≤ g17 214 27 → zj_seg (zp_o g17) (zp_a g17) (g 214 27) (g12 214 27 - g 214 27).toNat → zj_seg (zp_o g17) (zp_a g17) (g12 214 27) (g17 214 27 - g12 214 27).toNat →
        w_M_readLaw_b92 l1 (32 + l1) g17 (w_M_readLaw_l2 K15 K58 K90 K111 K128 Q n) K15 K58 K90 K111 K128 Q := by
      intro g17 y17 o17 F17 L17 m1 m2 m3 s1 s2
      unfold w_M_readLaw_b92
      refine ⟨⟨by omega, by omega⟩, ?_⟩
      intro g20 e20
      have r17 : 0 ≤ g17 214 27 ∧ g17 214 27 ≤ 400 := y17.I.1 214 27
      have I20 : zk_I g20 := by rw [e20]; exact zk_u228 y17.I (by omega) r17
      have f20 : ∀ (a : Nat) (i : Int), a ≠ 228 → g20 a i = g17 a i := fun a i ha => by rw [e20]; exact zi_u_ne ha
      have F20 : zk_fr fr_L g g20 := by rw [e20]; exact zk_fu F17 (Or.inr (Or.inr (Or.inr (Or.inl rfl))))
      have t20 : zt3 g20 := zt3_e y17.t3 (f20 _ _ (by decide)) (f20 _ _ (by decide)) (f20 _ _ (by decide)) (f20 _ _ (by decide))
      refine k_M_isSign I20 ⟨by decide, by decide⟩ (fun v21 d1 d2 d3 => ⟨fun n21 => ?_, fun _ => hK111 _ I20 (zk_ft h.fr F20 (fun _ _ e => e))⟩)
      have lt20 := t20.1 (by omega)
      refine k_M_reads I20 (by rw [f20 _ _ (by decide), f20 _ _ (by decide)]; exact y17.sp) (fun g25 I25 F25 p1 p2 p3 p4 => ?_)
      have f25 : ∀ (a : Nat) (i : Int), a ≠ 214 → g25 a i = g20 a i := fun a i ha => F25 _ _ (by unfold fr_M_reads; omega)
      have c25 : g25 214 27 = g17 214 27 := (F25 _ _ (by unfold fr_M_reads; omega)).trans (f20 _ _ (by decide))
      have o25 : g25 214 28 = 0 := ((F25 _ _ (by unfold fr_M_reads; omega)).trans (f20 _ _ (by decide))).trans o17
      have u1 := y17.cf
      have u2 : g20 214 15 = g17 214 15 := f20 _ _ (by decide)
      have fo : ∀ i, g25 229 i = g17 229 i ∧ g25 230 i = g17 230 i := fun i => ⟨(f25 _ _ (by decide)).trans (f20 _ _ (by decide)), (f25 _ _ (by decide)).trans (f20 _ _ (by decide))⟩
      have j20 : ∀ i : Int, ¬ i = 32 + l1 → g25 228 i = g17 228 i := fun i hi => by rw [f25 _ _ (by decide), e20]; exact zi_u_ni hi
      have L25 : zLd g25 l1 := zLd_c L17 (fun l hl => ⟨(f25 _ _ (by decide)).trans (f20 _ _ (by decide)), (f25 _ _ (by decide)).trans (f20 _ _ (by decide)), j20 _ (by omega)⟩) (by omega) (fun i _ => fo i)
      have L26 : zLd g25 (l1 + 1) := zLd_s (a := g 214 27) (b := g12 214 27) (c := g17 214 27) L25 (by rw [f25 _ _ (by decide), f20 _ _ (by decide), m1]) (by rw [f25 _ _ (by decide), f20 _ _ (by decide), m2]) (by rw [f25 _ _ (by decide), e20, zi_u_eq]) ⟨by omega, by omega, m3, by omega⟩
        (zj_segc s1 (fun k _ _ => (fo (800 + k)).1) (fun k _ _ => (fo (800 + k)).2)) (zj_segc s2 (fun k _ _ => (fo (800 + k)).1) (fun k _ _ => (fo (800 + k)).2))
      exact k_M_readLaw_l2 hK15 hK58 hK90 hK111 hK128 n (l1 + 1) g25 (by omega) (by omega) ⟨⟨I25, p2, p3, p4, by omega⟩, o25, zk_ft (zk_ft h.fr F20 (fun _ _ e => e)) F25 fr_RL, L26⟩ (by omega)
    refine k_M_isWord I15 ⟨by decide, by decide⟩ (fun v16 d1 d2 d3 => ⟨fun _ => ?_, fun n16 => ?_⟩)
    · refine b92 g15 y15 o15 F15 L15 m15 k15 (by omega) s15 ?_
      rw [c15, Int.sub_self]
      exact fun i hi => absurd hi (Nat.not_lt_zero i)
    · have lt15 := y15.t3.1 (by omega)
      refine k_M_reads I15 y15.sp (fun g29 I29 F29 p1 p2 p3 p4 => ?_)
      have f29 : ∀ (a : Nat) (i : Int), a ≠ 214 → g29 a i = g15 a i := fun a i ha => F29 _ _ (by unfold fr_M_reads; omega)
      have c29 : g29 214 27 = g12 214 27 := (F29 _ _ (by unfold fr_M_reads; omega)).trans c15
      have o29 : g29 214 28 = 0 := (F29 _ _ (by unfold fr_M_reads; omega)).trans o15
      have u1 := y15.cf
      have y29 : zy g29 := ⟨I29, p2, p3, p4, by omega⟩
      refine k_M_readAny I29 y29 o29 (fun v31 g32 I32 F32 hv31 hz => ⟨⟨by omega, by omega⟩, fun n31 => ?_, fun _ => hK90 _ I32 (zk_ft (zk_ft (zk_ft h.fr F15 (fun _ _ e => e)) F29 fr_RL) F32 fr_AL)⟩)
      have z := hz n31
      have f32 : ∀ (a : Nat) (i : Int), a ≠ 214 → a ≠ 229 → a ≠ 230 → a ≠ 231 → g32 a i = g15 a i := fun a i h1 h2 h3 h4 => (z.fr _ _ (by unfold fr_A; omega)).trans (f29 a i h1)
      have w1 := z.cc
      have fo : ∀ i : Int, i < 800 + g12 214 27 → g32 229 i = g15 229 i ∧ g32 230 i = g15 230 i := fun i hi => ⟨(z.lo i (by omega)).1.trans (f29 _ _ (by decide)), (z.lo i (by omega)).2.trans (f29 _ _ (by decide))⟩
      have L32 : zLd g32 l1 := zLd_c L15 (fun l hl => ⟨f32 _ _ (by decide) (by decide) (by decide) (by decide), f32 _ _ (by decide) (by decide) (by decide) (by decide), f32 _ _ (by decide) (by decide) (by decide) (by decide)⟩) (by omega) (fun i hi => fo i (by omega))
      refine b92 g32 ⟨I32, z.sp, z.fs, z.t3, z.cf⟩ z.op (zk_ft (zk_ft F15 F29 fr_RL) z.fr fr_AL) L32 (by rw [f32 _ _ (by decide) (by decide) (by decide) (by decide)]; exact m15) (by rw [f32 _ _ (by decide) (by decide) (by decide) (by decide)]; exact k15) (by omega) ?_ ?_
      · exact zj_segc s15 (fun k k1 k2 => (fo (800 + k) (by omega)).1) (fun k k1 k2 => (fo (800 + k) (by omega)).2)
      · have := z.dp.2.2.2.1
        rw [c29] at this
        exact this
theorem k_M_readLaw {g : zi_M} {Q : Int → zi_M → Prop} (I : zk_I g) (px0 : zy g) (px1 : g 214 28 = 0) (hQ : ∀ (v : Int) (g' : zi_M), zk_I g' → zk_fr fr_M_readLaw g g' → ((-1) ≤ v ∧ v ≤ 16) → (¬ v = -1 → zLd g' v) → Q v g') : w_M_readLaw g Q := by
  unfold w_M_readLaw
  have er : ∀ k : Int, 1 ≤ k ∧ k ≤ 3 → ∀ g', zk_I g' → zk_fr fr_L g g' → w_M_errs k g' (fun v g'' => Q v g'') := by
    intro k hk g' I' F'
    refine k_M_errs I' hk (fun v g'' I'' F'' hv _ => ?_)
    exact hQ _ _ I'' (zk_ft F' F'' (fun a i h => fr_PL a i (fr_XP a i h))) ⟨by omega, by omega⟩ (fun n => by omega)
  refine ⟨17, k_M_readLaw_l2 (er 3 ⟨by decide, by decide⟩) (fun g' I' F' => hQ _ _ I' F' ⟨by decide, by decide⟩ (fun n => absurd rfl n)) (fun g' I' F' => hQ _ _ I' F' ⟨by decide, by decide⟩ (fun n => absurd rfl n)) (er 1 ⟨by decide, by decide⟩) (fun k g' k0 k1 L => ?_) 17 0 g (by decide) (by decide) ⟨px0, px1, zk_f0 _, zLd_0 _⟩ (by decide)⟩
  exact ⟨zk_rng L.y.I _ _, fun _ => er 1 ⟨by decide, by decide⟩ g' L.y.I L.fr, fun _ => hQ _ _ L.y.I L.fr ⟨by omega, by omega⟩ (fun _ => L.ls)⟩

-- SpoutNewsModel.readNumber(II)I
noncomputable def fr_M_readNumber (a : Nat) (i : Int) : Prop := (a = 214 ∧ i = 14) ∨ (a = 214 ∧ i = 15) ∨ (a = 214 ∧ i = 16) ∨ (a = 214 ∧ i = 17) ∨ (a = 214 ∧ i = 31) ∨ (a = 214 ∧ i = 32)
set_option maxRecDepth 100000 in
set_option maxHeartbeats 4000000 in
theorem k_M_readNumber {l1 : Int} {l2 : Int} {g : zi_M} {Q : Int → zi_M → Prop} (I : zk_I g) (p1 : 0 ≤ l1 ∧ l1 ≤ 0) (p2 : (-1) ≤ l2 ∧ l2 ≤ 999) (px0 : g 214 14 ≤ g 214 13) (px1 : g 214 15 ≤ g 214 14) (px2 : zt3 g) (hQ : ∀ (v : Int) (g' : zi_M), zk_I g' → zk_fr fr_M_readNumber g g' → ((-1) ≤ v ∧ v ≤ 100000) → (¬ v = -1 → l1 ≤ v ∧ v ≤ l2) → (g' 214 14 ≤ g' 214 13) → (g' 214 15 ≤ g' 214 14) → (zt3 g') → (g 214 15 ≤ g' 214 15) → Q v g') : w_M_readNumber l1 l2 g Q := by
  unfold w_M_readNumber
  have m_1 : 0 ≤ (g 214 16) ∧ (g 214 16) ≤ 4 := I.1 214 16
  refine ⟨⟨by omega, by omega⟩, ?_⟩
  refine ⟨fun c15 => ?_, fun c15 => ?_⟩
  · have m_2 : (-1) ≤ (g 214 17) ∧ (g 214 17) ≤ 100000 := I.1 214 17
    refine k_M_isIn I ⟨by omega, by omega⟩ ⟨by omega, by omega⟩ ⟨by omega, by omega⟩ (fun v2 b_3 b_4 b_5 => ?_)
    refine ⟨fun c11 => ?_, fun c11 => ?_⟩
    · have m_6 : 0 ≤ (g 214 14) ∧ (g 214 14) ≤ 400 := I.1 214 14
      have m_7 : 0 ≤ (g 214 13) ∧ (g 214 13) ≤ 400 := I.1 214 13
      refine k_M_reads I (by omega) (fun g6 I_12 F_13 b_8 b_9 b_10 b_11 => ?_)
      have F_14 : zk_fr fr_M_readNumber g g6 := zk_ft (zk_f0 _) F_13 (fun a i => (fun h => Or.elim h (fun h => (Or.inl h)) (fun h => Or.elim h (fun h => (Or.inr (Or.inl h))) (fun h => Or.elim h (fun h => (Or.inr (Or.inr (Or.inl h)))) (fun h => (Or.inr (Or.inr (Or.inr (Or.inl h)))))))))
      have m_15 : 0 ≤ (g6 214 14) ∧ (g6 214 14) ≤ 400 := I_12.1 214 14
      have m_16 : 0 ≤ (g6 214 13) ∧ (g6 214 13) ≤ 400 := I_12.1 214 13
      have m_17 : g6 214 13 = g 214 13 := F_13 _ _ (by unfold fr_M_reads; omega)
      have m_18 : 0 ≤ (g6 214 15) ∧ (g6 214 15) ≤ 400 := I_12.1 214 15
      exact hQ _ _ I_12 F_14 ⟨by omega, by omega⟩ (by omega) (by omega) (by omega) (by repeat first | assumption | refine zt3_u (by assumption) (by decide) ?_ | refine (by assumption : zt3 _ → zt3 _) ?_) (by omega)
    · refine k_M_errs I ⟨by omega, by omega⟩ (fun v8 g9 I_21 F_22 b_19 b_20 => ?_)
      have F_23 : zk_fr fr_M_readNumber g g9 := zk_ft (zk_f0 _) F_22 (fun a i => (fun h => Or.elim h (fun h => (Or.inr (Or.inr (Or.inr (Or.inr (Or.inl h)))))) (fun h => (Or.inr (Or.inr (Or.inr (Or.inr (Or.inr h))))))))
      have m_24 : 0 ≤ (g9 214 14) ∧ (g9 214 14) ≤ 400 := I_21.1 214 14
      have m_25 : g9 214 14 = g 214 14 := F_22 _ _ (by unfold fr_M_errs; omega)
      have m_26 : 0 ≤ (g 214 14) ∧ (g 214 14) ≤ 400 := I.1 214 14
      have m_27 : 0 ≤ (g9 214 13) ∧ (g9 214 13) ≤ 400 := I_21.1 214 13
      have m_28 : g9 214 13 = g 214 13 := F_22 _ _ (by unfold fr_M_errs; omega)
      have m_29 : 0 ≤ (g 214 13) ∧ (g 214 13) ≤ 400 := I.1 214 13
      have m_30 : 0 ≤ (g9 214 15) ∧ (g9 214 15) ≤ 400 := I_21.1 214 15
      have m_31 : g9 214 15 = g 214 15 := F_22 _ _ (by unfold fr_M_errs; omega)
      have m_32 : 0 ≤ (g 214 15) ∧ (g 214 15) ≤ 400 := I.1 214 15
      exact hQ _ _ I_21 F_23 ⟨by omega, by omega⟩ (by omega) (by omega) (by omega) (by repeat first | assumption | refine zt3_u (by assumption) (by decide) ?_ | refine (by assumption : zt3 _ → zt3 _) ?_) (by omega)
  · refine k_M_errs I ⟨by omega, by omega⟩ (fun v12 g13 I_35 F_36 b_33 b_34 => ?_)
    have F_37 : zk_fr fr_M_readNumber g g13 := zk_ft (zk_f0 _) F_36 (fun a i => (fun h => Or.elim h (fun h => (Or.inr (Or.inr (Or.inr (Or.inr (Or.inl h)))))) (fun h => (Or.inr (Or.inr (Or.inr (Or.inr (Or.inr h))))))))
    have m_38 : 0 ≤ (g13 214 14) ∧ (g13 214 14) ≤ 400 := I_35.1 214 14
    have m_39 : g13 214 14 = g 214 14 := F_36 _ _ (by unfold fr_M_errs; omega)
    have m_40 : 0 ≤ (g 214 14) ∧ (g 214 14) ≤ 400 := I.1 214 14
    have m_41 : 0 ≤ (g13 214 13) ∧ (g13 214 13) ≤ 400 := I_35.1 214 13
    have m_42 : g13 214 13 = g 214 13 := F_36 _ _ (by unfold fr_M_errs; omega)
    have m_43 : 0 ≤ (g 214 13) ∧ (g 214 13) ≤ 400 := I.1 214 13
    have m_44 : 0 ≤ (g13 214 15) ∧ (g13 214 15) ≤ 400 := I_35.1 214 15
    have m_45 : g13 214 15 = g 214 15 := F_36 _ _ (by unfold fr_M_errs; omega)
    have m_46 : 0 ≤ (g 214 15) ∧ (g 214 15) ≤ 400 := I.1 214 15
    exact hQ _ _ I_35 F_37 ⟨by omega, by omega⟩ (by omega) (by omega) (by omega) (by repeat first | assumption | refine zt3_u (by assumption) (by decide) ?_ | refine (by assumption : zt3 _ → zt3 _) ?_) (by omega)
-- SpoutNewsModel.readTold(III)I
noncomputable def fr_M_readTold (a : Nat) (i : Int) : Prop := (a = 214 ∧ i = 14) ∨ (a = 214 ∧ i = 15) ∨ (a = 214 ∧ i = 16) ∨ (a = 214 ∧ i = 17) ∨ (a = 214 ∧ i = 31) ∨ (a = 214 ∧ i = 32)
set_option maxRecDepth 100000 in
set_option maxHeartbeats 4000000 in
theorem k_M_readTold {l1 : Int} {l2 : Int} {l3 : Int} {g : zi_M} {Q : Int → zi_M → Prop} (I : zk_I g) (p1 : 11 ≤ l1 ∧ l1 ≤ 20) (p2 : 0 ≤ l2 ∧ l2 ≤ 0) (p3 : (-1) ≤ l3 ∧ l3 ≤ 999) (px0 : g 214 14 ≤ g 214 13) (px1 : g 214 15 ≤ g 214 14) (px2 : zt3 g) (hQ : ∀ (v : Int) (g' : zi_M), zk_I g' → zk_fr fr_M_readTold g g' → ((-1) ≤ v ∧ v ≤ 100000) → (¬ v = -1 → l2 ≤ v ∧ v ≤ l3) → (g' 214 14 ≤ g' 214 13) → (g' 214 15 ≤ g' 214 14) → (zt3 g') → (g 214 15 ≤ g' 214 15) → Q v g') : w_M_readTold l1 l2 l3 g Q := by
  unfold w_M_readTold
  have m_4 : 0 ≤ (g 214 16) ∧ (g 214 16) ≤ 4 := I.1 214 16
  have m_5 : (-1) ≤ (g 214 17) ∧ (g 214 17) ≤ 100000 := I.1 214 17
  refine k_M_isWord I ⟨by omega, by omega⟩ (fun v1 b_1 b_2 b_3 => ?_)
  refine ⟨fun c13 => ?_, fun c13 => ?_⟩
  · have m_6 : 0 ≤ (g 214 14) ∧ (g 214 14) ≤ 400 := I.1 214 14
    have m_7 : 0 ≤ (g 214 13) ∧ (g 214 13) ≤ 400 := I.1 214 13
    refine k_M_reads I (by omega) (fun g5 I_12 F_13 b_8 b_9 b_10 b_11 => ?_)
    have F_14 : zk_fr fr_M_readTold g g5 := zk_ft (zk_f0 _) F_13 (fun a i => (fun h => Or.elim h (fun h => (Or.inl h)) (fun h => Or.elim h (fun h => (Or.inr (Or.inl h))) (fun h => Or.elim h (fun h => (Or.inr (Or.inr (Or.inl h)))) (fun h => (Or.inr (Or.inr (Or.inr (Or.inl h)))))))))
    have m_15 : 0 ≤ (g5 214 14) ∧ (g5 214 14) ≤ 400 := I_12.1 214 14
    have m_16 : 0 ≤ (g5 214 13) ∧ (g5 214 13) ≤ 400 := I_12.1 214 13
    have m_17 : g5 214 13 = g 214 13 := F_13 _ _ (by unfold fr_M_reads; omega)
    have m_18 : 0 ≤ (g5 214 15) ∧ (g5 214 15) ≤ 400 := I_12.1 214 15
    refine k_M_readNumber I_12 ⟨by omega, by omega⟩ ⟨by omega, by omega⟩ (by omega) (by omega) (by repeat first | assumption | refine zt3_u (by assumption) (by decide) ?_ | refine (by assumption : zt3 _ → zt3 _) ?_) (fun v7 g8 I_25 F_26 b_19 b_20 b_21 b_22 b_23 b_24 => ?_)
    have F_27 : zk_fr fr_M_readTold g g8 := zk_ft F_14 F_26 (fun a i => (fun h => Or.elim h (fun h => (Or.inl h)) (fun h => Or.elim h (fun h => (Or.inr (Or.inl h))) (fun h => Or.elim h (fun h => (Or.inr (Or.inr (Or.inl h)))) (fun h => Or.elim h (fun h => (Or.inr (Or.inr (Or.inr (Or.inl h))))) (fun h => Or.elim h (fun h => (Or.inr (Or.inr (Or.inr (Or.inr (Or.inl h)))))) (fun h => (Or.inr (Or.inr (Or.inr (Or.inr (Or.inr h))))))))))))
    have m_28 : 0 ≤ (g8 214 14) ∧ (g8 214 14) ≤ 400 := I_25.1 214 14
    have m_29 : 0 ≤ (g8 214 13) ∧ (g8 214 13) ≤ 400 := I_25.1 214 13
    have m_30 : g8 214 13 = g5 214 13 := F_26 _ _ (by unfold fr_M_readNumber; omega)
    have m_31 : 0 ≤ (g8 214 15) ∧ (g8 214 15) ≤ 400 := I_25.1 214 15
    exact hQ _ _ I_25 F_27 ⟨by omega, by omega⟩ (by omega) (by omega) (by omega) (by repeat first | assumption | refine zt3_u (by assumption) (by decide) ?_ | refine (by assumption : zt3 _ → zt3 _) ?_) (by omega)
  · refine k_M_errs I ⟨by omega, by omega⟩ (fun v10 g11 I_34 F_35 b_32 b_33 => ?_)
    have F_36 : zk_fr fr_M_readTold g g11 := zk_ft (zk_f0 _) F_35 (fun a i => (fun h => Or.elim h (fun h => (Or.inr (Or.inr (Or.inr (Or.inr (Or.inl h)))))) (fun h => (Or.inr (Or.inr (Or.inr (Or.inr (Or.inr h))))))))
    have m_37 : 0 ≤ (g11 214 14) ∧ (g11 214 14) ≤ 400 := I_34.1 214 14
    have m_38 : g11 214 14 = g 214 14 := F_35 _ _ (by unfold fr_M_errs; omega)
    have m_39 : 0 ≤ (g 214 14) ∧ (g 214 14) ≤ 400 := I.1 214 14
    have m_40 : 0 ≤ (g11 214 13) ∧ (g11 214 13) ≤ 400 := I_34.1 214 13
    have m_41 : g11 214 13 = g 214 13 := F_35 _ _ (by unfold fr_M_errs; omega)
    have m_42 : 0 ≤ (g 214 13) ∧ (g 214 13) ≤ 400 := I.1 214 13
    have m_43 : 0 ≤ (g11 214 15) ∧ (g11 214 15) ≤ 400 := I_34.1 214 15
    have m_44 : g11 214 15 = g 214 15 := F_35 _ _ (by unfold fr_M_errs; omega)
    have m_45 : 0 ≤ (g 214 15) ∧ (g 214 15) ≤ 400 := I.1 214 15
    exact hQ _ _ I_34 F_36 ⟨by omega, by omega⟩ (by omega) (by omega) (by omega) (by repeat first | assumption | refine zt3_u (by assumption) (by decide) ?_ | refine (by assumption : zt3 _ → zt3 _) ?_) (by omega)
-- SpoutNewsModel.kindOfDeed()I
set_option maxRecDepth 100000 in
set_option maxHeartbeats 4000000 in
theorem k_M_kindOfDeed {g : zi_M} {Q : Int → zi_M → Prop} (I : zk_I g) (px0 : zt3 g) (hQ : ∀ v : Int, ((-1) ≤ v ∧ v ≤ 6) → Q v g) : w_M_kindOfDeed g Q := by
  unfold w_M_kindOfDeed
  have m_4 : 0 ≤ (g 214 16) ∧ (g 214 16) ≤ 4 := I.1 214 16
  have m_5 : (-1) ≤ (g 214 17) ∧ (g 214 17) ≤ 100000 := I.1 214 17
  refine k_M_isWord I ⟨by omega, by omega⟩ (fun v1 b_1 b_2 b_3 => ?_)
  refine ⟨fun c10 => ?_, fun c10 => ?_⟩
  · refine ⟨⟨by omega, by omega⟩, ?_⟩
    refine ⟨fun c9 => ?_, fun c9 => ?_⟩
    · exact hQ _ ⟨by omega, by omega⟩
    · refine k_M_isIn I ⟨by omega, by omega⟩ ⟨by omega, by omega⟩ ⟨by omega, by omega⟩ (fun v5 b_6 b_7 b_8 => ?_)
      refine ⟨fun c8 => ?_, fun c8 => ?_⟩
      · exact hQ _ ⟨by omega, by omega⟩
      · exact hQ _ ⟨by omega, by omega⟩
  · exact hQ _ ⟨by omega, by omega⟩
-- SpoutNewsModel.mostFor(I)I
set_option maxRecDepth 100000 in
set_option maxHeartbeats 4000000 in
theorem k_M_mostFor {l1 : Int} {g : zi_M} {Q : Int → zi_M → Prop} (I : zk_I g) (p1 : 0 ≤ l1 ∧ l1 ≤ 6) (hQ : ∀ v : Int, (¬ l1 = 2 → l1 < 3 → v = (g 214 7) - 1) → (¬ l1 = 2 → 3 ≤ l1 → 5 < l1 → v = (g 214 7) - 1) → (¬ l1 = 2 → 3 ≤ l1 → l1 ≤ 5 → v = (g 214 6) - 1) → (l1 = 2 → v = 5) → Q v g) : w_M_mostFor l1 g Q := by
  unfold w_M_mostFor
  refine ⟨⟨by omega, by omega⟩, ?_⟩
  refine ⟨fun c4 => ?_, fun c4 => ?_⟩
  · refine ⟨fun c3 => ?_, fun c3 => ?_⟩
    · have m_1 : 0 ≤ (g 214 7) ∧ (g 214 7) ≤ 8 := I.1 214 7
      have m_2 : 0 ≤ (g 214 6) ∧ (g 214 6) ≤ 10 := I.1 214 6
      exact hQ _ (by intros; omega) (by intros; omega) (by intros; omega) (by intros; omega)
    · refine ⟨fun c2 => ?_, fun c2 => ?_⟩
      · have m_3 : 0 ≤ (g 214 7) ∧ (g 214 7) ≤ 8 := I.1 214 7
        have m_4 : 0 ≤ (g 214 6) ∧ (g 214 6) ≤ 10 := I.1 214 6
        exact hQ _ (by intros; omega) (by intros; omega) (by intros; omega) (by intros; omega)
      · have m_5 : 0 ≤ (g 214 6) ∧ (g 214 6) ≤ 10 := I.1 214 6
        have m_6 : 0 ≤ (g 214 7) ∧ (g 214 7) ≤ 8 := I.1 214 7
        exact hQ _ (by intros; omega) (by intros; omega) (by intros; omega) (by intros; omega)
  · have m_7 : 0 ≤ (g 214 7) ∧ (g 214 7) ≤ 8 := I.1 214 7
    have m_8 : 0 ≤ (g 214 6) ∧ (g 214 6) ≤ 10 := I.1 214 6
    exact hQ _ (by intros; omega) (by intros; omega) (by intros; omega) (by intros; omega)
-- SpoutNewsModel.readMark(I)I
noncomputable def fr_M_readMark (a : Nat) (i : Int) : Prop := (a = 214 ∧ i = 14) ∨ (a = 214 ∧ i = 15) ∨ (a = 214 ∧ i = 16) ∨ (a = 214 ∧ i = 17) ∨ (a = 214 ∧ i = 31) ∨ (a = 214 ∧ i = 32)
set_option maxRecDepth 100000 in
set_option maxHeartbeats 4000000 in
theorem k_M_readMark {l1 : Int} {g : zi_M} {Q : Int → zi_M → Prop} (I : zk_I g) (p1 : 59 ≤ l1 ∧ l1 ≤ 59) (px0 : g 214 14 ≤ g 214 13) (px1 : g 214 15 ≤ g 214 14) (px2 : zt3 g) (hQ : ∀ (v : Int) (g' : zi_M), zk_I g' → zk_fr fr_M_readMark g g' → ((-1) ≤ v ∧ v ≤ 0) → (g' 214 14 ≤ g' 214 13) → (g' 214 15 ≤ g' 214 14) → (zt3 g') → (g 214 15 ≤ g' 214 15) → Q v g') : w_M_readMark l1 g Q := by
  unfold w_M_readMark
  have m_4 : 0 ≤ (g 214 16) ∧ (g 214 16) ≤ 4 := I.1 214 16
  have m_5 : (-1) ≤ (g 214 17) ∧ (g 214 17) ≤ 100000 := I.1 214 17
  refine k_M_isSign I ⟨by omega, by omega⟩ (fun v1 b_1 b_2 b_3 => ?_)
  refine ⟨fun c10 => ?_, fun c10 => ?_⟩
  · have m_6 : 0 ≤ (g 214 14) ∧ (g 214 14) ≤ 400 := I.1 214 14
    have m_7 : 0 ≤ (g 214 13) ∧ (g 214 13) ≤ 400 := I.1 214 13
    refine k_M_reads I (by omega) (fun g5 I_12 F_13 b_8 b_9 b_10 b_11 => ?_)
    have F_14 : zk_fr fr_M_readMark g g5 := zk_ft (zk_f0 _) F_13 (fun a i => (fun h => Or.elim h (fun h => (Or.inl h)) (fun h => Or.elim h (fun h => (Or.inr (Or.inl h))) (fun h => Or.elim h (fun h => (Or.inr (Or.inr (Or.inl h)))) (fun h => (Or.inr (Or.inr (Or.inr (Or.inl h)))))))))
    have m_15 : 0 ≤ (g5 214 14) ∧ (g5 214 14) ≤ 400 := I_12.1 214 14
    have m_16 : 0 ≤ (g5 214 13) ∧ (g5 214 13) ≤ 400 := I_12.1 214 13
    have m_17 : g5 214 13 = g 214 13 := F_13 _ _ (by unfold fr_M_reads; omega)
    have m_18 : 0 ≤ (g5 214 15) ∧ (g5 214 15) ≤ 400 := I_12.1 214 15
    exact hQ _ _ I_12 F_14 ⟨by omega, by omega⟩ (by omega) (by omega) (by repeat first | assumption | refine zt3_u (by assumption) (by decide) ?_ | refine (by assumption : zt3 _ → zt3 _) ?_) (by omega)
  · refine k_M_errs I ⟨by omega, by omega⟩ (fun v7 g8 I_21 F_22 b_19 b_20 => ?_)
    have F_23 : zk_fr fr_M_readMark g g8 := zk_ft (zk_f0 _) F_22 (fun a i => (fun h => Or.elim h (fun h => (Or.inr (Or.inr (Or.inr (Or.inr (Or.inl h)))))) (fun h => (Or.inr (Or.inr (Or.inr (Or.inr (Or.inr h))))))))
    have m_24 : 0 ≤ (g8 214 14) ∧ (g8 214 14) ≤ 400 := I_21.1 214 14
    have m_25 : g8 214 14 = g 214 14 := F_22 _ _ (by unfold fr_M_errs; omega)
    have m_26 : 0 ≤ (g 214 14) ∧ (g 214 14) ≤ 400 := I.1 214 14
    have m_27 : 0 ≤ (g8 214 13) ∧ (g8 214 13) ≤ 400 := I_21.1 214 13
    have m_28 : g8 214 13 = g 214 13 := F_22 _ _ (by unfold fr_M_errs; omega)
    have m_29 : 0 ≤ (g 214 13) ∧ (g 214 13) ≤ 400 := I.1 214 13
    have m_30 : 0 ≤ (g8 214 15) ∧ (g8 214 15) ≤ 400 := I_21.1 214 15
    have m_31 : g8 214 15 = g 214 15 := F_22 _ _ (by unfold fr_M_errs; omega)
    have m_32 : 0 ≤ (g 214 15) ∧ (g 214 15) ≤ 400 := I.1 214 15
    exact hQ _ _ I_21 F_23 ⟨by omega, by omega⟩ (by omega) (by omega) (by repeat first | assumption | refine zt3_u (by assumption) (by decide) ?_ | refine (by assumption : zt3 _ → zt3 _) ?_) (by omega)
-- SpoutNewsModel.readDeed(I)I
noncomputable def fr_M_readDeed (a : Nat) (i : Int) : Prop := a = 234 ∨ (a = 214 ∧ i = 14) ∨ (a = 214 ∧ i = 15) ∨ (a = 214 ∧ i = 16) ∨ (a = 214 ∧ i = 17) ∨ (a = 214 ∧ i = 31) ∨ (a = 214 ∧ i = 32)
set_option maxRecDepth 100000 in
set_option maxHeartbeats 4000000 in
theorem k_M_readDeed {l1 : Int} {g : zi_M} {Q : Int → zi_M → Prop} (I : zk_I g) (p1 : 64 ≤ l1 ∧ l1 ≤ 124) (px0 : g 214 14 ≤ g 214 13) (px1 : g 214 15 ≤ g 214 14) (px2 : zt3 g) (hQ : ∀ (v : Int) (g' : zi_M), zk_I g' → zk_fr fr_M_readDeed g g' → ((-1) ≤ v ∧ v ≤ 0) → (g' 214 14 ≤ g' 214 13) → (g' 214 15 ≤ g' 214 14) → (zt3 g') → (g 214 15 ≤ g' 214 15) → (¬ v = -1 → zj_deed (g' 234 (l1 + 1)) (g' 234 (l1 + 2)) (g' 234 (l1 + 3))) → (∀ i : Int, i < l1 → g' 234 i = g 234 i) → Q v g') : w_M_readDeed l1 g Q := by
  unfold w_M_readDeed
  have m_1 : 0 ≤ (g 214 14) ∧ (g 214 14) ≤ 400 := I.1 214 14
  have m_2 : 0 ≤ (g 214 13) ∧ (g 214 13) ≤ 400 := I.1 214 13
  have m_3 : 0 ≤ (g 214 15) ∧ (g 214 15) ≤ 400 := I.1 214 15
  refine k_M_readTold I ⟨by omega, by omega⟩ ⟨by omega, by omega⟩ ⟨by omega, by omega⟩ (by omega) (by omega) (by repeat first | assumption | refine zt3_u (by assumption) (by decide) ?_ | refine (by assumption : zt3 _ → zt3 _) ?_) (fun v1 g2 I_10 F_11 b_4 b_5 b_6 b_7 b_8 b_9 => ?_)
  have F_12 : zk_fr fr_M_readDeed g g2 := zk_ft (zk_f0 _) F_11 (fun a i => (fun h => Or.elim h (fun h => (Or.inr (Or.inl h))) (fun h => Or.elim h (fun h => (Or.inr (Or.inr (Or.inl h)))) (fun h => Or.elim h (fun h => (Or.inr (Or.inr (Or.inr (Or.inl h))))) (fun h => Or.elim h (fun h => (Or.inr (Or.inr (Or.inr (Or.inr (Or.inl h)))))) (fun h => Or.elim h (fun h => (Or.inr (Or.inr (Or.inr (Or.inr (Or.inr (Or.inl h))))))) (fun h => (Or.inr (Or.inr (Or.inr (Or.inr (Or.inr (Or.inr h)))))))))))))
  refine ⟨⟨by omega, by omega⟩, ?_⟩
  intro g5 e_13
  have I_14 : zk_I g5 := by rw [e_13]; exact zk_u234 I_10 (by omega) ⟨by omega, by omega⟩
  have F_15 : zk_fr fr_M_readDeed g g5 := by rw [e_13]; exact zk_fu F_12 (Or.inl rfl)
  have m_16 : (-2147483648) ≤ (g5 234 l1) ∧ (g5 234 l1) ≤ 2147483647 := I_14.1 234 l1
  have m_17 : g5 234 l1 = v1 := by rw [e_13]; exact zi_u_eq
  refine ⟨⟨by omega, by omega⟩, ?_⟩
  refine ⟨fun c70 => ?_, fun c70 => ?_⟩
  · refine k_M_kindOfDeed I_14 (by repeat first | assumption | refine zt3_u (by assumption) (by decide) ?_ | refine (by assumption : zt3 _ → zt3 _) ?_) (fun v7 b_18 => ?_)
    refine ⟨⟨by omega, by omega⟩, ?_⟩
    refine ⟨fun c69 => ?_, fun c69 => ?_⟩
    · have m_19 : 0 ≤ (g5 214 14) ∧ (g5 214 14) ≤ 400 := I_14.1 214 14
      have m_20 : g5 214 14 = g2 214 14 := by rw [e_13]; exact zi_u_ne (by decide)
      have m_21 : 0 ≤ (g2 214 14) ∧ (g2 214 14) ≤ 400 := I_10.1 214 14
      have m_22 : 0 ≤ (g5 214 13) ∧ (g5 214 13) ≤ 400 := I_14.1 214 13
      have m_23 : g5 214 13 = g2 214 13 := by rw [e_13]; exact zi_u_ne (by decide)
      have m_24 : 0 ≤ (g2 214 13) ∧ (g2 214 13) ≤ 400 := I_10.1 214 13
      have m_25 : g2 214 13 = g 214 13 := F_11 _ _ (by unfold fr_M_readTold; omega)
      refine k_M_reads I_14 (by omega) (fun g12 I_30 F_31 b_26 b_27 b_28 b_29 => ?_)
      have F_32 : zk_fr fr_M_readDeed g g12 := zk_ft F_15 F_31 (fun a i => (fun h => Or.elim h (fun h => (Or.inr (Or.inl h))) (fun h => Or.elim h (fun h => (Or.inr (Or.inr (Or.inl h)))) (fun h => Or.elim h (fun h => (Or.inr (Or.inr (Or.inr (Or.inl h))))) (fun h => (Or.inr (Or.inr (Or.inr (Or.inr (Or.inl h))))))))))
      refine ⟨⟨by omega, by omega⟩, ?_⟩
      intro g15 e_33
      have I_34 : zk_I g15 := by rw [e_33]; exact zk_u234 I_30 (by omega) ⟨by omega, by omega⟩
      have F_35 : zk_fr fr_M_readDeed g g15 := by rw [e_33]; exact zk_fu F_32 (Or.inl rfl)
      have m_40 : 0 ≤ (g15 214 7) ∧ (g15 214 7) ≤ 8 := I_34.1 214 7
      have m_41 : g15 214 7 = g12 214 7 := by rw [e_33]; exact zi_u_ne (by decide)
      have m_42 : 0 ≤ (g12 214 7) ∧ (g12 214 7) ≤ 8 := I_30.1 214 7
      have m_43 : g12 214 7 = g5 214 7 := F_31 _ _ (by unfold fr_M_reads; omega)
      have m_44 : 0 ≤ (g5 214 7) ∧ (g5 214 7) ≤ 8 := I_14.1 214 7
      have m_45 : g5 214 7 = g2 214 7 := by rw [e_13]; exact zi_u_ne (by decide)
      have m_46 : 0 ≤ (g2 214 7) ∧ (g2 214 7) ≤ 8 := I_10.1 214 7
      have m_47 : g2 214 7 = g 214 7 := F_11 _ _ (by unfold fr_M_readTold; omega)
      have m_48 : 0 ≤ (g 214 7) ∧ (g 214 7) ≤ 8 := I.1 214 7
      have m_49 : 0 ≤ (g15 214 6) ∧ (g15 214 6) ≤ 10 := I_34.1 214 6
      have m_50 : g15 214 6 = g12 214 6 := by rw [e_33]; exact zi_u_ne (by decide)
      have m_51 : 0 ≤ (g12 214 6) ∧ (g12 214 6) ≤ 10 := I_30.1 214 6
      have m_52 : g12 214 6 = g5 214 6 := F_31 _ _ (by unfold fr_M_reads; omega)
      have m_53 : 0 ≤ (g5 214 6) ∧ (g5 214 6) ≤ 10 := I_14.1 214 6
      have m_54 : g5 214 6 = g2 214 6 := by rw [e_13]; exact zi_u_ne (by decide)
      have m_55 : 0 ≤ (g2 214 6) ∧ (g2 214 6) ≤ 10 := I_10.1 214 6
      have m_56 : g2 214 6 = g 214 6 := F_11 _ _ (by unfold fr_M_readTold; omega)
      have m_57 : 0 ≤ (g 214 6) ∧ (g 214 6) ≤ 10 := I.1 214 6
      refine k_M_mostFor I_34 ⟨by omega, by omega⟩ (fun v16 b_36 b_37 b_38 b_39 => ?_)
      have m_58 : 0 ≤ (g15 214 14) ∧ (g15 214 14) ≤ 400 := I_34.1 214 14
      have m_59 : g15 214 14 = g12 214 14 := by rw [e_33]; exact zi_u_ne (by decide)
      have m_60 : 0 ≤ (g12 214 14) ∧ (g12 214 14) ≤ 400 := I_30.1 214 14
      have m_61 : 0 ≤ (g15 214 13) ∧ (g15 214 13) ≤ 400 := I_34.1 214 13
      have m_62 : g15 214 13 = g12 214 13 := by rw [e_33]; exact zi_u_ne (by decide)
      have m_63 : 0 ≤ (g12 214 13) ∧ (g12 214 13) ≤ 400 := I_30.1 214 13
      have m_64 : g12 214 13 = g5 214 13 := F_31 _ _ (by unfold fr_M_reads; omega)
      have m_65 : 0 ≤ (g15 214 15) ∧ (g15 214 15) ≤ 400 := I_34.1 214 15
      have m_66 : g15 214 15 = g12 214 15 := by rw [e_33]; exact zi_u_ne (by decide)
      have m_67 : 0 ≤ (g12 214 15) ∧ (g12 214 15) ≤ 400 := I_30.1 214 15
      refine k_M_readNumber I_34 ⟨by omega, by omega⟩ ⟨by omega, by omega⟩ (by omega) (by omega) (by repeat first | assumption | refine zt3_u (by assumption) (by decide) ?_ | refine (by assumption : zt3 _ → zt3 _) ?_) (fun v19 g20 I_74 F_75 b_68 b_69 b_70 b_71 b_72 b_73 => ?_)
      have F_76 : zk_fr fr_M_readDeed g g20 := zk_ft F_35 F_75 (fun a i => (fun h => Or.elim h (fun h => (Or.inr (Or.inl h))) (fun h => Or.elim h (fun h => (Or.inr (Or.inr (Or.inl h)))) (fun h => Or.elim h (fun h => (Or.inr (Or.inr (Or.inr (Or.inl h))))) (fun h => Or.elim h (fun h => (Or.inr (Or.inr (Or.inr (Or.inr (Or.inl h)))))) (fun h => Or.elim h (fun h => (Or.inr (Or.inr (Or.inr (Or.inr (Or.inr (Or.inl h))))))) (fun h => (Or.inr (Or.inr (Or.inr (Or.inr (Or.inr (Or.inr h)))))))))))))
      refine ⟨⟨by omega, by omega⟩, ?_⟩
      intro g23 e_77
      have I_78 : zk_I g23 := by rw [e_77]; exact zk_u234 I_74 (by omega) ⟨by omega, by omega⟩
      have F_79 : zk_fr fr_M_readDeed g g23 := by rw [e_77]; exact zk_fu F_76 (Or.inl rfl)
      have m_80 : (-2147483648) ≤ (g23 234 (l1 + 2)) ∧ (g23 234 (l1 + 2)) ≤ 2147483647 := I_78.1 234 (l1 + 2)
      have m_81 : g23 234 (l1 + 2) = v19 := by rw [e_77]; exact zi_u_eq
      refine ⟨⟨by omega, by omega⟩, ?_⟩
      refine ⟨fun c65 => ?_, fun c65 => ?_⟩
      · refine ⟨fun c64 => ?_, fun c64 => ?_⟩
        · have m_82 : 0 ≤ (g23 214 6) ∧ (g23 214 6) ≤ 10 := I_78.1 214 6
          have m_83 : g23 214 6 = g20 214 6 := by rw [e_77]; exact zi_u_ne (by decide)
          have m_84 : 0 ≤ (g20 214 6) ∧ (g20 214 6) ≤ 10 := I_74.1 214 6
          have m_85 : g20 214 6 = g15 214 6 := F_75 _ _ (by unfold fr_M_readNumber; omega)
          have m_86 : 0 ≤ (g23 214 14) ∧ (g23 214 14) ≤ 400 := I_78.1 214 14
          have m_87 : g23 214 14 = g20 214 14 := by rw [e_77]; exact zi_u_ne (by decide)
          have m_88 : 0 ≤ (g20 214 14) ∧ (g20 214 14) ≤ 400 := I_74.1 214 14
          have m_89 : 0 ≤ (g23 214 13) ∧ (g23 214 13) ≤ 400 := I_78.1 214 13
          have m_90 : g23 214 13 = g20 214 13 := by rw [e_77]; exact zi_u_ne (by decide)
          have m_91 : 0 ≤ (g20 214 13) ∧ (g20 214 13) ≤ 400 := I_74.1 214 13
          have m_92 : g20 214 13 = g15 214 13 := F_75 _ _ (by unfold fr_M_readNumber; omega)
          have m_93 : 0 ≤ (g23 214 15) ∧ (g23 214 15) ≤ 400 := I_78.1 214 15
          have m_94 : g23 214 15 = g20 214 15 := by rw [e_77]; exact zi_u_ne (by decide)
          have m_95 : 0 ≤ (g20 214 15) ∧ (g20 214 15) ≤ 400 := I_74.1 214 15
          refine k_M_readTold I_78 ⟨by omega, by omega⟩ ⟨by omega, by omega⟩ ⟨by omega, by omega⟩ (by omega) (by omega) (by repeat first | assumption | refine zt3_u (by assumption) (by decide) ?_ | refine (by assumption : zt3 _ → zt3 _) ?_) (fun v25 g26 I_102 F_103 b_96 b_97 b_98 b_99 b_100 b_101 => ?_)
          have F_104 : zk_fr fr_M_readDeed g g26 := zk_ft F_79 F_103 (fun a i => (fun h => Or.elim h (fun h => (Or.inr (Or.inl h))) (fun h => Or.elim h (fun h => (Or.inr (Or.inr (Or.inl h)))) (fun h => Or.elim h (fun h => (Or.inr (Or.inr (Or.inr (Or.inl h))))) (fun h => Or.elim h (fun h => (Or.inr (Or.inr (Or.inr (Or.inr (Or.inl h)))))) (fun h => Or.elim h (fun h => (Or.inr (Or.inr (Or.inr (Or.inr (Or.inr (Or.inl h))))))) (fun h => (Or.inr (Or.inr (Or.inr (Or.inr (Or.inr (Or.inr h)))))))))))))
          refine ⟨⟨by omega, by omega⟩, ?_⟩
          intro g29 e_105
          have I_106 : zk_I g29 := by rw [e_105]; exact zk_u234 I_102 (by omega) ⟨by omega, by omega⟩
          have F_107 : zk_fr fr_M_readDeed g g29 := by rw [e_105]; exact zk_fu F_104 (Or.inl rfl)
          have m_108 : (-2147483648) ≤ (g29 234 (l1 + 3)) ∧ (g29 234 (l1 + 3)) ≤ 2147483647 := I_106.1 234 (l1 + 3)
          have m_109 : g29 234 (l1 + 3) = v25 := by rw [e_105]; exact zi_u_eq
          refine ⟨⟨by omega, by omega⟩, ?_⟩
          refine ⟨fun c34 => ?_, fun c34 => ?_⟩
          · have m_110 : 0 ≤ (g29 214 14) ∧ (g29 214 14) ≤ 400 := I_106.1 214 14
            have m_111 : g29 214 14 = g26 214 14 := by rw [e_105]; exact zi_u_ne (by decide)
            have m_112 : 0 ≤ (g26 214 14) ∧ (g26 214 14) ≤ 400 := I_102.1 214 14
            have m_113 : 0 ≤ (g29 214 13) ∧ (g29 214 13) ≤ 400 := I_106.1 214 13
            have m_114 : g29 214 13 = g26 214 13 := by rw [e_105]; exact zi_u_ne (by decide)
            have m_115 : 0 ≤ (g26 214 13) ∧ (g26 214 13) ≤ 400 := I_102.1 214 13
            have m_116 : g26 214 13 = g23 214 13 := F_103 _ _ (by unfold fr_M_readTold; omega)
            have m_117 : 0 ≤ (g29 214 15) ∧ (g29 214 15) ≤ 400 := I_106.1 214 15
            have m_118 : g29 214 15 = g26 214 15 := by rw [e_105]; exact zi_u_ne (by decide)
            have m_119 : 0 ≤ (g26 214 15) ∧ (g26 214 15) ≤ 400 := I_102.1 214 15
            refine k_M_readMark I_106 ⟨by omega, by omega⟩ (by omega) (by omega) (by repeat first | assumption | refine zt3_u (by assumption) (by decide) ?_ | refine (by assumption : zt3 _ → zt3 _) ?_) (fun v31 g32 I_125 F_126 b_120 b_121 b_122 b_123 b_124 => ?_)
            have F_127 : zk_fr fr_M_readDeed g g32 := zk_ft F_107 F_126 (fun a i => (fun h => Or.elim h (fun h => (Or.inr (Or.inl h))) (fun h => Or.elim h (fun h => (Or.inr (Or.inr (Or.inl h)))) (fun h => Or.elim h (fun h => (Or.inr (Or.inr (Or.inr (Or.inl h))))) (fun h => Or.elim h (fun h => (Or.inr (Or.inr (Or.inr (Or.inr (Or.inl h)))))) (fun h => Or.elim h (fun h => (Or.inr (Or.inr (Or.inr (Or.inr (Or.inr (Or.inl h))))))) (fun h => (Or.inr (Or.inr (Or.inr (Or.inr (Or.inr (Or.inr h)))))))))))))
            have m_128 : 0 ≤ (g32 214 14) ∧ (g32 214 14) ≤ 400 := I_125.1 214 14
            have m_129 : 0 ≤ (g32 214 13) ∧ (g32 214 13) ≤ 400 := I_125.1 214 13
            have m_130 : g32 214 13 = g29 214 13 := F_126 _ _ (by unfold fr_M_readMark; omega)
            have m_131 : 0 ≤ (g32 214 15) ∧ (g32 214 15) ≤ 400 := I_125.1 214 15
            have m_132 : (-2147483648) ≤ (g32 234 (l1 + 1)) ∧ (g32 234 (l1 + 1)) ≤ 2147483647 := I_125.1 234 (l1 + 1)
            have m_133 : g32 234 (l1 + 1) = g29 234 (l1 + 1) := F_126 _ _ (by unfold fr_M_readMark; omega)
            have m_134 : (-2147483648) ≤ (g29 234 (l1 + 1)) ∧ (g29 234 (l1 + 1)) ≤ 2147483647 := I_106.1 234 (l1 + 1)
            have m_135 : (-2147483648) ≤ (g26 234 (l1 + 1)) ∧ (g26 234 (l1 + 1)) ≤ 2147483647 := I_102.1 234 (l1 + 1)
            have m_136 : g26 234 (l1 + 1) = g23 234 (l1 + 1) := F_103 _ _ (by unfold fr_M_readTold; omega)
            have m_137 : (-2147483648) ≤ (g23 234 (l1 + 1)) ∧ (g23 234 (l1 + 1)) ≤ 2147483647 := I_78.1 234 (l1 + 1)
            have m_138 : (-2147483648) ≤ (g20 234 (l1 + 1)) ∧ (g20 234 (l1 + 1)) ≤ 2147483647 := I_74.1 234 (l1 + 1)
            have m_139 : g20 234 (l1 + 1) = g15 234 (l1 + 1) := F_75 _ _ (by unfold fr_M_readNumber; omega)
            have m_140 : (-2147483648) ≤ (g15 234 (l1 + 1)) ∧ (g15 234 (l1 + 1)) ≤ 2147483647 := I_34.1 234 (l1 + 1)
            have m_141 : g15 234 (l1 + 1) = v7 := by rw [e_33]; exact zi_u_eq
            have m_142 : (l1 + 1 = l1 + 2 → g23 234 (l1 + 1) = v19) ∧ (¬ l1 + 1 = l1 + 2 → g23 234 (l1 + 1) = g20 234 (l1 + 1)) := by rw [e_77]; exact zi_u_if
            have m_143 : (l1 + 1 = l1 + 3 → g29 234 (l1 + 1) = v25) ∧ (¬ l1 + 1 = l1 + 3 → g29 234 (l1 + 1) = g26 234 (l1 + 1)) := by rw [e_105]; exact zi_u_if
            have m_144 : (-2147483648) ≤ (g32 234 (l1 + 2)) ∧ (g32 234 (l1 + 2)) ≤ 2147483647 := I_125.1 234 (l1 + 2)
            have m_145 : g32 234 (l1 + 2) = g29 234 (l1 + 2) := F_126 _ _ (by unfold fr_M_readMark; omega)
            have m_146 : (-2147483648) ≤ (g29 234 (l1 + 2)) ∧ (g29 234 (l1 + 2)) ≤ 2147483647 := I_106.1 234 (l1 + 2)
            have m_147 : (-2147483648) ≤ (g26 234 (l1 + 2)) ∧ (g26 234 (l1 + 2)) ≤ 2147483647 := I_102.1 234 (l1 + 2)
            have m_148 : g26 234 (l1 + 2) = g23 234 (l1 + 2) := F_103 _ _ (by unfold fr_M_readTold; omega)
            have m_149 : (l1 + 2 = l1 + 3 → g29 234 (l1 + 2) = v25) ∧ (¬ l1 + 2 = l1 + 3 → g29 234 (l1 + 2) = g26 234 (l1 + 2)) := by rw [e_105]; exact zi_u_if
            have m_150 : (-2147483648) ≤ (g32 234 (l1 + 3)) ∧ (g32 234 (l1 + 3)) ≤ 2147483647 := I_125.1 234 (l1 + 3)
            have m_151 : g32 234 (l1 + 3) = g29 234 (l1 + 3) := F_126 _ _ (by unfold fr_M_readMark; omega)
            have z_171 : ∀ i : Int, i < l1 → g32 234 i = g 234 i := by
              intro i hi
              have m_152 : (-2147483648) ≤ (g32 234 i) ∧ (g32 234 i) ≤ 2147483647 := I_125.1 234 i
              have m_153 : g32 234 i = g29 234 i := F_126 _ _ (by unfold fr_M_readMark; omega)
              have m_154 : (-2147483648) ≤ (g29 234 i) ∧ (g29 234 i) ≤ 2147483647 := I_106.1 234 i
              have m_155 : (-2147483648) ≤ (g26 234 i) ∧ (g26 234 i) ≤ 2147483647 := I_102.1 234 i
              have m_156 : g26 234 i = g23 234 i := F_103 _ _ (by unfold fr_M_readTold; omega)
              have m_157 : (-2147483648) ≤ (g23 234 i) ∧ (g23 234 i) ≤ 2147483647 := I_78.1 234 i
              have m_158 : (-2147483648) ≤ (g20 234 i) ∧ (g20 234 i) ≤ 2147483647 := I_74.1 234 i
              have m_159 : g20 234 i = g15 234 i := F_75 _ _ (by unfold fr_M_readNumber; omega)
              have m_160 : (-2147483648) ≤ (g15 234 i) ∧ (g15 234 i) ≤ 2147483647 := I_34.1 234 i
              have m_161 : (-2147483648) ≤ (g12 234 i) ∧ (g12 234 i) ≤ 2147483647 := I_30.1 234 i
              have m_162 : g12 234 i = g5 234 i := F_31 _ _ (by unfold fr_M_reads; omega)
              have m_163 : (-2147483648) ≤ (g5 234 i) ∧ (g5 234 i) ≤ 2147483647 := I_14.1 234 i
              have m_164 : (-2147483648) ≤ (g2 234 i) ∧ (g2 234 i) ≤ 2147483647 := I_10.1 234 i
              have m_165 : g2 234 i = g 234 i := F_11 _ _ (by unfold fr_M_readTold; omega)
              have m_166 : (-2147483648) ≤ (g 234 i) ∧ (g 234 i) ≤ 2147483647 := I.1 234 i
              have m_167 : (i = l1 → g5 234 i = v1) ∧ (¬ i = l1 → g5 234 i = g2 234 i) := by rw [e_13]; exact zi_u_if
              have m_168 : (i = l1 + 1 → g15 234 i = v7) ∧ (¬ i = l1 + 1 → g15 234 i = g12 234 i) := by rw [e_33]; exact zi_u_if
              have m_169 : (i = l1 + 2 → g23 234 i = v19) ∧ (¬ i = l1 + 2 → g23 234 i = g20 234 i) := by rw [e_77]; exact zi_u_if
              have m_170 : (i = l1 + 3 → g29 234 i = v25) ∧ (¬ i = l1 + 3 → g29 234 i = g26 234 i) := by rw [e_105]; exact zi_u_if
              omega
            exact hQ _ _ I_125 F_127 ⟨by omega, by omega⟩ (by omega) (by omega) (by repeat first | assumption | refine zt3_u (by assumption) (by decide) ?_ | refine (by assumption : zt3 _ → zt3 _) ?_) (by omega) (by intro hv; unfold zj_deed; omega) z_171
          · have m_172 : 0 ≤ (g29 214 14) ∧ (g29 214 14) ≤ 400 := I_106.1 214 14
            have m_173 : g29 214 14 = g26 214 14 := by rw [e_105]; exact zi_u_ne (by decide)
            have m_174 : 0 ≤ (g26 214 14) ∧ (g26 214 14) ≤ 400 := I_102.1 214 14
            have m_175 : 0 ≤ (g29 214 13) ∧ (g29 214 13) ≤ 400 := I_106.1 214 13
            have m_176 : g29 214 13 = g26 214 13 := by rw [e_105]; exact zi_u_ne (by decide)
            have m_177 : 0 ≤ (g26 214 13) ∧ (g26 214 13) ≤ 400 := I_102.1 214 13
            have m_178 : g26 214 13 = g23 214 13 := F_103 _ _ (by unfold fr_M_readTold; omega)
            have m_179 : 0 ≤ (g29 214 15) ∧ (g29 214 15) ≤ 400 := I_106.1 214 15
            have m_180 : g29 214 15 = g26 214 15 := by rw [e_105]; exact zi_u_ne (by decide)
            have m_181 : 0 ≤ (g26 214 15) ∧ (g26 214 15) ≤ 400 := I_102.1 214 15
            have m_182 : (-2147483648) ≤ (g29 234 (l1 + 1)) ∧ (g29 234 (l1 + 1)) ≤ 2147483647 := I_106.1 234 (l1 + 1)
            have m_183 : (-2147483648) ≤ (g26 234 (l1 + 1)) ∧ (g26 234 (l1 + 1)) ≤ 2147483647 := I_102.1 234 (l1 + 1)
            have m_184 : g26 234 (l1 + 1) = g23 234 (l1 + 1) := F_103 _ _ (by unfold fr_M_readTold; omega)
            have m_185 : (-2147483648) ≤ (g23 234 (l1 + 1)) ∧ (g23 234 (l1 + 1)) ≤ 2147483647 := I_78.1 234 (l1 + 1)
            have m_186 : (-2147483648) ≤ (g20 234 (l1 + 1)) ∧ (g20 234 (l1 + 1)) ≤ 2147483647 := I_74.1 234 (l1 + 1)
            have m_187 : g20 234 (l1 + 1) = g15 234 (l1 + 1) := F_75 _ _ (by unfold fr_M_readNumber; omega)
            have m_188 : (-2147483648) ≤ (g15 234 (l1 + 1)) ∧ (g15 234 (l1 + 1)) ≤ 2147483647 := I_34.1 234 (l1 + 1)
            have m_189 : g15 234 (l1 + 1) = v7 := by rw [e_33]; exact zi_u_eq
            have m_190 : (l1 + 1 = l1 + 2 → g23 234 (l1 + 1) = v19) ∧ (¬ l1 + 1 = l1 + 2 → g23 234 (l1 + 1) = g20 234 (l1 + 1)) := by rw [e_77]; exact zi_u_if
            have m_191 : (l1 + 1 = l1 + 3 → g29 234 (l1 + 1) = v25) ∧ (¬ l1 + 1 = l1 + 3 → g29 234 (l1 + 1) = g26 234 (l1 + 1)) := by rw [e_105]; exact zi_u_if
            have m_192 : (-2147483648) ≤ (g29 234 (l1 + 2)) ∧ (g29 234 (l1 + 2)) ≤ 2147483647 := I_106.1 234 (l1 + 2)
            have m_193 : (-2147483648) ≤ (g26 234 (l1 + 2)) ∧ (g26 234 (l1 + 2)) ≤ 2147483647 := I_102.1 234 (l1 + 2)
            have m_194 : g26 234 (l1 + 2) = g23 234 (l1 + 2) := F_103 _ _ (by unfold fr_M_readTold; omega)
            have m_195 : (l1 + 2 = l1 + 3 → g29 234 (l1 + 2) = v25) ∧ (¬ l1 + 2 = l1 + 3 → g29 234 (l1 + 2) = g26 234 (l1 + 2)) := by rw [e_105]; exact zi_u_if
            have z_213 : ∀ i : Int, i < l1 → g29 234 i = g 234 i := by
              intro i hi
              have m_196 : (-2147483648) ≤ (g29 234 i) ∧ (g29 234 i) ≤ 2147483647 := I_106.1 234 i
              have m_197 : (-2147483648) ≤ (g26 234 i) ∧ (g26 234 i) ≤ 2147483647 := I_102.1 234 i
              have m_198 : g26 234 i = g23 234 i := F_103 _ _ (by unfold fr_M_readTold; omega)
              have m_199 : (-2147483648) ≤ (g23 234 i) ∧ (g23 234 i) ≤ 2147483647 := I_78.1 234 i
              have m_200 : (-2147483648) ≤ (g20 234 i) ∧ (g20 234 i) ≤ 2147483647 := I_74.1 234 i
              have m_201 : g20 234 i = g15 234 i := F_75 _ _ (by unfold fr_M_readNumber; omega)
              have m_202 : (-2147483648) ≤ (g15 234 i) ∧ (g15 234 i) ≤ 2147483647 := I_34.1 234 i
              have m_203 : (-2147483648) ≤ (g12 234 i) ∧ (g12 234 i) ≤ 2147483647 := I_30.1 234 i
              have m_204 : g12 234 i = g5 234 i := F_31 _ _ (by unfold fr_M_reads; omega)
              have m_205 : (-2147483648) ≤ (g5 234 i) ∧ (g5 234 i) ≤ 2147483647 := I_14.1 234 i
              have m_206 : (-2147483648) ≤ (g2 234 i) ∧ (g2 234 i) ≤ 2147483647 := I_10.1 234 i
              have m_207 : g2 234 i = g 234 i := F_11 _ _ (by unfold fr_M_readTold; omega)
              have m_208 : (-2147483648) ≤ (g 234 i) ∧ (g 234 i) ≤ 2147483647 := I.1 234 i
              have m_209 : (i = l1 → g5 234 i = v1) ∧ (¬ i = l1 → g5 234 i = g2 234 i) := by rw [e_13]; exact zi_u_if
              have m_210 : (i = l1 + 1 → g15 234 i = v7) ∧ (¬ i = l1 + 1 → g15 234 i = g12 234 i) := by rw [e_33]; exact zi_u_if
              have m_211 : (i = l1 + 2 → g23 234 i = v19) ∧ (¬ i = l1 + 2 → g23 234 i = g20 234 i) := by rw [e_77]; exact zi_u_if
              have m_212 : (i = l1 + 3 → g29 234 i = v25) ∧ (¬ i = l1 + 3 → g29 234 i = g26 234 i) := by rw [e_105]; exact zi_u_if
              omega
            exact hQ _ _ I_106 F_107 ⟨by omega, by omega⟩ (by omega) (by omega) (by repeat first | assumption | refine zt3_u (by assumption) (by decide) ?_ | refine (by assumption : zt3 _ → zt3 _) ?_) (by omega) (by intro hv; unfold zj_deed; omega) z_213
        · refine ⟨fun c63 => ?_, fun c63 => ?_⟩
          · refine ⟨fun c52 => ?_, fun c52 => ?_⟩
            · refine ⟨⟨by omega, by omega⟩, ?_⟩
              intro g36 e_214
              have I_215 : zk_I g36 := by rw [e_214]; exact zk_u234 I_78 (by omega) ⟨by omega, by omega⟩
              have F_216 : zk_fr fr_M_readDeed g g36 := by rw [e_214]; exact zk_fu F_79 (Or.inl rfl)
              have m_217 : (-2147483648) ≤ (g36 234 (l1 + 3)) ∧ (g36 234 (l1 + 3)) ≤ 2147483647 := I_215.1 234 (l1 + 3)
              have m_218 : g36 234 (l1 + 3) = 0 := by rw [e_214]; exact zi_u_eq
              refine ⟨⟨by omega, by omega⟩, ?_⟩
              refine ⟨fun c41 => ?_, fun c41 => ?_⟩
              · have m_219 : 0 ≤ (g36 214 14) ∧ (g36 214 14) ≤ 400 := I_215.1 214 14
                have m_220 : g36 214 14 = g23 214 14 := by rw [e_214]; exact zi_u_ne (by decide)
                have m_221 : 0 ≤ (g23 214 14) ∧ (g23 214 14) ≤ 400 := I_78.1 214 14
                have m_222 : g23 214 14 = g20 214 14 := by rw [e_77]; exact zi_u_ne (by decide)
                have m_223 : 0 ≤ (g20 214 14) ∧ (g20 214 14) ≤ 400 := I_74.1 214 14
                have m_224 : 0 ≤ (g36 214 13) ∧ (g36 214 13) ≤ 400 := I_215.1 214 13
                have m_225 : g36 214 13 = g23 214 13 := by rw [e_214]; exact zi_u_ne (by decide)
                have m_226 : 0 ≤ (g23 214 13) ∧ (g23 214 13) ≤ 400 := I_78.1 214 13
                have m_227 : g23 214 13 = g20 214 13 := by rw [e_77]; exact zi_u_ne (by decide)
                have m_228 : 0 ≤ (g20 214 13) ∧ (g20 214 13) ≤ 400 := I_74.1 214 13
                have m_229 : g20 214 13 = g15 214 13 := F_75 _ _ (by unfold fr_M_readNumber; omega)
                have m_230 : 0 ≤ (g36 214 15) ∧ (g36 214 15) ≤ 400 := I_215.1 214 15
                have m_231 : g36 214 15 = g23 214 15 := by rw [e_214]; exact zi_u_ne (by decide)
                have m_232 : 0 ≤ (g23 214 15) ∧ (g23 214 15) ≤ 400 := I_78.1 214 15
                have m_233 : g23 214 15 = g20 214 15 := by rw [e_77]; exact zi_u_ne (by decide)
                have m_234 : 0 ≤ (g20 214 15) ∧ (g20 214 15) ≤ 400 := I_74.1 214 15
                refine k_M_readMark I_215 ⟨by omega, by omega⟩ (by omega) (by omega) (by repeat first | assumption | refine zt3_u (by assumption) (by decide) ?_ | refine (by assumption : zt3 _ → zt3 _) ?_) (fun v38 g39 I_240 F_241 b_235 b_236 b_237 b_238 b_239 => ?_)
                have F_242 : zk_fr fr_M_readDeed g g39 := zk_ft F_216 F_241 (fun a i => (fun h => Or.elim h (fun h => (Or.inr (Or.inl h))) (fun h => Or.elim h (fun h => (Or.inr (Or.inr (Or.inl h)))) (fun h => Or.elim h (fun h => (Or.inr (Or.inr (Or.inr (Or.inl h))))) (fun h => Or.elim h (fun h => (Or.inr (Or.inr (Or.inr (Or.inr (Or.inl h)))))) (fun h => Or.elim h (fun h => (Or.inr (Or.inr (Or.inr (Or.inr (Or.inr (Or.inl h))))))) (fun h => (Or.inr (Or.inr (Or.inr (Or.inr (Or.inr (Or.inr h)))))))))))))
                have m_243 : 0 ≤ (g39 214 14) ∧ (g39 214 14) ≤ 400 := I_240.1 214 14
                have m_244 : 0 ≤ (g39 214 13) ∧ (g39 214 13) ≤ 400 := I_240.1 214 13
                have m_245 : g39 214 13 = g36 214 13 := F_241 _ _ (by unfold fr_M_readMark; omega)
                have m_246 : 0 ≤ (g39 214 15) ∧ (g39 214 15) ≤ 400 := I_240.1 214 15
                have m_247 : (-2147483648) ≤ (g39 234 (l1 + 1)) ∧ (g39 234 (l1 + 1)) ≤ 2147483647 := I_240.1 234 (l1 + 1)
                have m_248 : g39 234 (l1 + 1) = g36 234 (l1 + 1) := F_241 _ _ (by unfold fr_M_readMark; omega)
                have m_249 : (-2147483648) ≤ (g36 234 (l1 + 1)) ∧ (g36 234 (l1 + 1)) ≤ 2147483647 := I_215.1 234 (l1 + 1)
                have m_250 : (-2147483648) ≤ (g23 234 (l1 + 1)) ∧ (g23 234 (l1 + 1)) ≤ 2147483647 := I_78.1 234 (l1 + 1)
                have m_251 : (-2147483648) ≤ (g20 234 (l1 + 1)) ∧ (g20 234 (l1 + 1)) ≤ 2147483647 := I_74.1 234 (l1 + 1)
                have m_252 : g20 234 (l1 + 1) = g15 234 (l1 + 1) := F_75 _ _ (by unfold fr_M_readNumber; omega)
                have m_253 : (-2147483648) ≤ (g15 234 (l1 + 1)) ∧ (g15 234 (l1 + 1)) ≤ 2147483647 := I_34.1 234 (l1 + 1)
                have m_254 : g15 234 (l1 + 1) = v7 := by rw [e_33]; exact zi_u_eq
                have m_255 : (l1 + 1 = l1 + 2 → g23 234 (l1 + 1) = v19) ∧ (¬ l1 + 1 = l1 + 2 → g23 234 (l1 + 1) = g20 234 (l1 + 1)) := by rw [e_77]; exact zi_u_if
                have m_256 : (l1 + 1 = l1 + 3 → g36 234 (l1 + 1) = 0) ∧ (¬ l1 + 1 = l1 + 3 → g36 234 (l1 + 1) = g23 234 (l1 + 1)) := by rw [e_214]; exact zi_u_if
                have m_257 : (-2147483648) ≤ (g39 234 (l1 + 2)) ∧ (g39 234 (l1 + 2)) ≤ 2147483647 := I_240.1 234 (l1 + 2)
                have m_258 : g39 234 (l1 + 2) = g36 234 (l1 + 2) := F_241 _ _ (by unfold fr_M_readMark; omega)
                have m_259 : (-2147483648) ≤ (g36 234 (l1 + 2)) ∧ (g36 234 (l1 + 2)) ≤ 2147483647 := I_215.1 234 (l1 + 2)
                have m_260 : (l1 + 2 = l1 + 3 → g36 234 (l1 + 2) = 0) ∧ (¬ l1 + 2 = l1 + 3 → g36 234 (l1 + 2) = g23 234 (l1 + 2)) := by rw [e_214]; exact zi_u_if
                have m_261 : (-2147483648) ≤ (g39 234 (l1 + 3)) ∧ (g39 234 (l1 + 3)) ≤ 2147483647 := I_240.1 234 (l1 + 3)
                have m_262 : g39 234 (l1 + 3) = g36 234 (l1 + 3) := F_241 _ _ (by unfold fr_M_readMark; omega)
                have z_280 : ∀ i : Int, i < l1 → g39 234 i = g 234 i := by
                  intro i hi
                  have m_263 : (-2147483648) ≤ (g39 234 i) ∧ (g39 234 i) ≤ 2147483647 := I_240.1 234 i
                  have m_264 : g39 234 i = g36 234 i := F_241 _ _ (by unfold fr_M_readMark; omega)
                  have m_265 : (-2147483648) ≤ (g36 234 i) ∧ (g36 234 i) ≤ 2147483647 := I_215.1 234 i
                  have m_266 : (-2147483648) ≤ (g23 234 i) ∧ (g23 234 i) ≤ 2147483647 := I_78.1 234 i
                  have m_267 : (-2147483648) ≤ (g20 234 i) ∧ (g20 234 i) ≤ 2147483647 := I_74.1 234 i
                  have m_268 : g20 234 i = g15 234 i := F_75 _ _ (by unfold fr_M_readNumber; omega)
                  have m_269 : (-2147483648) ≤ (g15 234 i) ∧ (g15 234 i) ≤ 2147483647 := I_34.1 234 i
                  have m_270 : (-2147483648) ≤ (g12 234 i) ∧ (g12 234 i) ≤ 2147483647 := I_30.1 234 i
                  have m_271 : g12 234 i = g5 234 i := F_31 _ _ (by unfold fr_M_reads; omega)
                  have m_272 : (-2147483648) ≤ (g5 234 i) ∧ (g5 234 i) ≤ 2147483647 := I_14.1 234 i
                  have m_273 : (-2147483648) ≤ (g2 234 i) ∧ (g2 234 i) ≤ 2147483647 := I_10.1 234 i
                  have m_274 : g2 234 i = g 234 i := F_11 _ _ (by unfold fr_M_readTold; omega)
                  have m_275 : (-2147483648) ≤ (g 234 i) ∧ (g 234 i) ≤ 2147483647 := I.1 234 i
                  have m_276 : (i = l1 → g5 234 i = v1) ∧ (¬ i = l1 → g5 234 i = g2 234 i) := by rw [e_13]; exact zi_u_if
                  have m_277 : (i = l1 + 1 → g15 234 i = v7) ∧ (¬ i = l1 + 1 → g15 234 i = g12 234 i) := by rw [e_33]; exact zi_u_if
                  have m_278 : (i = l1 + 2 → g23 234 i = v19) ∧ (¬ i = l1 + 2 → g23 234 i = g20 234 i) := by rw [e_77]; exact zi_u_if
                  have m_279 : (i = l1 + 3 → g36 234 i = 0) ∧ (¬ i = l1 + 3 → g36 234 i = g23 234 i) := by rw [e_214]; exact zi_u_if
                  omega
                exact hQ _ _ I_240 F_242 ⟨by omega, by omega⟩ (by omega) (by omega) (by repeat first | assumption | refine zt3_u (by assumption) (by decide) ?_ | refine (by assumption : zt3 _ → zt3 _) ?_) (by omega) (by intro hv; unfold zj_deed; omega) z_280
              · have m_281 : 0 ≤ (g36 214 14) ∧ (g36 214 14) ≤ 400 := I_215.1 214 14
                have m_282 : g36 214 14 = g23 214 14 := by rw [e_214]; exact zi_u_ne (by decide)
                have m_283 : 0 ≤ (g23 214 14) ∧ (g23 214 14) ≤ 400 := I_78.1 214 14
                have m_284 : g23 214 14 = g20 214 14 := by rw [e_77]; exact zi_u_ne (by decide)
                have m_285 : 0 ≤ (g20 214 14) ∧ (g20 214 14) ≤ 400 := I_74.1 214 14
                have m_286 : 0 ≤ (g36 214 13) ∧ (g36 214 13) ≤ 400 := I_215.1 214 13
                have m_287 : g36 214 13 = g23 214 13 := by rw [e_214]; exact zi_u_ne (by decide)
                have m_288 : 0 ≤ (g23 214 13) ∧ (g23 214 13) ≤ 400 := I_78.1 214 13
                have m_289 : g23 214 13 = g20 214 13 := by rw [e_77]; exact zi_u_ne (by decide)
                have m_290 : 0 ≤ (g20 214 13) ∧ (g20 214 13) ≤ 400 := I_74.1 214 13
                have m_291 : g20 214 13 = g15 214 13 := F_75 _ _ (by unfold fr_M_readNumber; omega)
                have m_292 : 0 ≤ (g36 214 15) ∧ (g36 214 15) ≤ 400 := I_215.1 214 15
                have m_293 : g36 214 15 = g23 214 15 := by rw [e_214]; exact zi_u_ne (by decide)
                have m_294 : 0 ≤ (g23 214 15) ∧ (g23 214 15) ≤ 400 := I_78.1 214 15
                have m_295 : g23 214 15 = g20 214 15 := by rw [e_77]; exact zi_u_ne (by decide)
                have m_296 : 0 ≤ (g20 214 15) ∧ (g20 214 15) ≤ 400 := I_74.1 214 15
                have m_297 : (-2147483648) ≤ (g36 234 (l1 + 1)) ∧ (g36 234 (l1 + 1)) ≤ 2147483647 := I_215.1 234 (l1 + 1)
                have m_298 : (-2147483648) ≤ (g23 234 (l1 + 1)) ∧ (g23 234 (l1 + 1)) ≤ 2147483647 := I_78.1 234 (l1 + 1)
                have m_299 : (-2147483648) ≤ (g20 234 (l1 + 1)) ∧ (g20 234 (l1 + 1)) ≤ 2147483647 := I_74.1 234 (l1 + 1)
                have m_300 : g20 234 (l1 + 1) = g15 234 (l1 + 1) := F_75 _ _ (by unfold fr_M_readNumber; omega)
                have m_301 : (-2147483648) ≤ (g15 234 (l1 + 1)) ∧ (g15 234 (l1 + 1)) ≤ 2147483647 := I_34.1 234 (l1 + 1)
                have m_302 : g15 234 (l1 + 1) = v7 := by rw [e_33]; exact zi_u_eq
                have m_303 : (l1 + 1 = l1 + 2 → g23 234 (l1 + 1) = v19) ∧ (¬ l1 + 1 = l1 + 2 → g23 234 (l1 + 1) = g20 234 (l1 + 1)) := by rw [e_77]; exact zi_u_if
                have m_304 : (l1 + 1 = l1 + 3 → g36 234 (l1 + 1) = 0) ∧ (¬ l1 + 1 = l1 + 3 → g36 234 (l1 + 1) = g23 234 (l1 + 1)) := by rw [e_214]; exact zi_u_if
                have m_305 : (-2147483648) ≤ (g36 234 (l1 + 2)) ∧ (g36 234 (l1 + 2)) ≤ 2147483647 := I_215.1 234 (l1 + 2)
                have m_306 : (l1 + 2 = l1 + 3 → g36 234 (l1 + 2) = 0) ∧ (¬ l1 + 2 = l1 + 3 → g36 234 (l1 + 2) = g23 234 (l1 + 2)) := by rw [e_214]; exact zi_u_if
                have z_322 : ∀ i : Int, i < l1 → g36 234 i = g 234 i := by
                  intro i hi
                  have m_307 : (-2147483648) ≤ (g36 234 i) ∧ (g36 234 i) ≤ 2147483647 := I_215.1 234 i
                  have m_308 : (-2147483648) ≤ (g23 234 i) ∧ (g23 234 i) ≤ 2147483647 := I_78.1 234 i
                  have m_309 : (-2147483648) ≤ (g20 234 i) ∧ (g20 234 i) ≤ 2147483647 := I_74.1 234 i
                  have m_310 : g20 234 i = g15 234 i := F_75 _ _ (by unfold fr_M_readNumber; omega)
                  have m_311 : (-2147483648) ≤ (g15 234 i) ∧ (g15 234 i) ≤ 2147483647 := I_34.1 234 i
                  have m_312 : (-2147483648) ≤ (g12 234 i) ∧ (g12 234 i) ≤ 2147483647 := I_30.1 234 i
                  have m_313 : g12 234 i = g5 234 i := F_31 _ _ (by unfold fr_M_reads; omega)
                  have m_314 : (-2147483648) ≤ (g5 234 i) ∧ (g5 234 i) ≤ 2147483647 := I_14.1 234 i
                  have m_315 : (-2147483648) ≤ (g2 234 i) ∧ (g2 234 i) ≤ 2147483647 := I_10.1 234 i
                  have m_316 : g2 234 i = g 234 i := F_11 _ _ (by unfold fr_M_readTold; omega)
                  have m_317 : (-2147483648) ≤ (g 234 i) ∧ (g 234 i) ≤ 2147483647 := I.1 234 i
                  have m_318 : (i = l1 → g5 234 i = v1) ∧ (¬ i = l1 → g5 234 i = g2 234 i) := by rw [e_13]; exact zi_u_if
                  have m_319 : (i = l1 + 1 → g15 234 i = v7) ∧ (¬ i = l1 + 1 → g15 234 i = g12 234 i) := by rw [e_33]; exact zi_u_if
                  have m_320 : (i = l1 + 2 → g23 234 i = v19) ∧ (¬ i = l1 + 2 → g23 234 i = g20 234 i) := by rw [e_77]; exact zi_u_if
                  have m_321 : (i = l1 + 3 → g36 234 i = 0) ∧ (¬ i = l1 + 3 → g36 234 i = g23 234 i) := by rw [e_214]; exact zi_u_if
                  omega
                exact hQ _ _ I_215 F_216 ⟨by omega, by omega⟩ (by omega) (by omega) (by repeat first | assumption | refine zt3_u (by assumption) (by decide) ?_ | refine (by assumption : zt3 _ → zt3 _) ?_) (by omega) (by intro hv; unfold zj_deed; omega) z_322
            · have m_323 : 0 ≤ (g23 214 14) ∧ (g23 214 14) ≤ 400 := I_78.1 214 14
              have m_324 : g23 214 14 = g20 214 14 := by rw [e_77]; exact zi_u_ne (by decide)
              have m_325 : 0 ≤ (g20 214 14) ∧ (g20 214 14) ≤ 400 := I_74.1 214 14
              have m_326 : 0 ≤ (g23 214 13) ∧ (g23 214 13) ≤ 400 := I_78.1 214 13
              have m_327 : g23 214 13 = g20 214 13 := by rw [e_77]; exact zi_u_ne (by decide)
              have m_328 : 0 ≤ (g20 214 13) ∧ (g20 214 13) ≤ 400 := I_74.1 214 13
              have m_329 : g20 214 13 = g15 214 13 := F_75 _ _ (by unfold fr_M_readNumber; omega)
              have m_330 : 0 ≤ (g23 214 15) ∧ (g23 214 15) ≤ 400 := I_78.1 214 15
              have m_331 : g23 214 15 = g20 214 15 := by rw [e_77]; exact zi_u_ne (by decide)
              have m_332 : 0 ≤ (g20 214 15) ∧ (g20 214 15) ≤ 400 := I_74.1 214 15
              refine k_M_readNumber I_78 ⟨by omega, by omega⟩ ⟨by omega, by omega⟩ (by omega) (by omega) (by repeat first | assumption | refine zt3_u (by assumption) (by decide) ?_ | refine (by assumption : zt3 _ → zt3 _) ?_) (fun v42 g43 I_339 F_340 b_333 b_334 b_335 b_336 b_337 b_338 => ?_)
              have F_341 : zk_fr fr_M_readDeed g g43 := zk_ft F_79 F_340 (fun a i => (fun h => Or.elim h (fun h => (Or.inr (Or.inl h))) (fun h => Or.elim h (fun h => (Or.inr (Or.inr (Or.inl h)))) (fun h => Or.elim h (fun h => (Or.inr (Or.inr (Or.inr (Or.inl h))))) (fun h => Or.elim h (fun h => (Or.inr (Or.inr (Or.inr (Or.inr (Or.inl h)))))) (fun h => Or.elim h (fun h => (Or.inr (Or.inr (Or.inr (Or.inr (Or.inr (Or.inl h))))))) (fun h => (Or.inr (Or.inr (Or.inr (Or.inr (Or.inr (Or.inr h)))))))))))))
              refine ⟨⟨by omega, by omega⟩, ?_⟩
              intro g46 e_342
              have I_343 : zk_I g46 := by rw [e_342]; exact zk_u234 I_339 (by omega) ⟨by omega, by omega⟩
              have F_344 : zk_fr fr_M_readDeed g g46 := by rw [e_342]; exact zk_fu F_341 (Or.inl rfl)
              have m_345 : (-2147483648) ≤ (g46 234 (l1 + 3)) ∧ (g46 234 (l1 + 3)) ≤ 2147483647 := I_343.1 234 (l1 + 3)
              have m_346 : g46 234 (l1 + 3) = v42 := by rw [e_342]; exact zi_u_eq
              refine ⟨⟨by omega, by omega⟩, ?_⟩
              refine ⟨fun c51 => ?_, fun c51 => ?_⟩
              · have m_347 : 0 ≤ (g46 214 14) ∧ (g46 214 14) ≤ 400 := I_343.1 214 14
                have m_348 : g46 214 14 = g43 214 14 := by rw [e_342]; exact zi_u_ne (by decide)
                have m_349 : 0 ≤ (g43 214 14) ∧ (g43 214 14) ≤ 400 := I_339.1 214 14
                have m_350 : 0 ≤ (g46 214 13) ∧ (g46 214 13) ≤ 400 := I_343.1 214 13
                have m_351 : g46 214 13 = g43 214 13 := by rw [e_342]; exact zi_u_ne (by decide)
                have m_352 : 0 ≤ (g43 214 13) ∧ (g43 214 13) ≤ 400 := I_339.1 214 13
                have m_353 : g43 214 13 = g23 214 13 := F_340 _ _ (by unfold fr_M_readNumber; omega)
                have m_354 : 0 ≤ (g46 214 15) ∧ (g46 214 15) ≤ 400 := I_343.1 214 15
                have m_355 : g46 214 15 = g43 214 15 := by rw [e_342]; exact zi_u_ne (by decide)
                have m_356 : 0 ≤ (g43 214 15) ∧ (g43 214 15) ≤ 400 := I_339.1 214 15
                refine k_M_readMark I_343 ⟨by omega, by omega⟩ (by omega) (by omega) (by repeat first | assumption | refine zt3_u (by assumption) (by decide) ?_ | refine (by assumption : zt3 _ → zt3 _) ?_) (fun v48 g49 I_362 F_363 b_357 b_358 b_359 b_360 b_361 => ?_)
                have F_364 : zk_fr fr_M_readDeed g g49 := zk_ft F_344 F_363 (fun a i => (fun h => Or.elim h (fun h => (Or.inr (Or.inl h))) (fun h => Or.elim h (fun h => (Or.inr (Or.inr (Or.inl h)))) (fun h => Or.elim h (fun h => (Or.inr (Or.inr (Or.inr (Or.inl h))))) (fun h => Or.elim h (fun h => (Or.inr (Or.inr (Or.inr (Or.inr (Or.inl h)))))) (fun h => Or.elim h (fun h => (Or.inr (Or.inr (Or.inr (Or.inr (Or.inr (Or.inl h))))))) (fun h => (Or.inr (Or.inr (Or.inr (Or.inr (Or.inr (Or.inr h)))))))))))))
                have m_365 : 0 ≤ (g49 214 14) ∧ (g49 214 14) ≤ 400 := I_362.1 214 14
                have m_366 : 0 ≤ (g49 214 13) ∧ (g49 214 13) ≤ 400 := I_362.1 214 13
                have m_367 : g49 214 13 = g46 214 13 := F_363 _ _ (by unfold fr_M_readMark; omega)
                have m_368 : 0 ≤ (g49 214 15) ∧ (g49 214 15) ≤ 400 := I_362.1 214 15
                have m_369 : (-2147483648) ≤ (g49 234 (l1 + 1)) ∧ (g49 234 (l1 + 1)) ≤ 2147483647 := I_362.1 234 (l1 + 1)
                have m_370 : g49 234 (l1 + 1) = g46 234 (l1 + 1) := F_363 _ _ (by unfold fr_M_readMark; omega)
                have m_371 : (-2147483648) ≤ (g46 234 (l1 + 1)) ∧ (g46 234 (l1 + 1)) ≤ 2147483647 := I_343.1 234 (l1 + 1)
                have m_372 : (-2147483648) ≤ (g43 234 (l1 + 1)) ∧ (g43 234 (l1 + 1)) ≤ 2147483647 := I_339.1 234 (l1 + 1)
                have m_373 : g43 234 (l1 + 1) = g23 234 (l1 + 1) := F_340 _ _ (by unfold fr_M_readNumber; omega)
                have m_374 : (-2147483648) ≤ (g23 234 (l1 + 1)) ∧ (g23 234 (l1 + 1)) ≤ 2147483647 := I_78.1 234 (l1 + 1)
                have m_375 : (-2147483648) ≤ (g20 234 (l1 + 1)) ∧ (g20 234 (l1 + 1)) ≤ 2147483647 := I_74.1 234 (l1 + 1)
                have m_376 : g20 234 (l1 + 1) = g15 234 (l1 + 1) := F_75 _ _ (by unfold fr_M_readNumber; omega)
                have m_377 : (-2147483648) ≤ (g15 234 (l1 + 1)) ∧ (g15 234 (l1 + 1)) ≤ 2147483647 := I_34.1 234 (l1 + 1)
                have m_378 : g15 234 (l1 + 1) = v7 := by rw [e_33]; exact zi_u_eq
                have m_379 : (l1 + 1 = l1 + 2 → g23 234 (l1 + 1) = v19) ∧ (¬ l1 + 1 = l1 + 2 → g23 234 (l1 + 1) = g20 234 (l1 + 1)) := by rw [e_77]; exact zi_u_if
                have m_380 : (l1 + 1 = l1 + 3 → g46 234 (l1 + 1) = v42) ∧ (¬ l1 + 1 = l1 + 3 → g46 234 (l1 + 1) = g43 234 (l1 + 1)) := by rw [e_342]; exact zi_u_if
                have m_381 : (-2147483648) ≤ (g49 234 (l1 + 2)) ∧ (g49 234 (l1 + 2)) ≤ 2147483647 := I_362.1 234 (l1 + 2)
                have m_382 : g49 234 (l1 + 2) = g46 234 (l1 + 2) := F_363 _ _ (by unfold fr_M_readMark; omega)
                have m_383 : (-2147483648) ≤ (g46 234 (l1 + 2)) ∧ (g46 234 (l1 + 2)) ≤ 2147483647 := I_343.1 234 (l1 + 2)
                have m_384 : (-2147483648) ≤ (g43 234 (l1 + 2)) ∧ (g43 234 (l1 + 2)) ≤ 2147483647 := I_339.1 234 (l1 + 2)
                have m_385 : g43 234 (l1 + 2) = g23 234 (l1 + 2) := F_340 _ _ (by unfold fr_M_readNumber; omega)
                have m_386 : (l1 + 2 = l1 + 3 → g46 234 (l1 + 2) = v42) ∧ (¬ l1 + 2 = l1 + 3 → g46 234 (l1 + 2) = g43 234 (l1 + 2)) := by rw [e_342]; exact zi_u_if
                have m_387 : (-2147483648) ≤ (g49 234 (l1 + 3)) ∧ (g49 234 (l1 + 3)) ≤ 2147483647 := I_362.1 234 (l1 + 3)
                have m_388 : g49 234 (l1 + 3) = g46 234 (l1 + 3) := F_363 _ _ (by unfold fr_M_readMark; omega)
                have z_408 : ∀ i : Int, i < l1 → g49 234 i = g 234 i := by
                  intro i hi
                  have m_389 : (-2147483648) ≤ (g49 234 i) ∧ (g49 234 i) ≤ 2147483647 := I_362.1 234 i
                  have m_390 : g49 234 i = g46 234 i := F_363 _ _ (by unfold fr_M_readMark; omega)
                  have m_391 : (-2147483648) ≤ (g46 234 i) ∧ (g46 234 i) ≤ 2147483647 := I_343.1 234 i
                  have m_392 : (-2147483648) ≤ (g43 234 i) ∧ (g43 234 i) ≤ 2147483647 := I_339.1 234 i
                  have m_393 : g43 234 i = g23 234 i := F_340 _ _ (by unfold fr_M_readNumber; omega)
                  have m_394 : (-2147483648) ≤ (g23 234 i) ∧ (g23 234 i) ≤ 2147483647 := I_78.1 234 i
                  have m_395 : (-2147483648) ≤ (g20 234 i) ∧ (g20 234 i) ≤ 2147483647 := I_74.1 234 i
                  have m_396 : g20 234 i = g15 234 i := F_75 _ _ (by unfold fr_M_readNumber; omega)
                  have m_397 : (-2147483648) ≤ (g15 234 i) ∧ (g15 234 i) ≤ 2147483647 := I_34.1 234 i
                  have m_398 : (-2147483648) ≤ (g12 234 i) ∧ (g12 234 i) ≤ 2147483647 := I_30.1 234 i
                  have m_399 : g12 234 i = g5 234 i := F_31 _ _ (by unfold fr_M_reads; omega)
                  have m_400 : (-2147483648) ≤ (g5 234 i) ∧ (g5 234 i) ≤ 2147483647 := I_14.1 234 i
                  have m_401 : (-2147483648) ≤ (g2 234 i) ∧ (g2 234 i) ≤ 2147483647 := I_10.1 234 i
                  have m_402 : g2 234 i = g 234 i := F_11 _ _ (by unfold fr_M_readTold; omega)
                  have m_403 : (-2147483648) ≤ (g 234 i) ∧ (g 234 i) ≤ 2147483647 := I.1 234 i
                  have m_404 : (i = l1 → g5 234 i = v1) ∧ (¬ i = l1 → g5 234 i = g2 234 i) := by rw [e_13]; exact zi_u_if
                  have m_405 : (i = l1 + 1 → g15 234 i = v7) ∧ (¬ i = l1 + 1 → g15 234 i = g12 234 i) := by rw [e_33]; exact zi_u_if
                  have m_406 : (i = l1 + 2 → g23 234 i = v19) ∧ (¬ i = l1 + 2 → g23 234 i = g20 234 i) := by rw [e_77]; exact zi_u_if
                  have m_407 : (i = l1 + 3 → g46 234 i = v42) ∧ (¬ i = l1 + 3 → g46 234 i = g43 234 i) := by rw [e_342]; exact zi_u_if
                  omega
                exact hQ _ _ I_362 F_364 ⟨by omega, by omega⟩ (by omega) (by omega) (by repeat first | assumption | refine zt3_u (by assumption) (by decide) ?_ | refine (by assumption : zt3 _ → zt3 _) ?_) (by omega) (by intro hv; unfold zj_deed; omega) z_408
              · have m_409 : 0 ≤ (g46 214 14) ∧ (g46 214 14) ≤ 400 := I_343.1 214 14
                have m_410 : g46 214 14 = g43 214 14 := by rw [e_342]; exact zi_u_ne (by decide)
                have m_411 : 0 ≤ (g43 214 14) ∧ (g43 214 14) ≤ 400 := I_339.1 214 14
                have m_412 : 0 ≤ (g46 214 13) ∧ (g46 214 13) ≤ 400 := I_343.1 214 13
                have m_413 : g46 214 13 = g43 214 13 := by rw [e_342]; exact zi_u_ne (by decide)
                have m_414 : 0 ≤ (g43 214 13) ∧ (g43 214 13) ≤ 400 := I_339.1 214 13
                have m_415 : g43 214 13 = g23 214 13 := F_340 _ _ (by unfold fr_M_readNumber; omega)
                have m_416 : 0 ≤ (g46 214 15) ∧ (g46 214 15) ≤ 400 := I_343.1 214 15
                have m_417 : g46 214 15 = g43 214 15 := by rw [e_342]; exact zi_u_ne (by decide)
                have m_418 : 0 ≤ (g43 214 15) ∧ (g43 214 15) ≤ 400 := I_339.1 214 15
                have m_419 : (-2147483648) ≤ (g46 234 (l1 + 1)) ∧ (g46 234 (l1 + 1)) ≤ 2147483647 := I_343.1 234 (l1 + 1)
                have m_420 : (-2147483648) ≤ (g43 234 (l1 + 1)) ∧ (g43 234 (l1 + 1)) ≤ 2147483647 := I_339.1 234 (l1 + 1)
                have m_421 : g43 234 (l1 + 1) = g23 234 (l1 + 1) := F_340 _ _ (by unfold fr_M_readNumber; omega)
                have m_422 : (-2147483648) ≤ (g23 234 (l1 + 1)) ∧ (g23 234 (l1 + 1)) ≤ 2147483647 := I_78.1 234 (l1 + 1)
                have m_423 : (-2147483648) ≤ (g20 234 (l1 + 1)) ∧ (g20 234 (l1 + 1)) ≤ 2147483647 := I_74.1 234 (l1 + 1)
                have m_424 : g20 234 (l1 + 1) = g15 234 (l1 + 1) := F_75 _ _ (by unfold fr_M_readNumber; omega)
                have m_425 : (-2147483648) ≤ (g15 234 (l1 + 1)) ∧ (g15 234 (l1 + 1)) ≤ 2147483647 := I_34.1 234 (l1 + 1)
                have m_426 : g15 234 (l1 + 1) = v7 := by rw [e_33]; exact zi_u_eq
                have m_427 : (l1 + 1 = l1 + 2 → g23 234 (l1 + 1) = v19) ∧ (¬ l1 + 1 = l1 + 2 → g23 234 (l1 + 1) = g20 234 (l1 + 1)) := by rw [e_77]; exact zi_u_if
                have m_428 : (l1 + 1 = l1 + 3 → g46 234 (l1 + 1) = v42) ∧ (¬ l1 + 1 = l1 + 3 → g46 234 (l1 + 1) = g43 234 (l1 + 1)) := by rw [e_342]; exact zi_u_if
                have m_429 : (-2147483648) ≤ (g46 234 (l1 + 2)) ∧ (g46 234 (l1 + 2)) ≤ 2147483647 := I_343.1 234 (l1 + 2)
                have m_430 : (-2147483648) ≤ (g43 234 (l1 + 2)) ∧ (g43 234 (l1 + 2)) ≤ 2147483647 := I_339.1 234 (l1 + 2)
                have m_431 : g43 234 (l1 + 2) = g23 234 (l1 + 2) := F_340 _ _ (by unfold fr_M_readNumber; omega)
                have m_432 : (l1 + 2 = l1 + 3 → g46 234 (l1 + 2) = v42) ∧ (¬ l1 + 2 = l1 + 3 → g46 234 (l1 + 2) = g43 234 (l1 + 2)) := by rw [e_342]; exact zi_u_if
                have z_450 : ∀ i : Int, i < l1 → g46 234 i = g 234 i := by
                  intro i hi
                  have m_433 : (-2147483648) ≤ (g46 234 i) ∧ (g46 234 i) ≤ 2147483647 := I_343.1 234 i
                  have m_434 : (-2147483648) ≤ (g43 234 i) ∧ (g43 234 i) ≤ 2147483647 := I_339.1 234 i
                  have m_435 : g43 234 i = g23 234 i := F_340 _ _ (by unfold fr_M_readNumber; omega)
                  have m_436 : (-2147483648) ≤ (g23 234 i) ∧ (g23 234 i) ≤ 2147483647 := I_78.1 234 i
                  have m_437 : (-2147483648) ≤ (g20 234 i) ∧ (g20 234 i) ≤ 2147483647 := I_74.1 234 i
                  have m_438 : g20 234 i = g15 234 i := F_75 _ _ (by unfold fr_M_readNumber; omega)
                  have m_439 : (-2147483648) ≤ (g15 234 i) ∧ (g15 234 i) ≤ 2147483647 := I_34.1 234 i
                  have m_440 : (-2147483648) ≤ (g12 234 i) ∧ (g12 234 i) ≤ 2147483647 := I_30.1 234 i
                  have m_441 : g12 234 i = g5 234 i := F_31 _ _ (by unfold fr_M_reads; omega)
                  have m_442 : (-2147483648) ≤ (g5 234 i) ∧ (g5 234 i) ≤ 2147483647 := I_14.1 234 i
                  have m_443 : (-2147483648) ≤ (g2 234 i) ∧ (g2 234 i) ≤ 2147483647 := I_10.1 234 i
                  have m_444 : g2 234 i = g 234 i := F_11 _ _ (by unfold fr_M_readTold; omega)
                  have m_445 : (-2147483648) ≤ (g 234 i) ∧ (g 234 i) ≤ 2147483647 := I.1 234 i
                  have m_446 : (i = l1 → g5 234 i = v1) ∧ (¬ i = l1 → g5 234 i = g2 234 i) := by rw [e_13]; exact zi_u_if
                  have m_447 : (i = l1 + 1 → g15 234 i = v7) ∧ (¬ i = l1 + 1 → g15 234 i = g12 234 i) := by rw [e_33]; exact zi_u_if
                  have m_448 : (i = l1 + 2 → g23 234 i = v19) ∧ (¬ i = l1 + 2 → g23 234 i = g20 234 i) := by rw [e_77]; exact zi_u_if
                  have m_449 : (i = l1 + 3 → g46 234 i = v42) ∧ (¬ i = l1 + 3 → g46 234 i = g43 234 i) := by rw [e_342]; exact zi_u_if
                  omega
                exact hQ _ _ I_343 F_344 ⟨by omega, by omega⟩ (by omega) (by omega) (by repeat first | assumption | refine zt3_u (by assumption) (by decide) ?_ | refine (by assumption : zt3 _ → zt3 _) ?_) (by omega) (by intro hv; unfold zj_deed; omega) z_450
          · have m_451 : 0 ≤ (g23 214 6) ∧ (g23 214 6) ≤ 10 := I_78.1 214 6
            have m_452 : g23 214 6 = g20 214 6 := by rw [e_77]; exact zi_u_ne (by decide)
            have m_453 : 0 ≤ (g20 214 6) ∧ (g20 214 6) ≤ 10 := I_74.1 214 6
            have m_454 : g20 214 6 = g15 214 6 := F_75 _ _ (by unfold fr_M_readNumber; omega)
            have m_455 : 0 ≤ (g23 214 14) ∧ (g23 214 14) ≤ 400 := I_78.1 214 14
            have m_456 : g23 214 14 = g20 214 14 := by rw [e_77]; exact zi_u_ne (by decide)
            have m_457 : 0 ≤ (g20 214 14) ∧ (g20 214 14) ≤ 400 := I_74.1 214 14
            have m_458 : 0 ≤ (g23 214 13) ∧ (g23 214 13) ≤ 400 := I_78.1 214 13
            have m_459 : g23 214 13 = g20 214 13 := by rw [e_77]; exact zi_u_ne (by decide)
            have m_460 : 0 ≤ (g20 214 13) ∧ (g20 214 13) ≤ 400 := I_74.1 214 13
            have m_461 : g20 214 13 = g15 214 13 := F_75 _ _ (by unfold fr_M_readNumber; omega)
            have m_462 : 0 ≤ (g23 214 15) ∧ (g23 214 15) ≤ 400 := I_78.1 214 15
            have m_463 : g23 214 15 = g20 214 15 := by rw [e_77]; exact zi_u_ne (by decide)
            have m_464 : 0 ≤ (g20 214 15) ∧ (g20 214 15) ≤ 400 := I_74.1 214 15
            refine k_M_readTold I_78 ⟨by omega, by omega⟩ ⟨by omega, by omega⟩ ⟨by omega, by omega⟩ (by omega) (by omega) (by repeat first | assumption | refine zt3_u (by assumption) (by decide) ?_ | refine (by assumption : zt3 _ → zt3 _) ?_) (fun v53 g54 I_471 F_472 b_465 b_466 b_467 b_468 b_469 b_470 => ?_)
            have F_473 : zk_fr fr_M_readDeed g g54 := zk_ft F_79 F_472 (fun a i => (fun h => Or.elim h (fun h => (Or.inr (Or.inl h))) (fun h => Or.elim h (fun h => (Or.inr (Or.inr (Or.inl h)))) (fun h => Or.elim h (fun h => (Or.inr (Or.inr (Or.inr (Or.inl h))))) (fun h => Or.elim h (fun h => (Or.inr (Or.inr (Or.inr (Or.inr (Or.inl h)))))) (fun h => Or.elim h (fun h => (Or.inr (Or.inr (Or.inr (Or.inr (Or.inr (Or.inl h))))))) (fun h => (Or.inr (Or.inr (Or.inr (Or.inr (Or.inr (Or.inr h)))))))))))))
            refine ⟨⟨by omega, by omega⟩, ?_⟩
            intro g57 e_474
            have I_475 : zk_I g57 := by rw [e_474]; exact zk_u234 I_471 (by omega) ⟨by omega, by omega⟩
            have F_476 : zk_fr fr_M_readDeed g g57 := by rw [e_474]; exact zk_fu F_473 (Or.inl rfl)
            have m_477 : (-2147483648) ≤ (g57 234 (l1 + 3)) ∧ (g57 234 (l1 + 3)) ≤ 2147483647 := I_475.1 234 (l1 + 3)
            have m_478 : g57 234 (l1 + 3) = v53 := by rw [e_474]; exact zi_u_eq
            refine ⟨⟨by omega, by omega⟩, ?_⟩
            refine ⟨fun c62 => ?_, fun c62 => ?_⟩
            · have m_479 : 0 ≤ (g57 214 14) ∧ (g57 214 14) ≤ 400 := I_475.1 214 14
              have m_480 : g57 214 14 = g54 214 14 := by rw [e_474]; exact zi_u_ne (by decide)
              have m_481 : 0 ≤ (g54 214 14) ∧ (g54 214 14) ≤ 400 := I_471.1 214 14
              have m_482 : 0 ≤ (g57 214 13) ∧ (g57 214 13) ≤ 400 := I_475.1 214 13
              have m_483 : g57 214 13 = g54 214 13 := by rw [e_474]; exact zi_u_ne (by decide)
              have m_484 : 0 ≤ (g54 214 13) ∧ (g54 214 13) ≤ 400 := I_471.1 214 13
              have m_485 : g54 214 13 = g23 214 13 := F_472 _ _ (by unfold fr_M_readTold; omega)
              have m_486 : 0 ≤ (g57 214 15) ∧ (g57 214 15) ≤ 400 := I_475.1 214 15
              have m_487 : g57 214 15 = g54 214 15 := by rw [e_474]; exact zi_u_ne (by decide)
              have m_488 : 0 ≤ (g54 214 15) ∧ (g54 214 15) ≤ 400 := I_471.1 214 15
              refine k_M_readMark I_475 ⟨by omega, by omega⟩ (by omega) (by omega) (by repeat first | assumption | refine zt3_u (by assumption) (by decide) ?_ | refine (by assumption : zt3 _ → zt3 _) ?_) (fun v59 g60 I_494 F_495 b_489 b_490 b_491 b_492 b_493 => ?_)
              have F_496 : zk_fr fr_M_readDeed g g60 := zk_ft F_476 F_495 (fun a i => (fun h => Or.elim h (fun h => (Or.inr (Or.inl h))) (fun h => Or.elim h (fun h => (Or.inr (Or.inr (Or.inl h)))) (fun h => Or.elim h (fun h => (Or.inr (Or.inr (Or.inr (Or.inl h))))) (fun h => Or.elim h (fun h => (Or.inr (Or.inr (Or.inr (Or.inr (Or.inl h)))))) (fun h => Or.elim h (fun h => (Or.inr (Or.inr (Or.inr (Or.inr (Or.inr (Or.inl h))))))) (fun h => (Or.inr (Or.inr (Or.inr (Or.inr (Or.inr (Or.inr h)))))))))))))
              have m_497 : 0 ≤ (g60 214 14) ∧ (g60 214 14) ≤ 400 := I_494.1 214 14
              have m_498 : 0 ≤ (g60 214 13) ∧ (g60 214 13) ≤ 400 := I_494.1 214 13
              have m_499 : g60 214 13 = g57 214 13 := F_495 _ _ (by unfold fr_M_readMark; omega)
              have m_500 : 0 ≤ (g60 214 15) ∧ (g60 214 15) ≤ 400 := I_494.1 214 15
              have m_501 : (-2147483648) ≤ (g60 234 (l1 + 1)) ∧ (g60 234 (l1 + 1)) ≤ 2147483647 := I_494.1 234 (l1 + 1)
              have m_502 : g60 234 (l1 + 1) = g57 234 (l1 + 1) := F_495 _ _ (by unfold fr_M_readMark; omega)
              have m_503 : (-2147483648) ≤ (g57 234 (l1 + 1)) ∧ (g57 234 (l1 + 1)) ≤ 2147483647 := I_475.1 234 (l1 + 1)
              have m_504 : (-2147483648) ≤ (g54 234 (l1 + 1)) ∧ (g54 234 (l1 + 1)) ≤ 2147483647 := I_471.1 234 (l1 + 1)
              have m_505 : g54 234 (l1 + 1) = g23 234 (l1 + 1) := F_472 _ _ (by unfold fr_M_readTold; omega)
              have m_506 : (-2147483648) ≤ (g23 234 (l1 + 1)) ∧ (g23 234 (l1 + 1)) ≤ 2147483647 := I_78.1 234 (l1 + 1)
              have m_507 : (-2147483648) ≤ (g20 234 (l1 + 1)) ∧ (g20 234 (l1 + 1)) ≤ 2147483647 := I_74.1 234 (l1 + 1)
              have m_508 : g20 234 (l1 + 1) = g15 234 (l1 + 1) := F_75 _ _ (by unfold fr_M_readNumber; omega)
              have m_509 : (-2147483648) ≤ (g15 234 (l1 + 1)) ∧ (g15 234 (l1 + 1)) ≤ 2147483647 := I_34.1 234 (l1 + 1)
              have m_510 : g15 234 (l1 + 1) = v7 := by rw [e_33]; exact zi_u_eq
              have m_511 : (l1 + 1 = l1 + 2 → g23 234 (l1 + 1) = v19) ∧ (¬ l1 + 1 = l1 + 2 → g23 234 (l1 + 1) = g20 234 (l1 + 1)) := by rw [e_77]; exact zi_u_if
              have m_512 : (l1 + 1 = l1 + 3 → g57 234 (l1 + 1) = v53) ∧ (¬ l1 + 1 = l1 + 3 → g57 234 (l1 + 1) = g54 234 (l1 + 1)) := by rw [e_474]; exact zi_u_if
              have m_513 : (-2147483648) ≤ (g60 234 (l1 + 2)) ∧ (g60 234 (l1 + 2)) ≤ 2147483647 := I_494.1 234 (l1 + 2)
              have m_514 : g60 234 (l1 + 2) = g57 234 (l1 + 2) := F_495 _ _ (by unfold fr_M_readMark; omega)
              have m_515 : (-2147483648) ≤ (g57 234 (l1 + 2)) ∧ (g57 234 (l1 + 2)) ≤ 2147483647 := I_475.1 234 (l1 + 2)
              have m_516 : (-2147483648) ≤ (g54 234 (l1 + 2)) ∧ (g54 234 (l1 + 2)) ≤ 2147483647 := I_471.1 234 (l1 + 2)
              have m_517 : g54 234 (l1 + 2) = g23 234 (l1 + 2) := F_472 _ _ (by unfold fr_M_readTold; omega)
              have m_518 : (l1 + 2 = l1 + 3 → g57 234 (l1 + 2) = v53) ∧ (¬ l1 + 2 = l1 + 3 → g57 234 (l1 + 2) = g54 234 (l1 + 2)) := by rw [e_474]; exact zi_u_if
              have m_519 : (-2147483648) ≤ (g60 234 (l1 + 3)) ∧ (g60 234 (l1 + 3)) ≤ 2147483647 := I_494.1 234 (l1 + 3)
              have m_520 : g60 234 (l1 + 3) = g57 234 (l1 + 3) := F_495 _ _ (by unfold fr_M_readMark; omega)
              have z_540 : ∀ i : Int, i < l1 → g60 234 i = g 234 i := by
                intro i hi
                have m_521 : (-2147483648) ≤ (g60 234 i) ∧ (g60 234 i) ≤ 2147483647 := I_494.1 234 i
                have m_522 : g60 234 i = g57 234 i := F_495 _ _ (by unfold fr_M_readMark; omega)
                have m_523 : (-2147483648) ≤ (g57 234 i) ∧ (g57 234 i) ≤ 2147483647 := I_475.1 234 i
                have m_524 : (-2147483648) ≤ (g54 234 i) ∧ (g54 234 i) ≤ 2147483647 := I_471.1 234 i
                have m_525 : g54 234 i = g23 234 i := F_472 _ _ (by unfold fr_M_readTold; omega)
                have m_526 : (-2147483648) ≤ (g23 234 i) ∧ (g23 234 i) ≤ 2147483647 := I_78.1 234 i
                have m_527 : (-2147483648) ≤ (g20 234 i) ∧ (g20 234 i) ≤ 2147483647 := I_74.1 234 i
                have m_528 : g20 234 i = g15 234 i := F_75 _ _ (by unfold fr_M_readNumber; omega)
                have m_529 : (-2147483648) ≤ (g15 234 i) ∧ (g15 234 i) ≤ 2147483647 := I_34.1 234 i
                have m_530 : (-2147483648) ≤ (g12 234 i) ∧ (g12 234 i) ≤ 2147483647 := I_30.1 234 i
                have m_531 : g12 234 i = g5 234 i := F_31 _ _ (by unfold fr_M_reads; omega)
                have m_532 : (-2147483648) ≤ (g5 234 i) ∧ (g5 234 i) ≤ 2147483647 := I_14.1 234 i
                have m_533 : (-2147483648) ≤ (g2 234 i) ∧ (g2 234 i) ≤ 2147483647 := I_10.1 234 i
                have m_534 : g2 234 i = g 234 i := F_11 _ _ (by unfold fr_M_readTold; omega)
                have m_535 : (-2147483648) ≤ (g 234 i) ∧ (g 234 i) ≤ 2147483647 := I.1 234 i
                have m_536 : (i = l1 → g5 234 i = v1) ∧ (¬ i = l1 → g5 234 i = g2 234 i) := by rw [e_13]; exact zi_u_if
                have m_537 : (i = l1 + 1 → g15 234 i = v7) ∧ (¬ i = l1 + 1 → g15 234 i = g12 234 i) := by rw [e_33]; exact zi_u_if
                have m_538 : (i = l1 + 2 → g23 234 i = v19) ∧ (¬ i = l1 + 2 → g23 234 i = g20 234 i) := by rw [e_77]; exact zi_u_if
                have m_539 : (i = l1 + 3 → g57 234 i = v53) ∧ (¬ i = l1 + 3 → g57 234 i = g54 234 i) := by rw [e_474]; exact zi_u_if
                omega
              exact hQ _ _ I_494 F_496 ⟨by omega, by omega⟩ (by omega) (by omega) (by repeat first | assumption | refine zt3_u (by assumption) (by decide) ?_ | refine (by assumption : zt3 _ → zt3 _) ?_) (by omega) (by intro hv; unfold zj_deed; omega) z_540
            · have m_541 : 0 ≤ (g57 214 14) ∧ (g57 214 14) ≤ 400 := I_475.1 214 14
              have m_542 : g57 214 14 = g54 214 14 := by rw [e_474]; exact zi_u_ne (by decide)
              have m_543 : 0 ≤ (g54 214 14) ∧ (g54 214 14) ≤ 400 := I_471.1 214 14
              have m_544 : 0 ≤ (g57 214 13) ∧ (g57 214 13) ≤ 400 := I_475.1 214 13
              have m_545 : g57 214 13 = g54 214 13 := by rw [e_474]; exact zi_u_ne (by decide)
              have m_546 : 0 ≤ (g54 214 13) ∧ (g54 214 13) ≤ 400 := I_471.1 214 13
              have m_547 : g54 214 13 = g23 214 13 := F_472 _ _ (by unfold fr_M_readTold; omega)
              have m_548 : 0 ≤ (g57 214 15) ∧ (g57 214 15) ≤ 400 := I_475.1 214 15
              have m_549 : g57 214 15 = g54 214 15 := by rw [e_474]; exact zi_u_ne (by decide)
              have m_550 : 0 ≤ (g54 214 15) ∧ (g54 214 15) ≤ 400 := I_471.1 214 15
              have m_551 : (-2147483648) ≤ (g57 234 (l1 + 1)) ∧ (g57 234 (l1 + 1)) ≤ 2147483647 := I_475.1 234 (l1 + 1)
              have m_552 : (-2147483648) ≤ (g54 234 (l1 + 1)) ∧ (g54 234 (l1 + 1)) ≤ 2147483647 := I_471.1 234 (l1 + 1)
              have m_553 : g54 234 (l1 + 1) = g23 234 (l1 + 1) := F_472 _ _ (by unfold fr_M_readTold; omega)
              have m_554 : (-2147483648) ≤ (g23 234 (l1 + 1)) ∧ (g23 234 (l1 + 1)) ≤ 2147483647 := I_78.1 234 (l1 + 1)
              have m_555 : (-2147483648) ≤ (g20 234 (l1 + 1)) ∧ (g20 234 (l1 + 1)) ≤ 2147483647 := I_74.1 234 (l1 + 1)
              have m_556 : g20 234 (l1 + 1) = g15 234 (l1 + 1) := F_75 _ _ (by unfold fr_M_readNumber; omega)
              have m_557 : (-2147483648) ≤ (g15 234 (l1 + 1)) ∧ (g15 234 (l1 + 1)) ≤ 2147483647 := I_34.1 234 (l1 + 1)
              have m_558 : g15 234 (l1 + 1) = v7 := by rw [e_33]; exact zi_u_eq
              have m_559 : (l1 + 1 = l1 + 2 → g23 234 (l1 + 1) = v19) ∧ (¬ l1 + 1 = l1 + 2 → g23 234 (l1 + 1) = g20 234 (l1 + 1)) := by rw [e_77]; exact zi_u_if
              have m_560 : (l1 + 1 = l1 + 3 → g57 234 (l1 + 1) = v53) ∧ (¬ l1 + 1 = l1 + 3 → g57 234 (l1 + 1) = g54 234 (l1 + 1)) := by rw [e_474]; exact zi_u_if
              have m_561 : (-2147483648) ≤ (g57 234 (l1 + 2)) ∧ (g57 234 (l1 + 2)) ≤ 2147483647 := I_475.1 234 (l1 + 2)
              have m_562 : (-2147483648) ≤ (g54 234 (l1 + 2)) ∧ (g54 234 (l1 + 2)) ≤ 2147483647 := I_471.1 234 (l1 + 2)
              have m_563 : g54 234 (l1 + 2) = g23 234 (l1 + 2) := F_472 _ _ (by unfold fr_M_readTold; omega)
              have m_564 : (l1 + 2 = l1 + 3 → g57 234 (l1 + 2) = v53) ∧ (¬ l1 + 2 = l1 + 3 → g57 234 (l1 + 2) = g54 234 (l1 + 2)) := by rw [e_474]; exact zi_u_if
              have z_582 : ∀ i : Int, i < l1 → g57 234 i = g 234 i := by
                intro i hi
                have m_565 : (-2147483648) ≤ (g57 234 i) ∧ (g57 234 i) ≤ 2147483647 := I_475.1 234 i
                have m_566 : (-2147483648) ≤ (g54 234 i) ∧ (g54 234 i) ≤ 2147483647 := I_471.1 234 i
                have m_567 : g54 234 i = g23 234 i := F_472 _ _ (by unfold fr_M_readTold; omega)
                have m_568 : (-2147483648) ≤ (g23 234 i) ∧ (g23 234 i) ≤ 2147483647 := I_78.1 234 i
                have m_569 : (-2147483648) ≤ (g20 234 i) ∧ (g20 234 i) ≤ 2147483647 := I_74.1 234 i
                have m_570 : g20 234 i = g15 234 i := F_75 _ _ (by unfold fr_M_readNumber; omega)
                have m_571 : (-2147483648) ≤ (g15 234 i) ∧ (g15 234 i) ≤ 2147483647 := I_34.1 234 i
                have m_572 : (-2147483648) ≤ (g12 234 i) ∧ (g12 234 i) ≤ 2147483647 := I_30.1 234 i
                have m_573 : g12 234 i = g5 234 i := F_31 _ _ (by unfold fr_M_reads; omega)
                have m_574 : (-2147483648) ≤ (g5 234 i) ∧ (g5 234 i) ≤ 2147483647 := I_14.1 234 i
                have m_575 : (-2147483648) ≤ (g2 234 i) ∧ (g2 234 i) ≤ 2147483647 := I_10.1 234 i
                have m_576 : g2 234 i = g 234 i := F_11 _ _ (by unfold fr_M_readTold; omega)
                have m_577 : (-2147483648) ≤ (g 234 i) ∧ (g 234 i) ≤ 2147483647 := I.1 234 i
                have m_578 : (i = l1 → g5 234 i = v1) ∧ (¬ i = l1 → g5 234 i = g2 234 i) := by rw [e_13]; exact zi_u_if
                have m_579 : (i = l1 + 1 → g15 234 i = v7) ∧ (¬ i = l1 + 1 → g15 234 i = g12 234 i) := by rw [e_33]; exact zi_u_if
                have m_580 : (i = l1 + 2 → g23 234 i = v19) ∧ (¬ i = l1 + 2 → g23 234 i = g20 234 i) := by rw [e_77]; exact zi_u_if
                have m_581 : (i = l1 + 3 → g57 234 i = v53) ∧ (¬ i = l1 + 3 → g57 234 i = g54 234 i) := by rw [e_474]; exact zi_u_if
                omega
              exact hQ _ _ I_475 F_476 ⟨by omega, by omega⟩ (by omega) (by omega) (by repeat first | assumption | refine zt3_u (by assumption) (by decide) ?_ | refine (by assumption : zt3 _ → zt3 _) ?_) (by omega) (by intro hv; unfold zj_deed; omega) z_582
      · have m_583 : 0 ≤ (g23 214 14) ∧ (g23 214 14) ≤ 400 := I_78.1 214 14
        have m_584 : g23 214 14 = g20 214 14 := by rw [e_77]; exact zi_u_ne (by decide)
        have m_585 : 0 ≤ (g20 214 14) ∧ (g20 214 14) ≤ 400 := I_74.1 214 14
        have m_586 : 0 ≤ (g23 214 13) ∧ (g23 214 13) ≤ 400 := I_78.1 214 13
        have m_587 : g23 214 13 = g20 214 13 := by rw [e_77]; exact zi_u_ne (by decide)
        have m_588 : 0 ≤ (g20 214 13) ∧ (g20 214 13) ≤ 400 := I_74.1 214 13
        have m_589 : g20 214 13 = g15 214 13 := F_75 _ _ (by unfold fr_M_readNumber; omega)
        have m_590 : 0 ≤ (g23 214 15) ∧ (g23 214 15) ≤ 400 := I_78.1 214 15
        have m_591 : g23 214 15 = g20 214 15 := by rw [e_77]; exact zi_u_ne (by decide)
        have m_592 : 0 ≤ (g20 214 15) ∧ (g20 214 15) ≤ 400 := I_74.1 214 15
        have m_593 : (-2147483648) ≤ (g23 234 (l1 + 1)) ∧ (g23 234 (l1 + 1)) ≤ 2147483647 := I_78.1 234 (l1 + 1)
        have m_594 : (-2147483648) ≤ (g20 234 (l1 + 1)) ∧ (g20 234 (l1 + 1)) ≤ 2147483647 := I_74.1 234 (l1 + 1)
        have m_595 : g20 234 (l1 + 1) = g15 234 (l1 + 1) := F_75 _ _ (by unfold fr_M_readNumber; omega)
        have m_596 : (-2147483648) ≤ (g15 234 (l1 + 1)) ∧ (g15 234 (l1 + 1)) ≤ 2147483647 := I_34.1 234 (l1 + 1)
        have m_597 : g15 234 (l1 + 1) = v7 := by rw [e_33]; exact zi_u_eq
        have m_598 : (l1 + 1 = l1 + 2 → g23 234 (l1 + 1) = v19) ∧ (¬ l1 + 1 = l1 + 2 → g23 234 (l1 + 1) = g20 234 (l1 + 1)) := by rw [e_77]; exact zi_u_if
        have m_599 : (-2147483648) ≤ (g23 234 (l1 + 3)) ∧ (g23 234 (l1 + 3)) ≤ 2147483647 := I_78.1 234 (l1 + 3)
        have m_600 : (-2147483648) ≤ (g20 234 (l1 + 3)) ∧ (g20 234 (l1 + 3)) ≤ 2147483647 := I_74.1 234 (l1 + 3)
        have m_601 : g20 234 (l1 + 3) = g15 234 (l1 + 3) := F_75 _ _ (by unfold fr_M_readNumber; omega)
        have m_602 : (-2147483648) ≤ (g15 234 (l1 + 3)) ∧ (g15 234 (l1 + 3)) ≤ 2147483647 := I_34.1 234 (l1 + 3)
        have m_603 : (-2147483648) ≤ (g12 234 (l1 + 3)) ∧ (g12 234 (l1 + 3)) ≤ 2147483647 := I_30.1 234 (l1 + 3)
        have m_604 : g12 234 (l1 + 3) = g5 234 (l1 + 3) := F_31 _ _ (by unfold fr_M_reads; omega)
        have m_605 : (-2147483648) ≤ (g5 234 (l1 + 3)) ∧ (g5 234 (l1 + 3)) ≤ 2147483647 := I_14.1 234 (l1 + 3)
        have m_606 : (-2147483648) ≤ (g2 234 (l1 + 3)) ∧ (g2 234 (l1 + 3)) ≤ 2147483647 := I_10.1 234 (l1 + 3)
        have m_607 : g2 234 (l1 + 3) = g 234 (l1 + 3) := F_11 _ _ (by unfold fr_M_readTold; omega)
        have m_608 : (-2147483648) ≤ (g 234 (l1 + 3)) ∧ (g 234 (l1 + 3)) ≤ 2147483647 := I.1 234 (l1 + 3)
        have m_609 : (l1 + 3 = l1 → g5 234 (l1 + 3) = v1) ∧ (¬ l1 + 3 = l1 → g5 234 (l1 + 3) = g2 234 (l1 + 3)) := by rw [e_13]; exact zi_u_if
        have m_610 : (l1 + 3 = l1 + 1 → g15 234 (l1 + 3) = v7) ∧ (¬ l1 + 3 = l1 + 1 → g15 234 (l1 + 3) = g12 234 (l1 + 3)) := by rw [e_33]; exact zi_u_if
        have m_611 : (l1 + 3 = l1 + 2 → g23 234 (l1 + 3) = v19) ∧ (¬ l1 + 3 = l1 + 2 → g23 234 (l1 + 3) = g20 234 (l1 + 3)) := by rw [e_77]; exact zi_u_if
        have z_625 : ∀ i : Int, i < l1 → g23 234 i = g 234 i := by
          intro i hi
          have m_612 : (-2147483648) ≤ (g23 234 i) ∧ (g23 234 i) ≤ 2147483647 := I_78.1 234 i
          have m_613 : (-2147483648) ≤ (g20 234 i) ∧ (g20 234 i) ≤ 2147483647 := I_74.1 234 i
          have m_614 : g20 234 i = g15 234 i := F_75 _ _ (by unfold fr_M_readNumber; omega)
          have m_615 : (-2147483648) ≤ (g15 234 i) ∧ (g15 234 i) ≤ 2147483647 := I_34.1 234 i
          have m_616 : (-2147483648) ≤ (g12 234 i) ∧ (g12 234 i) ≤ 2147483647 := I_30.1 234 i
          have m_617 : g12 234 i = g5 234 i := F_31 _ _ (by unfold fr_M_reads; omega)
          have m_618 : (-2147483648) ≤ (g5 234 i) ∧ (g5 234 i) ≤ 2147483647 := I_14.1 234 i
          have m_619 : (-2147483648) ≤ (g2 234 i) ∧ (g2 234 i) ≤ 2147483647 := I_10.1 234 i
          have m_620 : g2 234 i = g 234 i := F_11 _ _ (by unfold fr_M_readTold; omega)
          have m_621 : (-2147483648) ≤ (g 234 i) ∧ (g 234 i) ≤ 2147483647 := I.1 234 i
          have m_622 : (i = l1 → g5 234 i = v1) ∧ (¬ i = l1 → g5 234 i = g2 234 i) := by rw [e_13]; exact zi_u_if
          have m_623 : (i = l1 + 1 → g15 234 i = v7) ∧ (¬ i = l1 + 1 → g15 234 i = g12 234 i) := by rw [e_33]; exact zi_u_if
          have m_624 : (i = l1 + 2 → g23 234 i = v19) ∧ (¬ i = l1 + 2 → g23 234 i = g20 234 i) := by rw [e_77]; exact zi_u_if
          omega
        exact hQ _ _ I_78 F_79 ⟨by omega, by omega⟩ (by omega) (by omega) (by repeat first | assumption | refine zt3_u (by assumption) (by decide) ?_ | refine (by assumption : zt3 _ → zt3 _) ?_) (by omega) (by intro hv; unfold zj_deed; omega) z_625
    · refine k_M_errs I_14 ⟨by omega, by omega⟩ (fun v66 g67 I_628 F_629 b_626 b_627 => ?_)
      have F_630 : zk_fr fr_M_readDeed g g67 := zk_ft F_15 F_629 (fun a i => (fun h => Or.elim h (fun h => (Or.inr (Or.inr (Or.inr (Or.inr (Or.inr (Or.inl h))))))) (fun h => (Or.inr (Or.inr (Or.inr (Or.inr (Or.inr (Or.inr h)))))))))
      have m_631 : 0 ≤ (g67 214 14) ∧ (g67 214 14) ≤ 400 := I_628.1 214 14
      have m_632 : g67 214 14 = g5 214 14 := F_629 _ _ (by unfold fr_M_errs; omega)
      have m_633 : 0 ≤ (g5 214 14) ∧ (g5 214 14) ≤ 400 := I_14.1 214 14
      have m_634 : g5 214 14 = g2 214 14 := by rw [e_13]; exact zi_u_ne (by decide)
      have m_635 : 0 ≤ (g2 214 14) ∧ (g2 214 14) ≤ 400 := I_10.1 214 14
      have m_636 : 0 ≤ (g67 214 13) ∧ (g67 214 13) ≤ 400 := I_628.1 214 13
      have m_637 : g67 214 13 = g5 214 13 := F_629 _ _ (by unfold fr_M_errs; omega)
      have m_638 : 0 ≤ (g5 214 13) ∧ (g5 214 13) ≤ 400 := I_14.1 214 13
      have m_639 : g5 214 13 = g2 214 13 := by rw [e_13]; exact zi_u_ne (by decide)
      have m_640 : 0 ≤ (g2 214 13) ∧ (g2 214 13) ≤ 400 := I_10.1 214 13
      have m_641 : g2 214 13 = g 214 13 := F_11 _ _ (by unfold fr_M_readTold; omega)
      have m_642 : 0 ≤ (g67 214 15) ∧ (g67 214 15) ≤ 400 := I_628.1 214 15
      have m_643 : g67 214 15 = g5 214 15 := F_629 _ _ (by unfold fr_M_errs; omega)
      have m_644 : 0 ≤ (g5 214 15) ∧ (g5 214 15) ≤ 400 := I_14.1 214 15
      have m_645 : g5 214 15 = g2 214 15 := by rw [e_13]; exact zi_u_ne (by decide)
      have m_646 : 0 ≤ (g2 214 15) ∧ (g2 214 15) ≤ 400 := I_10.1 214 15
      have m_647 : (-2147483648) ≤ (g67 234 (l1 + 1)) ∧ (g67 234 (l1 + 1)) ≤ 2147483647 := I_628.1 234 (l1 + 1)
      have m_648 : g67 234 (l1 + 1) = g5 234 (l1 + 1) := F_629 _ _ (by unfold fr_M_errs; omega)
      have m_649 : (-2147483648) ≤ (g5 234 (l1 + 1)) ∧ (g5 234 (l1 + 1)) ≤ 2147483647 := I_14.1 234 (l1 + 1)
      have m_650 : (-2147483648) ≤ (g2 234 (l1 + 1)) ∧ (g2 234 (l1 + 1)) ≤ 2147483647 := I_10.1 234 (l1 + 1)
      have m_651 : g2 234 (l1 + 1) = g 234 (l1 + 1) := F_11 _ _ (by unfold fr_M_readTold; omega)
      have m_652 : (-2147483648) ≤ (g 234 (l1 + 1)) ∧ (g 234 (l1 + 1)) ≤ 2147483647 := I.1 234 (l1 + 1)
      have m_653 : (l1 + 1 = l1 → g5 234 (l1 + 1) = v1) ∧ (¬ l1 + 1 = l1 → g5 234 (l1 + 1) = g2 234 (l1 + 1)) := by rw [e_13]; exact zi_u_if
      have m_654 : (-2147483648) ≤ (g67 234 (l1 + 2)) ∧ (g67 234 (l1 + 2)) ≤ 2147483647 := I_628.1 234 (l1 + 2)
      have m_655 : g67 234 (l1 + 2) = g5 234 (l1 + 2) := F_629 _ _ (by unfold fr_M_errs; omega)
      have m_656 : (-2147483648) ≤ (g5 234 (l1 + 2)) ∧ (g5 234 (l1 + 2)) ≤ 2147483647 := I_14.1 234 (l1 + 2)
      have m_657 : (-2147483648) ≤ (g2 234 (l1 + 2)) ∧ (g2 234 (l1 + 2)) ≤ 2147483647 := I_10.1 234 (l1 + 2)
      have m_658 : g2 234 (l1 + 2) = g 234 (l1 + 2) := F_11 _ _ (by unfold fr_M_readTold; omega)
      have m_659 : (-2147483648) ≤ (g 234 (l1 + 2)) ∧ (g 234 (l1 + 2)) ≤ 2147483647 := I.1 234 (l1 + 2)
      have m_660 : (l1 + 2 = l1 → g5 234 (l1 + 2) = v1) ∧ (¬ l1 + 2 = l1 → g5 234 (l1 + 2) = g2 234 (l1 + 2)) := by rw [e_13]; exact zi_u_if
      have m_661 : (-2147483648) ≤ (g67 234 (l1 + 3)) ∧ (g67 234 (l1 + 3)) ≤ 2147483647 := I_628.1 234 (l1 + 3)
      have m_662 : g67 234 (l1 + 3) = g5 234 (l1 + 3) := F_629 _ _ (by unfold fr_M_errs; omega)
      have m_663 : (-2147483648) ≤ (g5 234 (l1 + 3)) ∧ (g5 234 (l1 + 3)) ≤ 2147483647 := I_14.1 234 (l1 + 3)
      have m_664 : (-2147483648) ≤ (g2 234 (l1 + 3)) ∧ (g2 234 (l1 + 3)) ≤ 2147483647 := I_10.1 234 (l1 + 3)
      have m_665 : g2 234 (l1 + 3) = g 234 (l1 + 3) := F_11 _ _ (by unfold fr_M_readTold; omega)
      have m_666 : (-2147483648) ≤ (g 234 (l1 + 3)) ∧ (g 234 (l1 + 3)) ≤ 2147483647 := I.1 234 (l1 + 3)
      have m_667 : (l1 + 3 = l1 → g5 234 (l1 + 3) = v1) ∧ (¬ l1 + 3 = l1 → g5 234 (l1 + 3) = g2 234 (l1 + 3)) := by rw [e_13]; exact zi_u_if
      have z_675 : ∀ i : Int, i < l1 → g67 234 i = g 234 i := by
        intro i hi
        have m_668 : (-2147483648) ≤ (g67 234 i) ∧ (g67 234 i) ≤ 2147483647 := I_628.1 234 i
        have m_669 : g67 234 i = g5 234 i := F_629 _ _ (by unfold fr_M_errs; omega)
        have m_670 : (-2147483648) ≤ (g5 234 i) ∧ (g5 234 i) ≤ 2147483647 := I_14.1 234 i
        have m_671 : (-2147483648) ≤ (g2 234 i) ∧ (g2 234 i) ≤ 2147483647 := I_10.1 234 i
        have m_672 : g2 234 i = g 234 i := F_11 _ _ (by unfold fr_M_readTold; omega)
        have m_673 : (-2147483648) ≤ (g 234 i) ∧ (g 234 i) ≤ 2147483647 := I.1 234 i
        have m_674 : (i = l1 → g5 234 i = v1) ∧ (¬ i = l1 → g5 234 i = g2 234 i) := by rw [e_13]; exact zi_u_if
        omega
      exact hQ _ _ I_628 F_630 ⟨by omega, by omega⟩ (by omega) (by omega) (by repeat first | assumption | refine zt3_u (by assumption) (by decide) ?_ | refine (by assumption : zt3 _ → zt3 _) ?_) (by omega) (by intro hv; unfold zj_deed; omega) z_675
  · have m_676 : 0 ≤ (g5 214 14) ∧ (g5 214 14) ≤ 400 := I_14.1 214 14
    have m_677 : g5 214 14 = g2 214 14 := by rw [e_13]; exact zi_u_ne (by decide)
    have m_678 : 0 ≤ (g2 214 14) ∧ (g2 214 14) ≤ 400 := I_10.1 214 14
    have m_679 : 0 ≤ (g5 214 13) ∧ (g5 214 13) ≤ 400 := I_14.1 214 13
    have m_680 : g5 214 13 = g2 214 13 := by rw [e_13]; exact zi_u_ne (by decide)
    have m_681 : 0 ≤ (g2 214 13) ∧ (g2 214 13) ≤ 400 := I_10.1 214 13
    have m_682 : g2 214 13 = g 214 13 := F_11 _ _ (by unfold fr_M_readTold; omega)
    have m_683 : 0 ≤ (g5 214 15) ∧ (g5 214 15) ≤ 400 := I_14.1 214 15
    have m_684 : g5 214 15 = g2 214 15 := by rw [e_13]; exact zi_u_ne (by decide)
    have m_685 : 0 ≤ (g2 214 15) ∧ (g2 214 15) ≤ 400 := I_10.1 214 15
    have m_686 : (-2147483648) ≤ (g5 234 (l1 + 1)) ∧ (g5 234 (l1 + 1)) ≤ 2147483647 := I_14.1 234 (l1 + 1)
    have m_687 : (-2147483648) ≤ (g2 234 (l1 + 1)) ∧ (g2 234 (l1 + 1)) ≤ 2147483647 := I_10.1 234 (l1 + 1)
    have m_688 : g2 234 (l1 + 1) = g 234 (l1 + 1) := F_11 _ _ (by unfold fr_M_readTold; omega)
    have m_689 : (-2147483648) ≤ (g 234 (l1 + 1)) ∧ (g 234 (l1 + 1)) ≤ 2147483647 := I.1 234 (l1 + 1)
    have m_690 : (l1 + 1 = l1 → g5 234 (l1 + 1) = v1) ∧ (¬ l1 + 1 = l1 → g5 234 (l1 + 1) = g2 234 (l1 + 1)) := by rw [e_13]; exact zi_u_if
    have m_691 : (-2147483648) ≤ (g5 234 (l1 + 2)) ∧ (g5 234 (l1 + 2)) ≤ 2147483647 := I_14.1 234 (l1 + 2)
    have m_692 : (-2147483648) ≤ (g2 234 (l1 + 2)) ∧ (g2 234 (l1 + 2)) ≤ 2147483647 := I_10.1 234 (l1 + 2)
    have m_693 : g2 234 (l1 + 2) = g 234 (l1 + 2) := F_11 _ _ (by unfold fr_M_readTold; omega)
    have m_694 : (-2147483648) ≤ (g 234 (l1 + 2)) ∧ (g 234 (l1 + 2)) ≤ 2147483647 := I.1 234 (l1 + 2)
    have m_695 : (l1 + 2 = l1 → g5 234 (l1 + 2) = v1) ∧ (¬ l1 + 2 = l1 → g5 234 (l1 + 2) = g2 234 (l1 + 2)) := by rw [e_13]; exact zi_u_if
    have m_696 : (-2147483648) ≤ (g5 234 (l1 + 3)) ∧ (g5 234 (l1 + 3)) ≤ 2147483647 := I_14.1 234 (l1 + 3)
    have m_697 : (-2147483648) ≤ (g2 234 (l1 + 3)) ∧ (g2 234 (l1 + 3)) ≤ 2147483647 := I_10.1 234 (l1 + 3)
    have m_698 : g2 234 (l1 + 3) = g 234 (l1 + 3) := F_11 _ _ (by unfold fr_M_readTold; omega)
    have m_699 : (-2147483648) ≤ (g 234 (l1 + 3)) ∧ (g 234 (l1 + 3)) ≤ 2147483647 := I.1 234 (l1 + 3)
    have m_700 : (l1 + 3 = l1 → g5 234 (l1 + 3) = v1) ∧ (¬ l1 + 3 = l1 → g5 234 (l1 + 3) = g2 234 (l1 + 3)) := by rw [e_13]; exact zi_u_if
    have z_706 : ∀ i : Int, i < l1 → g5 234 i = g 234 i := by
      intro i hi
      have m_701 : (-2147483648) ≤ (g5 234 i) ∧ (g5 234 i) ≤ 2147483647 := I_14.1 234 i
      have m_702 : (-2147483648) ≤ (g2 234 i) ∧ (g2 234 i) ≤ 2147483647 := I_10.1 234 i
      have m_703 : g2 234 i = g 234 i := F_11 _ _ (by unfold fr_M_readTold; omega)
      have m_704 : (-2147483648) ≤ (g 234 i) ∧ (g 234 i) ≤ 2147483647 := I.1 234 i
      have m_705 : (i = l1 → g5 234 i = v1) ∧ (¬ i = l1 → g5 234 i = g2 234 i) := by rw [e_13]; exact zi_u_if
      omega
    exact hQ _ _ I_14 F_15 ⟨by omega, by omega⟩ (by omega) (by omega) (by repeat first | assumption | refine zt3_u (by assumption) (by decide) ?_ | refine (by assumption : zt3 _ → zt3 _) ?_) (by omega) (by intro hv; unfold zj_deed; omega) z_706
