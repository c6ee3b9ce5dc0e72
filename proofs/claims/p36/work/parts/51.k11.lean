-- by program (wip/gen/mkz.py)
-- SpoutNewsModel.errs(I)I
theorem k_M_errs {l1 : Int} {g : zi_M} {Q : Int → zi_M → Prop} (I : zk_I g) (p1 : 1 ≤ l1 ∧ l1 ≤ 3) (hQ : ∀ (v : Int) (g' : zi_M), zk_I g' → zk_fr fr_M_errs g g' → ((-1) ≤ v ∧ v ≤ (-1)) → (zt3 g → zt3 g') → (∀ (r : Nat) (T : zyT) (t : Int), zyR r T g t → zyG T g' l1 t) → Q v g') : w_M_errs l1 g Q := by
  unfold w_M_errs
  intro g1 e1 g2 e2
  have b : 0 ≤ g 214 15 ∧ g 214 15 ≤ 400 := I.1 214 15
  have m : g1 214 15 = g 214 15 := by rw [e1]; exact zi_u_ni (by decide)
  have I1 : zk_I g1 := by rw [e1]; exact zk_upd (L := 0) (H := 3) rfl rfl I ⟨by omega, by omega⟩
  have I2 : zk_I g2 := by rw [e2]; exact zk_upd (L := 0) (H := 400) rfl rfl I1 ⟨by omega, by omega⟩
  have k : ∀ i : Int, ¬ i = 31 → ¬ i = 32 → g2 214 i = g 214 i := fun i h1 h2 => by rw [e2, zi_u_ni h2, e1, zi_u_ni h1]
  have F2 : zk_fr fr_M_errs g g2 := by rw [e2, e1]; exact zk_fu (zk_fu (zk_f0 _) (Or.inl ⟨rfl, rfl⟩)) (Or.inr ⟨rfl, rfl⟩)
  refine hQ (-1) g2 I2 F2 ⟨by decide, by decide⟩ (fun h => zt3_e h (k 14 (by decide) (by decide)) (k 15 (by decide) (by decide)) (k 16 (by decide) (by decide)) (k 17 (by decide) (by decide))) (fun r T t h => ⟨by rw [e2, zi_u_ni (by decide), e1, zi_u_eq], ?_⟩)
  rw [e2, zi_u_eq, m]
  exact h.2.2.1

-- SpoutNewsModel.canAsk(I)Z
set_option maxRecDepth 100000 in
set_option maxHeartbeats 4000000 in
theorem k_M_canAsk {l1 : Int} {g : zi_M} {Q : Int → zi_M → Prop} (I : zk_I g) (p1 : (-1) ≤ l1 ∧ l1 ≤ 100000) (hQ : ∀ v : Int, (l1 < 7 → v = 0) → (7 ≤ l1 → 15 < l1 → v = 0) → (7 ≤ l1 → l1 ≤ 15 → v = 1) → Q v g) : w_M_canAsk l1 g Q := by
  unfold w_M_canAsk
  refine k_M_isIn I ⟨by omega, by omega⟩ ⟨by omega, by omega⟩ ⟨by omega, by omega⟩ (fun v1 b_1 b_2 b_3 => ?_)
  exact hQ _ (by intros; omega) (by intros; omega) (by intros; omega)
-- SpoutNewsModel.readUnit()I
theorem k_M_readUnit_cc {g : zi_M} {Q : Int → zi_M → Prop} (y : zy g) (hQ : ∀ g' : zi_M, zx 1 0 g g' → (g 214 16 = 3 → g' 229 (800 + g' 214 27 - 1) = 0 ∧ g' 230 (800 + g' 214 27 - 1) = g 214 17) → zmcn zUn 0 g g' → Q 0 g')
    {w v : Int} (hw : 0 ≤ w ∧ w ≤ 1) (hv : -8 ≤ v ∧ v ≤ 100000) (h1 : w = 1 → 0 ≤ v ∧ v ≤ 8) (ht : ¬ g 214 16 = 0) (h3 : g 214 16 = 3 → w = 0 ∧ v = g 214 17) (hw2 : (w = 0 ∧ g 214 16 = 3 ∧ v = g 214 17) ∨ (w = 1 ∧ g 214 16 = 2 ∧ 7 ≤ g 214 17 ∧ g 214 17 ≤ 15 ∧ v = g 214 17 - 7)) :
    w_M_emits w v g (fun _ g5 => w_M_reads g5 (fun _ g8 => Q 0 g8)) := by
  have hlt := y.t3.1 ht
  have hsp := y.sp
  have hcf := y.cf
  have ht4 : g 214 13 ≤ 400 := (y.I.1 214 13).2
  refine k_M_emits y.I ⟨hw.1, by omega⟩ hv (by omega) (fun g5 I5 F5 c5 o5 a5 r5 => ?_)
  have x5 : zx 1 (-1) g g5 := zx_em y.r I5 F5 c5 o5 a5 r5 ⟨hw.1, by omega⟩ h1 (fun q => by omega) (fun q => by omega) (fun q => by omega) (by rw [if_pos hw.2]; rfl)
  have f15 : g5 214 15 = g 214 15 := F5 _ _ (by unfold fr_M_emits; omega)
  have f14 : g5 214 14 = g 214 14 := F5 _ _ (by unfold fr_M_emits; omega)
  refine k_M_reads I5 x5.sp (fun g8 I8 F8 p1 p2 p3 p4 tn => ?_)
  have x8 : zx 0 1 g5 g8 := zx_rd I8 F8 p1 p2 p3 p4 (by omega) (by omega)
  have c8 : g8 214 27 = g5 214 27 := F8 _ _ (by unfold fr_M_reads; omega)
  have b1 : g8 229 (800 + g8 214 27 - 1) = g5 229 (800 + g8 214 27 - 1) := F8 _ _ (by unfold fr_M_reads; omega)
  have b2 : g8 230 (800 + g8 214 27 - 1) = g5 230 (800 + g8 214 27 - 1) := F8 _ _ (by unfold fr_M_reads; omega)
  have e8 : 800 + g8 214 27 - 1 = 800 + g 214 27 := by omega
  refine hQ g8 (x5.t x8) (fun q => ?_) (zmu_y hw2 F5 (zEm_1 (y.I.1 214 27).1 c5 o5 a5 r5) (zstm_of F8 tn) F8)
  rw [b1, b2, e8, o5, a5]
  exact h3 q
theorem k_M_readUnit {g : zi_M} {Q : Int → zi_M → Prop} (I : zk_I g) (px0 : zy g) (hQ : ∀ (v : Int) (g' : zi_M), zk_I g' → zk_fr fr_M_readUnit g g' → ((-1) ≤ v ∧ v ≤ 0) → (¬ v = -1 → zx 1 0 g g') → (¬ v = -1 → g 214 16 = 3 → g' 229 (800 + g' 214 27 - 1) = 0 ∧ g' 230 (800 + g' 214 27 - 1) = g 214 17) → (zmcn zUn v g g') → Q v g') : w_M_readUnit g Q := by
  have t := px0.t3
  have ok : ∀ g', zx 1 0 g g' → (g 214 16 = 3 → g' 229 (800 + g' 214 27 - 1) = 0 ∧ g' 230 (800 + g' 214 27 - 1) = g 214 17) → zmcn zUn 0 g g' → Q 0 g' := fun g' x l cn => hQ 0 g' x.I x.fr ⟨by decide, by decide⟩ (fun _ => x) (fun _ => l) cn
  have r16 := I.1 214 16
  have r17 : -1 ≤ g 214 17 ∧ g 214 17 ≤ 100000 := I.1 214 17
  have b43 : ∀ l : Int, 0 ≤ l ∧ l ≤ 1 → (l = 0 → g 214 16 = 3) → (¬ l = 0 → g 214 16 = 2 ∧ 7 ≤ g 214 17 ∧ g 214 17 ≤ 15) → w_M_readUnit_b43 l g Q := by
    intro l hl h0 h1
    unfold w_M_readUnit_b43
    refine ⟨⟨by omega, by omega⟩, fun e => ⟨fun _ => ?_, fun n => absurd e n⟩, fun n => ⟨fun e => absurd e n, fun _ => ?_⟩⟩
    · have := h0 e
      exact k_M_readUnit_cc px0 ok ⟨by omega, by omega⟩ ⟨by omega, by omega⟩ (fun q => by omega) (by omega) (fun _ => ⟨rfl, rfl⟩) (Or.inl ⟨rfl, this, rfl⟩)
    · have := h1 n
      exact k_M_readUnit_cc px0 ok ⟨by omega, by omega⟩ ⟨by omega, by omega⟩ (fun q => by omega) (by omega) (fun q => by omega) (Or.inr ⟨rfl, this.1, this.2.1, this.2.2, rfl⟩)
  have b24 : ∀ l : Int, 0 ≤ l ∧ l ≤ 1 → (¬ l = 0 → g 214 16 = 2 ∧ 7 ≤ g 214 17 ∧ g 214 17 ≤ 15) → (l = 0 → ¬ (g 214 16 = 2 ∧ 7 ≤ g 214 17 ∧ g 214 17 ≤ 15)) → w_M_readUnit_b24 l g Q := by
    intro l hl h1 h0
    unfold w_M_readUnit_b24
    refine ⟨⟨by omega, by omega⟩, fun n => b43 l hl (fun e => absurd e n) h1, fun e => ⟨zk_rng I _ _, fun q => b43 l hl (fun _ => q) h1, fun q => ?_⟩⟩
    refine k_M_errs I ⟨by decide, by decide⟩ (fun v g' I' F' hv _ er => ?_)
    exact hQ v g' I' (zk_ft (zk_f0 _) F' fr_XP) ⟨by omega, by omega⟩ (fun n => by omega) (fun n => by omega) (zmu_n q (h0 e) (by omega) er (zlo_x F'))
  unfold w_M_readUnit
  refine ⟨zk_rng I _ _, fun n => b24 0 ⟨by decide, by decide⟩ (fun n => absurd rfl n) (fun _ q => n q.1), fun e => ?_⟩
  refine k_M_canAsk I ⟨by omega, by omega⟩ (fun v b1 b2 b3 => ⟨fun z => b24 0 ⟨by decide, by decide⟩ (fun n => absurd rfl n) (fun _ q => by have := b3 q.2.1 q.2.2; omega), fun n => b24 1 ⟨by decide, by decide⟩ (fun _ => ?_) (fun q => by omega)⟩)
  have := t.2.2 e
  refine ⟨e, ?_, ?_⟩ <;> omega

-- SpoutNewsModel.isSign(I)Z
set_option maxRecDepth 100000 in
set_option maxHeartbeats 4000000 in
theorem k_M_isSign {l1 : Int} {g : zi_M} {Q : Int → zi_M → Prop} (I : zk_I g) (p1 : 40 ≤ l1 ∧ l1 ≤ 62) (hQ : ∀ v : Int, (¬ (g 214 16) = 4 → v = 0) → ((g 214 16) = 4 → ¬ (g 214 17) = l1 → v = 0) → ((g 214 16) = 4 → (g 214 17) = l1 → v = 1) → Q v g) : w_M_isSign l1 g Q := by
  unfold w_M_isSign
  have m_1 : 0 ≤ (g 214 16) ∧ (g 214 16) ≤ 4 := I.1 214 16
  refine ⟨⟨by omega, by omega⟩, ?_⟩
  refine ⟨fun c5 => ?_, fun c5 => ?_⟩
  · have m_2 : (-1) ≤ (g 214 17) ∧ (g 214 17) ≤ 100000 := I.1 214 17
    exact hQ _ (by intros; omega) (by intros; omega) (by intros; omega)
  · have m_3 : (-1) ≤ (g 214 17) ∧ (g 214 17) ≤ 100000 := I.1 214 17
    refine ⟨⟨by omega, by omega⟩, ⟨by omega, by omega⟩, ?_⟩
    refine ⟨fun c4 => ?_, fun c4 => ?_⟩
    · exact hQ _ (by intros; omega) (by intros; omega) (by intros; omega)
    · exact hQ _ (by intros; omega) (by intros; omega) (by intros; omega)
-- SpoutNewsModel.readProduct()I
theorem k_M_readProduct_l10 {g0 : zi_M} {K51 K68 K82 K101 : zi_M → Prop} {Q : Int → zi_M → Prop} (h0 : g0 214 27 ≤ g0 214 15) (hK51 : ∀ g, zk_I g → zk_fr fr_P g0 g → zPe_ 1 g0 g → K51 g) (hK68 : ∀ g, zk_I g → zk_fr fr_P g0 g → zPe_ 2 g0 g → K68 g) (hK82 : ∀ g, zk_I g → zk_fr fr_P g0 g → zPf_ g0 g → K82 g) (hK101 : ∀ g, zx 1 0 g0 g → zPx_ g0 g → K101 g) :
    ∀ (n : Nat) (g : zi_M), zx 1 0 g0 g → zPl_ g0 g → 400 - g 214 15 < (n : Int) → w_M_readProduct_l10 K51 K68 K82 K101 Q n g
  | 0, g, x, pl, hm => by
    have a1 := x.fs; have a2 := x.sp
    have a3 : g 214 13 ≤ 400 := (x.I.1 214 13).2
    exfalso; omega
  | n + 1, g, x, pl, hm => by
    have I := x.I
    have a1 := x.fs; have a2 := x.sp
    have a3 : g 214 13 ≤ 400 := (x.I.1 214 13).2
    have b28 : g 214 16 = 4 → (g 214 17 = 42 ∨ g 214 17 = 47) → w_M_readProduct_b28 g (w_M_readProduct_l10 K51 K68 K82 K101 Q n) K51 K68 K82 K101 Q := by
      intro ht hv
      have hlt := x.t3.1 (by omega)
      unfold w_M_readProduct_b28
      refine k_M_isSign I ⟨by decide, by decide⟩ (fun v8 c1 c2 c3 => ?_)
      refine k_M_reads I x.sp (fun g12 I12 F12 p1 p2 p3 p4 tn => ?_)
      have st := zstm_of F12 tn
      have x1 : zx 0 1 g g12 := zx_rd I12 F12 p1 p2 p3 p4 (by omega) (by omega)
      have x2 : zx 1 1 g0 g12 := x.t x1
      have y12 := x2.y (by decide) h0
      have b74 : ∀ l : Int, 0 ≤ l ∧ l ≤ 1 → (l = 0 → g12 214 16 = 3 ∧ ¬ g12 214 17 = 0) → (l = 0 → g 214 17 = 47) → (¬ l = 0 → g 214 17 = 42) → w_M_readProduct_b74 l g12 (w_M_readProduct_l10 K51 K68 K82 K101 Q n) K51 K68 K82 K101 Q := by
        intro l hl hz l47 l42
        unfold w_M_readProduct_b74
        refine k_M_readUnit I12 y12 (fun v15 g16 I16 F16 hv15 hx hlast cn => ⟨⟨by omega, by omega⟩, fun n1 => ?_, fun e1 => hK82 _ I16 (zk_ft x2.fr F16 (fun _ _ e => e)) ?_⟩)
        rotate_left
        · by_cases l0 : l = 0
          · exact (zPl_u pl (Or.inr ⟨rfl, ⟨ht, l47 l0⟩, (hz l0).1, (hz l0).2⟩) st F12 cn).1 e1
          · exact (zPl_u pl (Or.inl ⟨rfl, ht, l42 l0⟩) st F12 cn).1 e1
        have x3 := hx n1
        have x4 : zx 2 1 g0 g16 := x2.t x3
        have z1 := x4.fs; have z2 := x4.sp
        have z3 : g16 214 13 ≤ 400 := (I16.1 214 13).2
        have z4 := x4.cf
        have z5 := x3.ff
        have z6 := x2.cc
        have z7 : 0 ≤ g0 214 15 ∨ True := Or.inr trivial
        have z8 := x3.cf
        have go : ∀ w : Int, w = 4 ∨ w = 5 → (w = 5 → l = 0) → (w = 4 → ¬ l = 0) → w_M_emits w 0 g16 (fun _ g' => w_M_readProduct_l10 K51 K68 K82 K101 Q n g') := by
          intro w hw hw5 hw4
          refine k_M_emits I16 ⟨by omega, by omega⟩ ⟨by decide, by decide⟩ (by omega) (fun g5 I5 F5 c5 o5 a5 r5 => ?_)
          have x5 : zx 1 (1 - 1) g0 g5 := zx_em x4 I5 F5 c5 o5 a5 r5 ⟨by omega, by omega⟩ (fun q => by omega) (fun q => by omega) (fun _ _ => by omega) (fun q => ?_) (by rw [if_neg (by omega), if_neg (by omega)]; rfl)
          · have f15 : g5 214 15 = g16 214 15 := F5 _ _ (by unfold fr_M_emits; omega)
            have pl5 : zPl_ g0 g5 := by
              rcases hw with e4 | e5
              · subst e4
                exact (zPl_u pl (Or.inl ⟨rfl, ht, l42 (hw4 rfl)⟩) st F12 cn).2 n1 g5 (zEm_1 (I16.1 214 27).1 c5 o5 a5 r5) F5
              · subst e5
                exact (zPl_u pl (Or.inr ⟨rfl, ⟨ht, l47 (hw5 rfl)⟩, (hz (hw5 rfl)).1, (hz (hw5 rfl)).2⟩) st F12 cn).2 n1 g5 (zEm_1 (I16.1 214 27).1 c5 o5 a5 r5) F5
            exact k_M_readProduct_l10 h0 hK51 hK68 hK82 hK101 n g5 x5 pl5 (by have := x1.ff; omega)
          · have hh := hz (hw5 q)
            have hl2 := hlast n1 hh.1
            have t12 := y12.t3.2.1 hh.1
            have dd := x3.dp _ _ (zp_nil (g := g12) (I12.1 214 27).1)
            have d2 := dd.2.2.2.2
            have ne : ¬ g12 214 27 = g16 214 27 := by
              intro e
              rw [e, Int.sub_self] at d2
              exact absurd d2 (show ¬ (0 : Int) = 0 + 1 by decide)
            have := x3.cc
            refine ⟨by omega, hl2.1, by rw [hl2.2]; omega⟩
        refine ⟨⟨by omega, by omega⟩, fun e => go 5 (Or.inr rfl) (fun _ => e) (fun q => by omega), fun n4 => go 4 (Or.inl rfl) (fun q => by omega) (fun _ => n4)⟩
      have b57 : ∀ l : Int, 0 ≤ l ∧ l ≤ 1 → (l = 0 → g12 214 16 = 3) → (l = 0 → g 214 17 = 47) → (¬ l = 0 → g 214 17 = 42) → w_M_readProduct_b57 l g12 (w_M_readProduct_l10 K51 K68 K82 K101 Q n) K51 K68 K82 K101 Q := by
        intro l hl hz l47 l42
        unfold w_M_readProduct_b57
        refine ⟨⟨by omega, by omega⟩, fun n1 => b74 l hl (fun e => absurd e n1) l47 l42, fun e => ⟨zk_rng I12 _ _, fun n2 => b74 l hl (fun _ => ⟨hz e, n2⟩) l47 l42, fun z2 => hK68 _ I12 x2.fr (zPe_1 pl ⟨ht, l47 e⟩ st F12 (Or.inr ⟨rfl, hz e, z2⟩))⟩⟩
      refine ⟨fun n1 => b57 v8 (by omega) (fun e => absurd e n1) (fun e => absurd e n1) (fun _ => by omega), fun e => ⟨zk_rng I12 _ _, fun q => b57 v8 (by omega) (fun _ => q) (fun _ => by omega) (fun n => absurd e n), fun q => hK51 _ I12 x2.fr (zPe_1 pl ⟨ht, by omega⟩ st F12 (Or.inl ⟨rfl, q⟩))⟩⟩
    unfold w_M_readProduct_l10
    refine k_M_isSign I ⟨by decide, by decide⟩ (fun v5 c1 c2 c3 => ⟨fun n1 => b28 (by omega) (by omega), fun e => ?_⟩)
    refine k_M_isSign I ⟨by decide, by decide⟩ (fun v34 d1 d2 d3 => ⟨fun z2 => hK101 _ x (zPx_x pl (by omega) (by omega)), fun n2 => b28 (by omega) (by omega)⟩)
theorem k_M_readProduct {g : zi_M} {Q : Int → zi_M → Prop} (I : zk_I g) (px0 : zy g) (hQ : ∀ (v : Int) (g' : zi_M), zk_I g' → zk_fr fr_M_readProduct g g' → ((-1) ≤ v ∧ v ≤ 0) → (¬ v = -1 → zx 1 0 g g') → (zPr_ v g g') → Q v g') : w_M_readProduct g Q := by
  unfold w_M_readProduct
  refine k_M_readUnit I px0 (fun v1 g2 I2 F2 hv1 hx hl cn => ⟨⟨by omega, by omega⟩, fun n1 => ?_, fun e1 => hQ _ _ I2 F2 ⟨by decide, by decide⟩ (fun n => absurd rfl n) (Or.inr ⟨rfl, zPf_0 cn e1⟩)⟩)
  have x := hx n1
  have er : ∀ k : Int, 1 ≤ k ∧ k ≤ 3 → ∀ g', zk_I g' → zk_fr fr_P g g' → zPe_ k g g' → w_M_errs k g' (fun v g'' => Q v g'') := by
    intro k hk g' I' F' pe
    refine k_M_errs I' hk (fun v g'' I'' F'' hv _ er => ?_)
    exact hQ _ _ I'' (zk_ft F' F'' fr_XP) ⟨by omega, by omega⟩ (fun n => by omega) (Or.inr ⟨by omega, zPf_e pe (by omega) er (zlo_x F'')⟩)
  have a3 : 0 ≤ g2 214 15 := (I2.1 214 15).1
  exact ⟨401, k_M_readProduct_l10 px0.cf (fun g' I' F' pe => er 1 ⟨by decide, by decide⟩ g' I' F' pe) (fun g' I' F' pe => er 2 ⟨by decide, by decide⟩ g' I' F' pe) (fun g' I' F' pf => hQ _ _ I' F' ⟨by decide, by decide⟩ (fun n => absurd rfl n) (Or.inr ⟨rfl, pf⟩)) (fun g' x' px => hQ _ _ x'.I x'.fr ⟨by decide, by decide⟩ (fun _ => x') (Or.inl ⟨rfl, px⟩)) 401 g2 x (zPl_0 cn n1) (by omega)⟩

-- SpoutNewsModel.readSum()I
theorem k_M_readSum_l10 {g0 : zi_M} {K55 K66 : zi_M → Prop} {Q : Int → zi_M → Prop} (h0 : g0 214 27 ≤ g0 214 15) (hK55 : ∀ g, zk_I g → zk_fr fr_P g0 g → zmcn zSu (-1) g0 g → K55 g) (hK66 : ∀ g, zx 1 0 g0 g → zmcn zSu 0 g0 g → K66 g) :
    ∀ (n : Nat) (g : zi_M), zx 1 0 g0 g → zQl_ g0 g → 400 - g 214 15 < (n : Int) → w_M_readSum_l10 K55 K66 Q n g
  | 0, g, x, ql, hm => by
    have a1 := x.fs; have a2 := x.sp
    have a3 : g 214 13 ≤ 400 := (x.I.1 214 13).2
    exfalso; omega
  | n + 1, g, x, ql, hm => by
    have I := x.I
    have a1 := x.fs; have a2 := x.sp
    have a3 : g 214 13 ≤ 400 := (x.I.1 214 13).2
    have b28 : g 214 16 = 4 → (g 214 17 = 43 ∨ g 214 17 = 45) → w_M_readSum_b28 g (w_M_readSum_l10 K55 K66 Q n) K55 K66 Q := by
      intro ht hv
      have hlt := x.t3.1 (by omega)
      have b42 : ∀ w : Int, 2 ≤ w ∧ w ≤ 3 → ((w = 2 ∧ g 214 16 = 4 ∧ g 214 17 = 43) ∨ (w = 3 ∧ g 214 16 = 4 ∧ g 214 17 = 45)) → w_M_readSum_b42 w g (w_M_readSum_l10 K55 K66 Q n) K55 K66 Q := by
        intro w hw sw
        unfold w_M_readSum_b42
        refine k_M_reads I x.sp (fun g12 I12 F12 p1 p2 p3 p4 tn => ?_)
        have st := zstm_of F12 tn
        have x1 : zx 0 1 g g12 := zx_rd I12 F12 p1 p2 p3 p4 (by omega) (by omega)
        have x2 : zx 1 1 g0 g12 := x.t x1
        have y12 := x2.y (by decide) h0
        refine k_M_readProduct I12 y12 (fun v15 g16 I16 F16 hv15 hx cn => ⟨⟨by omega, by omega⟩, fun n1 => ?_, fun e1 => hK55 _ I16 (zk_ft x2.fr F16 (fun _ _ e => e)) ((zQl_u ql sw st F12 cn).1 e1)⟩)
        have x3 := hx n1
        have x4 : zx 2 1 g0 g16 := x2.t x3
        have z1 := x4.fs; have z2 := x4.sp
        have z3 : g16 214 13 ≤ 400 := (I16.1 214 13).2
        have z4 := x4.cf
        have z5 := x3.ff
        have z8 := x1.ff
        refine k_M_emits I16 ⟨by omega, by omega⟩ ⟨by decide, by decide⟩ (by omega) (fun g5 I5 F5 c5 o5 a5 r5 => ?_)
        have x5 : zx 1 (1 - 1) g0 g5 := zx_em x4 I5 F5 c5 o5 a5 r5 ⟨by omega, by omega⟩ (fun q => by omega) (fun q => by omega) (fun _ _ => by omega) (fun q => by omega) (by rw [if_neg (by omega), if_neg (by omega)]; rfl)
        have f15 : g5 214 15 = g16 214 15 := F5 _ _ (by unfold fr_M_emits; omega)
        exact k_M_readSum_l10 h0 hK55 hK66 n g5 x5 ((zQl_u ql sw st F12 cn).2 n1 g5 (zEm_1 (I16.1 214 27).1 c5 o5 a5 r5) F5) (by omega)
      unfold w_M_readSum_b28
      exact ⟨zk_rng I _ _, fun n43 => b42 3 ⟨by decide, by decide⟩ (Or.inr ⟨rfl, ht, by omega⟩), fun e43 => b42 2 ⟨by decide, by decide⟩ (Or.inl ⟨rfl, ht, e43⟩)⟩
    unfold w_M_readSum_l10
    refine k_M_isSign I ⟨by decide, by decide⟩ (fun v5 c1 c2 c3 => ⟨fun n1 => b28 (by omega) (by omega), fun e => ?_⟩)
    refine k_M_isSign I ⟨by decide, by decide⟩ (fun v34 d1 d2 d3 => ⟨fun z2 => hK66 _ x (zQl_x ql (by omega) (by omega)), fun n2 => b28 (by omega) (by omega)⟩)
theorem k_M_readSum {g : zi_M} {Q : Int → zi_M → Prop} (I : zk_I g) (px0 : zy g) (hQ : ∀ (v : Int) (g' : zi_M), zk_I g' → zk_fr fr_M_readSum g g' → ((-1) ≤ v ∧ v ≤ 0) → (¬ v = -1 → zx 1 0 g g') → (zmcn zSu v g g') → Q v g') : w_M_readSum g Q := by
  unfold w_M_readSum
  refine k_M_readProduct I px0 (fun v1 g2 I2 F2 hv1 hx cn => ⟨⟨by omega, by omega⟩, fun n1 => ?_, fun e1 => hQ _ _ I2 F2 ⟨by decide, by decide⟩ (fun n => absurd rfl n) (by have := zQf_0 cn e1; rw [e1] at this; exact this)⟩)
  have x := hx n1
  have a3 : 0 ≤ g2 214 15 := (I2.1 214 15).1
  exact ⟨401, k_M_readSum_l10 px0.cf (fun g' I' F' cf => hQ _ _ I' F' ⟨by decide, by decide⟩ (fun n => absurd rfl n) cf) (fun g' x' cy => hQ _ _ x'.I x'.fr ⟨by decide, by decide⟩ (fun _ => x') cy) 401 g2 x (zQl_0 cn n1) (by omega)⟩

-- SpoutNewsModel.isWord(I)Z
set_option maxRecDepth 100000 in
set_option maxHeartbeats 4000000 in
theorem k_M_isWord {l1 : Int} {g : zi_M} {Q : Int → zi_M → Prop} (I : zk_I g) (p1 : 3 ≤ l1 ∧ l1 ≤ 20) (hQ : ∀ v : Int, (¬ (g 214 16) = 2 → v = 0) → ((g 214 16) = 2 → ¬ (g 214 17) = l1 → v = 0) → ((g 214 16) = 2 → (g 214 17) = l1 → v = 1) → Q v g) : w_M_isWord l1 g Q := by
  unfold w_M_isWord
  have m_1 : 0 ≤ (g 214 16) ∧ (g 214 16) ≤ 4 := I.1 214 16
  refine ⟨⟨by omega, by omega⟩, ?_⟩
  refine ⟨fun c5 => ?_, fun c5 => ?_⟩
  · have m_2 : (-1) ≤ (g 214 17) ∧ (g 214 17) ≤ 100000 := I.1 214 17
    exact hQ _ (by intros; omega) (by intros; omega) (by intros; omega)
  · have m_3 : (-1) ≤ (g 214 17) ∧ (g 214 17) ≤ 100000 := I.1 214 17
    refine ⟨⟨by omega, by omega⟩, ⟨by omega, by omega⟩, ?_⟩
    refine ⟨fun c4 => ?_, fun c4 => ?_⟩
    · exact hQ _ (by intros; omega) (by intros; omega) (by intros; omega)
    · exact hQ _ (by intros; omega) (by intros; omega) (by intros; omega)
-- SpoutNewsModel.settles(I)V
theorem k_M_settles_l0 {w : Int} (hw : w = 9 ∨ w = 10 ∨ w = 11) {K : zi_M → Prop} {Q : Int → zi_M → Prop} : ∀ (P : List Int) (g : zi_M), zk_I g → zq g P → g 214 27 + P.length ≤ 400 → (w = 9 → zl_cnt 9 P ≤ g 214 28) → (∀ g', zS w P g g' → zEm (zdl w P) g g' → K g') → w_M_settles_l0 w K Q (P.length + 1) g
  | [], g, I, q, hc, ho, hK => by
    have z : g 214 30 = 0 := q.1
    show _ ∧ _
    refine ⟨zk_rng I _ _, fun _ => hK g (zS_0 I q (Or.inr rfl)) zEm_0, fun n => by omega⟩
  | x :: t, g, I, q, hc, ho, hK => by
    have z : g 214 30 = ((x :: t).length : Int) := q.1
    rw [List.length_cons] at z hc
    have zx : g 231 (t.length : Int) = x := q.2.1
    have hl : g 214 30 ≤ 40 := (I.1 214 30).2
    have ei : g 214 30 - 1 = (t.length : Int) := by omega
    rw [List.length_cons]
    show _ ∧ _
    refine ⟨zk_rng I _ _, fun n => by omega, fun _ => ⟨⟨by omega, by omega⟩, zk_rng I _ _, ⟨by omega, by omega⟩, fun n => ?_, fun e => ?_⟩⟩
    · have nx : x ≠ w := fun e => n (by rw [ei, zx, e])
      refine hK g (zS_0 I q (Or.inl nx)) ?_
      rw [zdl_n nx]
      exact zEm_0
    · rw [ei, zx] at e
      intro g5 e5
      have c0 : 0 ≤ g 214 27 := (I.1 214 27).1
      have I5 : zk_I g5 := by rw [e5]; exact zk_upd (L := 0) (H := 40) rfl rfl I ⟨by omega, by omega⟩
      have F5 : zk_fr fr_S g g5 := by rw [e5]; exact zk_fu (zk_f0 _) (Or.inr (Or.inr (Or.inr (Or.inr ⟨rfl, rfl⟩))))
      have a27 : g5 214 27 = g 214 27 := by rw [e5]; exact zi_u_ni (by decide)
      have a28 : g5 214 28 = g 214 28 := by rw [e5]; exact zi_u_ni (by decide)
      have a30 : g5 214 30 = (t.length : Int) := by rw [e5, zi_u_eq, ei]
      have a231 : ∀ i, g5 231 i = g 231 i := fun i => by rw [e5]; exact zi_u_ne (by decide)
      have a229 : ∀ i, g5 229 i = g 229 i ∧ g5 230 i = g 230 i := fun i => ⟨by rw [e5]; exact zi_u_ne (by decide), by rw [e5]; exact zi_u_ne (by decide)⟩
      refine k_M_emits I5 ⟨by omega, by omega⟩ ⟨by decide, by decide⟩ (by omega) (fun g7 I7 F7 c7 o7 v7 l7 => ?_)
      have F7' : zk_fr fr_S g g7 := zk_ft F5 F7 (fun a i h => h.elim Or.inl (fun h => h.elim (fun h => Or.inr (Or.inl h)) (fun h => Or.inr (Or.inr (Or.inl h)))))
      have b28 : g7 214 28 = g 214 28 := by rw [F7 214 28 (by unfold fr_M_emits; omega), a28]
      have b30 : g7 214 30 = (t.length : Int) := by rw [F7 214 30 (by unfold fr_M_emits; omega), a30]
      have b231 : ∀ i, g7 231 i = g 231 i := fun i => by rw [F7 231 i (by unfold fr_M_emits; omega), a231]
      rw [a27] at c7 o7 v7 l7
      have lw : ∀ i : Int, ¬ i = 800 + g 214 27 → g7 229 i = g 229 i ∧ g7 230 i = g 230 i := fun i hi => ⟨(l7 i hi).1.trans (a229 i).1, (l7 i hi).2.trans (a229 i).2⟩
      have cn : zl_cnt w (x :: t) = zl_cnt w t + 1 := by show (if x = w then _ else _) = _; rw [if_pos e]
      have cn0 := zl_cnt0 w t
      have em7 : zEm [(w, 0)] g g7 := zEm_1 c0 c7 o7 v7 lw
      refine ⟨fun n9 => ?_, fun e9 => ?_⟩
      · refine k_M_settles_l0 hw t g7 I7 ⟨b30, zql_c q.2.2 (fun i _ _ => b231 i)⟩ (by omega) (fun q => absurd q n9) (fun g' s' m' => hK g' ?_ (by rw [zdl_y e]; exact zEm_t em7 m'))
        rw [e]
        exact zS_1 ⟨by omega, by omega, by omega⟩ I7 F7' c7 o7 v7 lw (by rw [b28, if_neg n9]; omega) s'
      · intro g9 e9'
        have ho9 := ho e9
        rw [← e9] at ho9
        have I9 : zk_I g9 := by
          rw [e9']
          have := (I7.1 214 28).2
          exact zk_upd (L := 0) (H := 8) rfl rfl I7 ⟨by omega, by have h8 : g7 214 28 ≤ 8 := this; omega⟩
        have F9 : zk_fr fr_S g g9 := by rw [e9']; exact zk_fu F7' (Or.inr (Or.inr (Or.inr (Or.inl ⟨rfl, rfl⟩))))
        have d27 : g9 214 27 = g7 214 27 := by rw [e9']; exact zi_u_ni (by decide)
        have d28 : g9 214 28 = g 214 28 - 1 := by rw [e9', zi_u_eq, b28]
        have d30 : g9 214 30 = (t.length : Int) := by rw [e9', zi_u_ni (by decide), b30]
        have d231 : ∀ i, g9 231 i = g 231 i := fun i => by rw [e9', zi_u_ne (by decide), b231]
        have d229 : ∀ i, g9 229 i = g7 229 i ∧ g9 230 i = g7 230 i := fun i => ⟨by rw [e9']; exact zi_u_ne (by decide), by rw [e9']; exact zi_u_ne (by decide)⟩
        refine k_M_settles_l0 hw t g9 I9 ⟨d30, zql_c q.2.2 (fun i _ _ => d231 i)⟩ (by omega) (fun _ => by rw [d28, ← e9]; omega) (fun g' s' m' => hK g' ?_ (by rw [zdl_y e]; exact zEm_t em7 (zEm_s m' d27 d229)))
        rw [e]
        exact zS_1 ⟨by omega, by omega, by omega⟩ I9 F9 (by rw [d27, c7]) (by rw [(d229 _).1, o7]) (by rw [(d229 _).2, v7]) (fun i hi => ⟨(d229 i).1.trans (lw i hi).1, (d229 i).2.trans (lw i hi).2⟩) (by rw [d28, if_pos e9]) s'
theorem k_M_settles {l1 : Int} {g : zi_M} {Q : Int → zi_M → Prop} (I : zk_I g) (p1 : 9 ≤ l1 ∧ l1 ≤ 11) (px0 : ∃ P, zq g P ∧ g 214 27 + P.length ≤ 400 ∧ (l1 = 9 → zl_cnt 9 P ≤ g 214 28)) (hQ : ∀ g' : zi_M, zk_I g' → zk_fr fr_M_settles g g' → (∀ P, zq g P → zS l1 P g g') → (∀ P : List Int, zq g P → zEm (zdl l1 P) g g') → Q 0 g') : w_M_settles l1 g Q := by
  unfold w_M_settles
  obtain ⟨P, h1, h2, h3⟩ := px0
  exact ⟨P.length + 1, k_M_settles_l0 (by omega) P g I h1 h2 h3 (fun g' s m => hQ g' s.I s.fr (fun P' q' => by rw [← zq_u h1 q']; exact s) (fun P' q' => by rw [← zq_u h1 q']; exact m))⟩

-- SpoutNewsModel.waits(I)V
theorem k_M_waits {l1 : Int} {g : zi_M} {Q : Int → zi_M → Prop} (I : zk_I g) (p1 : 9 ≤ l1 ∧ l1 ≤ 12) (px0 : g 214 30 ≤ 39) (hQ : ∀ g' : zi_M, zk_I g' → zk_fr fr_M_waits g g' → (g' 214 30 = g 214 30 + 1) → (g' 231 (g 214 30) = l1) → (∀ i : Int, ¬ i = g 214 30 → g' 231 i = g 231 i) → Q 0 g') : w_M_waits l1 g Q := by
  unfold w_M_waits
  have h0 : 0 ≤ g 214 30 := (I.1 214 30).1
  refine ⟨⟨by omega, by omega⟩, ?_⟩
  intro g2 e2
  have I2 : zk_I g2 := by rw [e2]; exact zk_upd (L := -2147483648) (H := 2147483647) rfl rfl I ⟨by omega, by omega⟩
  have a1 : g2 214 30 = g 214 30 := by rw [e2]; exact zi_u_ne (by decide)
  intro g3 e3
  have I3 : zk_I g3 := by rw [e3]; exact zk_upd (L := 0) (H := 40) rfl rfl I2 ⟨by omega, by omega⟩
  have F2 : zk_fr fr_M_waits g g2 := by rw [e2]; exact zk_fu (zk_f0 _) (Or.inl rfl)
  have F3 : zk_fr fr_M_waits g g3 := by rw [e3]; exact zk_fu F2 (Or.inr ⟨rfl, rfl⟩)
  refine hQ g3 I3 F3 ?_ ?_ ?_
  · rw [e3, zi_u_eq, a1]
  · rw [e3, zi_u_ne (by decide), e2, zi_u_eq]
  · intro i hi
    rw [e3, zi_u_ne (by decide), e2, zi_u_ni hi]

-- SpoutNewsModel.readCompared()I
theorem k_M_readCompared {g : zi_M} {Q : Int → zi_M → Prop} (I : zk_I g) (px0 : zy g) (hQ : ∀ (v : Int) (g' : zi_M), zk_I g' → zk_fr fr_M_readCompared g g' → ((-1) ≤ v ∧ v ≤ 0) → (¬ v = -1 → zx 1 0 g g') → (zmcn zCp v g g') → Q v g') : w_M_readCompared g Q := by
  have b43 : ∀ (g2 : zi_M) (v1 : Int), zx 1 0 g g2 → zmcn zSu v1 g g2 → ¬ v1 = -1 → g2 214 16 = 4 → (g2 214 17 = 60 ∨ g2 214 17 = 61 ∨ g2 214 17 = 62) → w_M_readCompared_b43 g2 Q := by
    intro g2 v1 x su nv ht hv
    have I2 := x.I
    have a1 := x.fs; have a2 := x.sp
    have hlt := x.t3.1 (by omega)
    have b73 : ∀ w : Int, 6 ≤ w ∧ w ≤ 8 → ((w = 6 ∧ g2 214 16 = 4 ∧ g2 214 17 = 60) ∨ (w = 7 ∧ g2 214 16 = 4 ∧ g2 214 17 = 61) ∨ (w = 8 ∧ g2 214 16 = 4 ∧ g2 214 17 = 62)) → w_M_readCompared_b73 w g2 Q := by
      intro w hw sw
      unfold w_M_readCompared_b73
      refine k_M_reads I2 x.sp (fun g12 I12 F12 p1 p2 p3 p4 tn => ?_)
      have st := zstm_of F12 tn
      have x1 : zx 0 1 g2 g12 := zx_rd I12 F12 p1 p2 p3 p4 (by omega) (by omega)
      have x2 : zx 1 1 g g12 := x.t x1
      have y12 := x2.y (by decide) px0.cf
      refine k_M_readSum I12 y12 (fun v15 g16 I16 F16 hv15 hx cn => ⟨⟨by omega, by omega⟩, fun n1 => ?_, fun e1 => hQ _ _ I16 (zk_ft x2.fr F16 (fun _ _ e => e)) ⟨by decide, by decide⟩ (fun n => absurd rfl n) ((zMc_u su nv sw st F12 cn).1 e1)⟩)
      have x3 := hx n1
      have x4 : zx 2 1 g g16 := x2.t x3
      have z1 := x4.fs; have z2 := x4.sp
      have z3 : g16 214 13 ≤ 400 := (I16.1 214 13).2
      have z4 := x4.cf
      have z5 := px0.cf
      refine k_M_emits I16 ⟨by omega, by omega⟩ ⟨by decide, by decide⟩ (by omega) (fun g5 I5 F5 c5 o5 a5 r5 => ?_)
      have x5 : zx 1 (1 - 1) g g5 := zx_em x4 I5 F5 c5 o5 a5 r5 ⟨by omega, by omega⟩ (fun q => by omega) (fun q => by omega) (fun _ _ => by omega) (fun q => by omega) (by rw [if_neg (by omega), if_neg (by omega)]; rfl)
      exact hQ _ _ I5 x5.fr ⟨by decide, by decide⟩ (fun _ => x5) ((zMc_u su nv sw st F12 cn).2 n1 g5 (zEm_1 (I16.1 214 27).1 c5 o5 a5 r5) F5)
    unfold w_M_readCompared_b43
    exact ⟨zk_rng I2 _ _, fun n60 => ⟨fun n61 => b73 8 ⟨by decide, by decide⟩ (Or.inr (Or.inr ⟨rfl, ht, by omega⟩)), fun e61 => b73 7 ⟨by decide, by decide⟩ (Or.inr (Or.inl ⟨rfl, ht, e61⟩))⟩, fun e60 => b73 6 ⟨by decide, by decide⟩ (Or.inl ⟨rfl, ht, e60⟩)⟩
  unfold w_M_readCompared
  refine k_M_readSum I px0 (fun v1 g2 I2 F2 hv1 hx su => ⟨⟨by omega, by omega⟩, fun n1 => ?_, fun e1 => hQ _ _ I2 F2 ⟨by decide, by decide⟩ (fun n => absurd rfl n) (zMc_f su e1)⟩)
  have x := hx n1
  refine k_M_isSign I2 ⟨by decide, by decide⟩ (fun v5 c1 c2 c3 => ⟨fun n2 => b43 _ _ x su n1 (by omega) (by omega), fun e => ?_⟩)
  refine k_M_isSign I2 ⟨by decide, by decide⟩ (fun v6 d1 d2 d3 => ⟨fun n2 => b43 _ _ x su n1 (by omega) (by omega), fun e => ?_⟩)
  refine k_M_isSign I2 ⟨by decide, by decide⟩ (fun v7 f1 f2 f3 => ⟨fun n2 => b43 _ _ x su n1 (by omega) (by omega), fun e => ?_⟩)
  refine k_M_errs I2 ⟨by decide, by decide⟩ (fun v g'' I'' F'' hv _ er => ?_)
  exact hQ _ _ I'' (zk_ft x.fr F'' fr_XP) ⟨by omega, by omega⟩ (fun n => by omega) (zMc_1 su n1 (by omega) (by omega) (by omega) (by omega) er (zlo_x F''))

-- SpoutNewsModel.readAny()I
theorem k_M_readAny_l9 {g0 : zi_M} {K42 K96 K189 K200 : zi_M → Prop} {Q : Int → zi_M → Prop} (hK42 : ∀ g, zk_I g → zk_fr fr_A g0 g → zAf 3 g0 g → K42 g) (hK96 : ∀ g, zk_I g → zk_fr fr_A g0 g → zmcn zCnd (-1) g0 g → K96 g) (hK200 : ∀ g, zk_I g → zk_fr fr_A g0 g → zAf 1 g0 g → K200 g) (hK189 : ∀ g, zz g0 g → zmcn zCnd 0 g0 g → K189 g) :
    ∀ (n : Nat) (l1 l2 : Int) (P : List Int) (g : zi_M), (l2 = 0 ∨ l2 = 1) → zA l1 (1 - l2) P g0 g → zAn l2 P g0 g → (l2 = 0 → zl_top P ≠ 9) → 2 * (400 - g 214 15) + l2 < (n : Int) → w_M_readAny_l9 K42 K96 K189 K200 Q n l1 l2 g
  | 0, l1, l2, P, g, hl, h, an, ht, hm => by
    have a1 := h.fs; have a2 := h.sp
    have a3 : g 214 13 ≤ 400 := (h.I.1 214 13).2
    exfalso; omega
  | n + 1, l1, l2, P, g, hl, h, an, ht, hm => by
    have I := h.I
    have a1 := h.fs; have a2 := h.sp; have a3 := h.cf
    have a4 : g 214 13 ≤ 400 := (I.1 214 13).2
    have ln := h.len
    have q1 := h.q.1
    have c0 : 0 ≤ g 214 27 := (I.1 214 27).1
    have go := @k_M_readAny_l9 g0 K42 K96 K189 K200 Q hK42 hK96 hK200 hK189 n
    have br0 := zl_of0 12 12 P
    have hbr := h.br
    unfold w_M_readAny_l9
    refine ⟨⟨by omega, by omega⟩, fun e0 => ?_, fun n0 => ?_⟩
    · -- what binds is looked for
      rw [e0] at h an
      have ht0 := ht e0
      have h1 : zA l1 1 P g0 g := h
      -- settling of what binds stronger
      have s10 : ∀ K : zi_M → Prop, (∀ g', zA l1 1 (zl_drop 10 P) g0 g' → g' 214 15 = g 214 15 → g' 214 14 = g 214 14 → g' 214 16 = g 214 16 → g' 214 17 = g 214 17 → zk_fr fr_S g g' → zEm (zdl 10 P) g g' → K g') → w_M_settles 10 g (fun _ g' => K g') := by
        intro K hK
        refine k_M_settles I ⟨by decide, by decide⟩ ⟨P, h.q, by omega, fun q => absurd q (by decide)⟩ (fun g' I' F' s sm => hK g' (h1.s (Or.inr (Or.inl rfl)) (s P h.q)) ?_ ?_ ?_ ?_ (s P h.q).fr (sm P h.q)) <;> exact F' _ _ (by unfold fr_M_settles; omega)
      have s11 : ∀ (g' : zi_M) (K : zi_M → Prop), zA l1 1 (zl_drop 10 P) g0 g' → (∀ g'', zA l1 1 (zl_drop 11 (zl_drop 10 P)) g0 g'' → g'' 214 15 = g' 214 15 → g'' 214 14 = g' 214 14 → g'' 214 16 = g' 214 16 → g'' 214 17 = g' 214 17 → zk_fr fr_S g' g'' → zEm (zdl 11 (zl_drop 10 P)) g' g'' → K g'') → w_M_settles 11 g' (fun _ g'' => K g'') := by
        intro g' K hz hK
        have z1 := hz.fs; have z2 := hz.sp; have z3 := hz.cf
        have z4 : g' 214 13 ≤ 400 := (hz.I.1 214 13).2
        refine k_M_settles hz.I ⟨by decide, by decide⟩ ⟨_, hz.q, by omega, fun q => absurd q (by decide)⟩ (fun g'' I' F' s sm => hK g'' (hz.s (Or.inr (Or.inr rfl)) (s _ hz.q)) ?_ ?_ ?_ ?_ (s _ hz.q).fr (sm _ hz.q)) <;> exact F' _ _ (by unfold fr_M_settles; omega)
      have ps : ∀ (x : Int) (P' : List Int) (g' : zi_M), (x = 10 ∨ x = 11) → zA l1 1 P' g0 g' → zl_ok 9 10 11 12 (x :: P') → g' 214 15 = g 214 15 → g' 214 15 < g' 214 14 → (∀ g36 g39 : zi_M, (∀ (a : Nat) (i : Int), ¬ a = 231 → ¬ (a = 214 ∧ i = 30) → g36 a i = g' a i) → zk_fr fr_M_reads g36 g39 → zstm g36 g39 → zAn 1 (x :: P') g0 g39) → w_M_waits x g' (fun _ g36 => w_M_reads g36 (fun _ g39 => w_M_readAny_l9 K42 K96 K189 K200 Q n l1 1 g39)) := by
        intro x P' g' hx hz hok e15 hlt han
        have z1 := hz.len; have z2 := hz.q.1
        refine k_M_waits hz.I ⟨by omega, by omega⟩ (by omega) (fun g36 I36 F36 w1 w2 w3 => ?_)
        have F36' : zk_fr fr_A g' g36 := zk_ft (zk_f0 _) F36 fr_WA
        have f13 : g36 214 13 = g' 214 13 := F36 _ _ (by unfold fr_M_waits; omega)
        have f14 : g36 214 14 = g' 214 14 := F36 _ _ (by unfold fr_M_waits; omega)
        refine k_M_reads I36 (by rw [f14, f13]; exact hz.sp) (fun g39 I39 F39 p1 p2 p3 p4 tn => ?_)
        obtain ⟨r1, r2⟩ := hz.p (br' := l1) (e' := 0) (by omega) hok I36 F36' w1 w2 w3 (by rw [if_neg (by omega), F36 _ _ (by unfold fr_M_waits; omega)]; omega) (fun i => ⟨F36 _ _ (by unfold fr_M_waits; omega), F36 _ _ (by unfold fr_M_waits; omega)⟩) (fun i hi => F36 _ _ (by unfold fr_M_waits; omega)) (by rw [if_neg (by omega)]; omega) (by rw [if_pos hx]; rfl) hlt I39 F39 p1 p2 p3 p4
        exact go l1 1 (x :: P') g39 (Or.inr rfl) r1 (han g36 g39 (fun a i n1 n2 => F36 a i (by unfold fr_M_waits; omega)) F39 (zstm_of F39 tn)) (fun q => by omega) (by omega)
      have ok1 := zl_dropok 10 P h1.ok
      have t1 := zl_dropn (n := 9) (a := 10) (o := 11) (b := 12) 10 (by decide) (by decide) (Or.inl rfl) (by decide) (by decide) P h1.ok ht0
      have t2 := zl_dropt 10 (by decide) P
      have t3 := h1.top ht0
      have tk := h.t3
      refine k_M_isWord I ⟨by decide, by decide⟩ (fun v3 d1 d2 d3 => ⟨fun e3 => ?_, fun n3 => ?_⟩)
      · refine k_M_isWord I ⟨by decide, by decide⟩ (fun v6 f1 f2 f3 => ⟨fun e6 => ?_, fun n6 => ?_⟩)
        · refine s10 _ (fun g1 z1 m1 m2 m3 m4 mF mE => s11 g1 _ z1 (fun g2 z2 k1 k2 k3 k4 kF kE => ?_))
          obtain ⟨X1, X2, X3⟩ := zAn_x an h1.ok (by omega) (by omega) mF mE kF kE
          have hbr1 := h1.br
          have brz := z2.br
          refine ⟨⟨by have := zl_of0 12 12 (zl_drop 11 (zl_drop 10 P)); omega, by have := z2.br; have := z2.len; have hh : zl_of 12 12 (zl_drop 11 (zl_drop 10 P)) ≤ (zl_drop 11 (zl_drop 10 P)).length := zl_ofl 12 12 _; omega⟩, fun nl => ?_, fun el => ?_⟩
          · refine k_M_isSign z2.I ⟨by decide, by decide⟩ (fun v16 x1 x2 x3 => ⟨fun n16 => ?_, fun e16 => hK200 _ z2.I z2.fr (X2 (by omega) (by omega))⟩)
            intro g19 e19 g20 e20
            have hP : ∃ t, zl_drop 11 (zl_drop 10 P) = 12 :: t := by
              rcases zl_top_in _ z2.ok with q | q | q | q | q
              · rw [q] at brz; exact absurd brz nl
              · exact absurd q t3.1
              · exact absurd q t3.2.1
              · exact absurd q t3.2.2
              · cases hc : zl_drop 11 (zl_drop 10 P) with
                | nil => rw [hc] at brz; exact absurd brz nl
                | cons x t => rw [hc] at q; have q' : x = 12 := q; exact ⟨t, by rw [q']⟩
            obtain ⟨t, et⟩ := hP
            rw [et] at z2
            have z3 := z2.b e19 e20
            have u1 := z3.fs; have u2 := z3.sp; have u3 := z3.cf
            have u4 : g20 214 13 ≤ 400 := (z3.I.1 214 13).2
            have u5 := z3.op
            have hcn : zl_cnt 9 t ≤ g20 214 28 := by
              have := zl_dropof 9 12 9 t
              rw [if_pos (Or.inl rfl)] at this
              have := zl_of0 9 12 (zl_drop 9 t)
              omega
            have e15 : g20 214 15 = g2 214 15 := by rw [e20, zi_u_ni (by decide), e19, zi_u_ni (by decide)]
            have e14 : g20 214 14 = g2 214 14 := by rw [e20, zi_u_ni (by decide), e19, zi_u_ni (by decide)]
            have lt2 : g2 214 15 < g2 214 14 := z2.t3.1 (by omega)
            refine k_M_settles z3.I ⟨by decide, by decide⟩ ⟨t, z3.q, by omega, fun _ => hcn⟩ (fun g22 I22 F22 s22 sm22 => ?_)
            have z4 := z3.s (Or.inl rfl) (s22 t z3.q)
            have v15 : g22 214 15 = g20 214 15 := F22 _ _ (by unfold fr_M_settles; omega)
            have v14 : g22 214 14 = g20 214 14 := F22 _ _ (by unfold fr_M_settles; omega)
            refine k_M_reads I22 z4.sp (fun g25 I25 F25 p1 p2 p3 p4 tn => ?_)
            have an5 := X3 (by omega) (by omega) t g20 g22 g25 et (fun a i w => by rw [e20, zi_unn (by omega), e19, zi_unn (by omega)]) (s22 t z3.q).fr (sm22 t z3.q) F25 (zstm_of F25 tn)
            have z5 := z4.r I25 F25 p1 p2 p3 p4
            exact go (l1 - 1) l2 _ g25 (Or.inl e0) (by rw [e0]; exact z5) (by rw [e0]; exact an5) (fun _ => zl_dropt 9 (by decide) t) (by omega)
          · refine hK189 _ ?_ (X1 (by omega))
            have hP : zl_drop 11 (zl_drop 10 P) = [] := by
              rcases zl_top_in _ z2.ok with q | q | q | q | q
              · exact q
              · exact absurd q t3.1
              · exact absurd q t3.2.1
              · exact absurd q t3.2.2
              · cases hc : zl_drop 11 (zl_drop 10 P) with
                | nil => rfl
                | cons x t =>
                  rw [hc] at q brz
                  have q' : x = 12 := q
                  have : zl_of 12 12 (x :: t) = zl_of 12 12 t + (if x = 12 ∨ x = 12 then 1 else 0) := rfl
                  rw [this, if_pos (Or.inl q')] at brz
                  have := zl_of0 12 12 t
                  omega
            rw [hP] at z2
            have cf := z2.cf
            have lz : (([] : List Int).length : Int) = 0 := rfl
            exact ⟨z2.I, z2.sp, z2.fs, z2.t3, z2.ff, z2.cc, by omega, z2.fr, z2.lo, z2.op, z2.dp⟩
        · refine s10 _ (fun g1 z1 m1 m2 m3 m4 mF mE => s11 g1 _ z1 (fun g2 z2 k1 k2 k3 k4 kF kE => ?_))
          exact ps 11 _ g2 (Or.inr rfl) z2 ⟨z2.ok, Or.inr (Or.inr (Or.inr ⟨rfl, t3⟩))⟩ (by omega) (z2.t3.1 (by omega)) (fun g36 g39 f2 f3 st => zAn_or an h1.ok (by omega) mF mE kF kE f2 f3 st)
      · refine s10 _ (fun g1 z1 m1 m2 m3 m4 mF mE => ?_)
        exact ps 10 _ g1 (Or.inl rfl) z1 ⟨z1.ok, Or.inr (Or.inr (Or.inl ⟨rfl, t1, t2⟩))⟩ (by omega) (z1.t3.1 (by omega)) (fun g36 g39 f2 f3 st => zAn_and an (by omega) mF mE f2 f3 st)
    · -- a comparison, a not or a bracket is due
      have e1 : l2 = 1 := by omega
      rw [e1] at h an
      have h1 : zA l1 0 P g0 g := h
      have r8 : g 214 28 ≤ 8 := (I.1 214 28).2
      have r0 : 0 ≤ g 214 28 := (I.1 214 28).1
      have b33 : ∀ v : Int, (v = 0 ∨ v = 1) → ¬ g 214 16 = 0 → (v = 1 → g 214 16 = 2 ∧ g 214 17 = 6) → (v = 0 → g 214 16 = 4 ∧ g 214 17 = 40) → w_M_readAny_b33 l1 l2 v g (w_M_readAny_l9 K42 K96 K189 K200 Q n) K42 K96 K189 K200 Q := by
        intro v hv tok hv1 hv0
        have hop := h1.op
        have hlt := h1.t3.1 tok
        unfold w_M_readAny_b33
        refine ⟨zk_rng I _ _, fun n8 => ?_, fun g8 => hK42 _ I h1.fr (zAn_8 an h1.ok (by omega) (by omega))⟩
        intro g56 e56
        have I56 : zk_I g56 := by rw [e56]; exact zk_upd (L := 0) (H := 8) rfl rfl I ⟨by omega, by omega⟩
        have f : ∀ i : Int, ¬ i = 28 → g56 214 i = g 214 i := fun i hi => by rw [e56]; exact zi_u_ni hi
        have fa : ∀ (a : Nat) (i : Int), a ≠ 214 → g56 a i = g a i := fun a i ha => by rw [e56]; exact zi_u_ne ha
        have f28 : g56 214 28 = g 214 28 + 1 := by rw [e56, zi_u_eq]
        have F56 : zk_fr fr_A g g56 := by rw [e56]; exact zk_fu (zk_f0 _) (fr_SA _ _ (Or.inr (Or.inr (Or.inr (Or.inl ⟨rfl, rfl⟩)))))
        have g30 := f 30 (by decide)
        have pu : ∀ (x b : Int), (x = 9 ∨ x = 12) → ((x = 9 ∧ g 214 16 = 2 ∧ g 214 17 = 6) ∨ (x = 12 ∧ g 214 16 = 4 ∧ g 214 17 = 40)) → b = l1 + (if x = 12 then 1 else 0) → w_M_waits x g56 (fun _ g60 => w_M_reads g60 (fun _ g63 => w_M_readAny_l9 K42 K96 K189 K200 Q n b l2 g63)) := by
          intro x b hx hxs hb
          refine k_M_waits I56 ⟨by omega, by omega⟩ (by omega) (fun g60 I60 F60 w1 w2 w3 => ?_)
          rw [g30] at w1 w2 w3
          have k : ∀ i : Int, ¬ i = 30 → g60 214 i = g56 214 i := fun i hi => F60 _ _ (by unfold fr_M_waits; omega)
          have ka : ∀ (a : Nat) (i : Int), a ≠ 214 → a ≠ 231 → g60 a i = g a i := fun a i h1 h2 => (F60 _ _ (by unfold fr_M_waits; omega)).trans (fa a i h1)
          have k13 := k 13 (by decide); have k14 := k 14 (by decide)
          have j13 := f 13 (by decide); have j14 := f 14 (by decide)
          refine k_M_reads I60 (by rw [k14, k13, j13, j14]; exact h1.sp) (fun g63 I63 F63 p1 p2 p3 p4 tn => ?_)
          obtain ⟨r1, r2⟩ := h1.p (br' := b) (e' := 0) (x := x) (by omega) ⟨h1.ok, by omega⟩ I60 (zk_ft F56 F60 fr_WA) w1 w2 (fun i hi => by rw [w3 i hi, fa _ _ (by decide)]) (by rw [if_pos hx, k 28 (by decide), f28]) (fun i => ⟨ka _ _ (by decide) (by decide), ka _ _ (by decide) (by decide)⟩) (fun i hi => by rw [k i (by omega), f i (by omega)]) hb (by rw [if_neg (by omega)]; rfl) hlt I63 F63 p1 p2 p3 p4
          exact go b l2 (x :: P) g63 hl (by rw [e1]; exact r1) (by rw [e1]; exact zAn_o an h1.ok hxs (by omega) (fun a i n1 n2 => by rw [F60 a i (by unfold fr_M_waits; omega), e56, zi_unn (by omega)]) F63 (zstm_of F63 tn)) (fun q => by omega) (by omega)
        refine ⟨⟨by omega, by omega⟩, fun nv => ?_, fun ev => ?_⟩
        · unfold w_M_readAny_b66
          exact ⟨⟨by omega, by omega⟩, fun e => absurd e nv, fun _ => pu 9 l1 (Or.inl rfl) (Or.inl ⟨rfl, hv1 (by omega)⟩) (by rw [if_neg (by decide)]; omega)⟩
        · unfold w_M_readAny_b66
          exact ⟨⟨by omega, by omega⟩, fun _ => pu 12 (l1 + 1) (Or.inr rfl) (Or.inr ⟨rfl, hv0 ev⟩) (by rw [if_pos rfl]), fun n => absurd ev n⟩
      refine k_M_isWord I ⟨by decide, by decide⟩ (fun v52 d1 d2 d3 => ⟨fun n52 => b33 v52 (by omega) (by omega) (fun _ => by omega) (fun _ => by omega), fun e52 => ?_⟩)
      refine k_M_isSign I ⟨by decide, by decide⟩ (fun v74 f1 f2 f3 => ⟨fun e74 => ?_, fun n74 => b33 v52 (by omega) (by omega) (fun _ => by omega) (fun _ => by omega)⟩)
      refine k_M_readCompared I ⟨I, h1.sp, h1.fs, h1.t3, by omega⟩ (fun v77 g78 I78 F78 hv hx cm => ⟨⟨by omega, by omega⟩, fun n77 => ?_, fun e77 => hK96 _ I78 (zk_ft h1.fr F78 fr_PA) ((zAn_c an (by omega) (by omega) cm).1 e77)⟩)
      have x := hx n77
      have z := h1.c x
      have u1 := z.fs; have u2 := z.sp; have u3 := z.cf
      have u4 : g78 214 13 ≤ 400 := (I78.1 214 13).2
      have u5 := z.op
      have hcn : zl_cnt 9 P ≤ g78 214 28 := by
        have := zl_dropof 9 12 9 P
        rw [if_pos (Or.inl rfl)] at this
        have := zl_of0 9 12 (zl_drop 9 P)
        omega
      refine k_M_settles I78 ⟨by decide, by decide⟩ ⟨P, z.q, by omega, fun _ => hcn⟩ (fun g82 I82 F82 s82 sm82 => ?_)
      have z2 := z.s (Or.inl rfl) (s82 P z.q)
      have v15 : g82 214 15 = g78 214 15 := F82 _ _ (by unfold fr_M_settles; omega)
      have := x.ff
      exact go l1 0 _ g82 (Or.inl rfl) z2 ((zAn_c an (by omega) (by omega) cm).2 n77 g82 (s82 P z.q).fr (sm82 P z.q)) (fun _ => zl_dropt 9 (by decide) P) (by omega)
theorem k_M_readAny {g : zi_M} {Q : Int → zi_M → Prop} (I : zk_I g) (px0 : zy g) (px1 : g 214 28 = 0) (hQ : ∀ (v : Int) (g' : zi_M), zk_I g' → zk_fr fr_M_readAny g g' → ((-1) ≤ v ∧ v ≤ 0) → (¬ v = -1 → zz g g') → (zmcn zCnd v g g') → Q v g') : w_M_readAny g Q := by
  unfold w_M_readAny
  intro g1 e1
  have I1 : zk_I g1 := by rw [e1]; exact zk_upd (L := 0) (H := 40) rfl rfl I ⟨by decide, by decide⟩
  have f : ∀ i : Int, ¬ i = 30 → g1 214 i = g 214 i := fun i hi => by rw [e1]; exact zi_u_ni hi
  have fa : ∀ (a : Nat) (i : Int), a ≠ 214 → g1 a i = g a i := fun a i ha => by rw [e1]; exact zi_u_ne ha
  have F1 : zk_fr fr_A g g1 := by rw [e1]; exact zk_fu (zk_f0 _) (fr_WA _ _ (Or.inr ⟨rfl, rfl⟩))
  have f13 := f 13 (by decide); have f14 := f 14 (by decide); have f15 := f 15 (by decide); have f16 := f 16 (by decide); have f17 := f 17 (by decide); have f27 := f 27 (by decide); have f28 := f 28 (by decide)
  have c0 : 0 ≤ g 214 27 := (I.1 214 27).1
  have hz : zA 0 0 [] g g1 := by
    refine ⟨I1, by rw [f14, f13]; exact px0.sp, by rw [f15, f14]; exact px0.fs, zt3_e px0.t3 f14 f15 f16 f17, by rw [f15]; exact Int.le_refl _, by rw [f27]; exact Int.le_refl _, ?_, F1, fun i _ => ⟨fa _ _ (by decide), fa _ _ (by decide)⟩, ⟨by rw [e1, zi_u_eq]; rfl, trivial⟩, trivial, by rw [f28, px1]; rfl, rfl, ?_⟩
    · rw [f27, f15]
      have := px0.cf
      have lz : (([] : List Int).length : Int) = 0 := rfl
      omega
    · exact zp_same (zp_nil c0) f27 (fun i _ => ⟨fa _ _ (by decide), fa _ _ (by decide)⟩)
  have er : ∀ k : Int, 1 ≤ k ∧ k ≤ 3 → ∀ g', zk_I g' → zk_fr fr_A g g' → zAf k g g' → w_M_errs k g' (fun v g'' => Q v g'') := by
    intro k hk g' I' F' af
    refine k_M_errs I' hk (fun v g'' I'' F'' hv _ er => ?_)
    exact hQ _ _ I'' (zk_ft F' F'' (fun a i h => fr_PA a i (fr_XP a i h))) ⟨by omega, by omega⟩ (fun n => by omega) (zAf_n af (by omega) (by omega) er (zlo_x F''))
  have p15 : 0 ≤ g 214 15 := (I.1 214 15).1
  exact ⟨802, k_M_readAny_l9 (er 3 ⟨by decide, by decide⟩) (fun g' I' F' cf => hQ _ _ I' F' ⟨by decide, by decide⟩ (fun n => absurd rfl n) cf) (er 1 ⟨by decide, by decide⟩) (fun g' z cy => hQ _ _ z.I z.fr ⟨by decide, by decide⟩ (fun _ => z) cy) 802 0 1 [] g1 (Or.inr rfl) hz (zAn_0 fa f) (fun q => by omega) (by omega)⟩

-- SpoutNewsModel.readLaw()I
theorem k_M_readLaw_l2 {g0 : zi_M} {K15 K58 K90 K111 : zi_M → Prop} {K128 : Int → zi_M → Prop} {Q : Int → zi_M → Prop} (hK15 : ∀ g, zk_I g → zk_fr fr_L g0 g → zLaf 3 g0 g → K15 g) (hK58 : ∀ g, zk_I g → zk_fr fr_L g0 g → zLrf (-1) g0 g → K58 g) (hK90 : ∀ g, zk_I g → zk_fr fr_L g0 g → zLrf (-1) g0 g → K90 g) (hK111 : ∀ g, zk_I g → zk_fr fr_L g0 g → zLaf 1 g0 g → K111 g) (hK128 : ∀ k g, 0 ≤ k → k ≤ 16 → zL k g0 g → zLrl k g0 g → ¬ (g 214 16 = 2 ∧ 0 ≤ g 214 17 ∧ g 214 17 ≤ 2) → K128 k g) :
    ∀ (n : Nat) (l1 : Int) (g : zi_M), 0 ≤ l1 → l1 ≤ 16 → zL l1 g0 g → zLrl l1 g0 g → 16 - l1 < (n : Int) → w_M_readLaw_l2 K15 K58 K90 K111 K128 Q n l1 g
  | 0, l1, g, h0, h1, h, lr, hm => by exfalso; omega
  | n + 1, l1, g, h0, h1, h, lr, hm => by
    have y := h.y
    have I := y.I
    have t := y.t3
    unfold w_M_readLaw_l2
    refine k_M_isLineWord I (fun v1 hv0 hv1 hw0 hw1 => ⟨fun z1 => hK128 _ _ h0 h1 h lr (hw0 z1), fun n1 => ⟨⟨by omega, by omega⟩, fun n16 => ⟨⟨by omega, by omega⟩, ?_⟩, fun e16 => hK15 _ I h.fr (zLrl_3 lr (hw1 n1) e16)⟩⟩)
    have hlw := hw1 n1
    have htok : ¬ g 214 16 = 0 := by omega
    have hlt := t.1 htok
    intro g6 e6
    have r17 := zk_rng I 214 17
    have I6 : zk_I g6 := by rw [e6]; exact zk_upd (L := -2147483648) (H := 2147483647) rfl rfl I r17
    have f6 : ∀ (a : Nat) (i : Int), a ≠ 225 → g6 a i = g a i := fun a i ha => by rw [e6]; exact zi_u_ne ha
    refine k_M_reads I6 (by rw [f6 _ _ (by decide), f6 _ _ (by decide)]; exact y.sp) (fun g8 I8 F8 p1 p2 p3 p4 tn8 => ?_)
    rw [f6 _ _ (by decide)] at p1
    have q1 := y.cf
    have f8 : ∀ (a : Nat) (i : Int), a ≠ 225 → a ≠ 214 → g8 a i = g a i := fun a i h1 h2 => (F8 _ _ (by unfold fr_M_reads; omega)).trans (f6 a i h1)
    have c8 : g8 214 27 = g 214 27 := (F8 _ _ (by unfold fr_M_reads; omega)).trans (f6 _ _ (by decide))
    have o8 : g8 214 28 = g 214 28 := (F8 _ _ (by unfold fr_M_reads; omega)).trans (f6 _ _ (by decide))
    have r27 : 0 ≤ g8 214 27 ∧ g8 214 27 ≤ 400 := I8.1 214 27
    intro g10 e10
    have I10 : zk_I g10 := by rw [e10]; exact zk_u226 I8 (by omega) r27
    have f10 : ∀ (a : Nat) (i : Int), a ≠ 226 → g10 a i = g8 a i := fun a i ha => by rw [e10]; exact zi_u_ne ha
    have k10 : g10 226 (32 + l1) = g 214 27 := by rw [e10, zi_u_eq, c8]
    have j10 : ∀ i : Int, ¬ i = 32 + l1 → g10 226 i = g 226 i := fun i hi => by rw [e10, zi_u_ni hi]; exact f8 _ _ (by decide) (by decide)
    have c10 : g10 214 27 = g 214 27 := (f10 _ _ (by decide)).trans c8
    have y10 : zy g10 := by
      refine ⟨I10, ?_, ?_, zt3_e p4 (f10 _ _ (by decide)) (f10 _ _ (by decide)) (f10 _ _ (by decide)) (f10 _ _ (by decide)), ?_⟩
      · rw [f10 _ _ (by decide), f10 _ _ (by decide)]; exact p2
      · rw [f10 _ _ (by decide), f10 _ _ (by decide)]; exact p3
      · rw [c10, f10 _ _ (by decide)]; omega
    have F10 : zk_fr fr_L g g10 := by
      rw [e10]
      refine zk_fu (zk_ft ?_ F8 fr_RL) (Or.inr (Or.inl rfl))
      rw [e6]
      exact zk_fu (zk_f0 _) (Or.inl rfl)
    have L10 : zLd g10 l1 := zLd_c h.ls (fun l hl => ⟨j10 _ (by omega), (f10 _ _ (by decide)).trans (f8 _ _ (by decide) (by decide)), (f10 _ _ (by decide)).trans (f8 _ _ (by decide) (by decide))⟩) (by omega) (fun i _ => ⟨(f10 _ _ (by decide)).trans (f8 _ _ (by decide) (by decide)), (f10 _ _ (by decide)).trans (f8 _ _ (by decide) (by decide))⟩)
    have lh := zLrl_h lr hlw e6 F8 (zstm_of F8 tn8) e10
    refine k_M_readSum I10 y10 (fun v11 g12 I12 F12 hv11 hx su => ⟨⟨by omega, by omega⟩, fun n11 => ?_, fun e11 => hK58 _ I12 (zk_ft (zk_ft h.fr F10 (fun _ _ e => e)) F12 fr_PL) (zLrh_n lh (by omega) su e11 (fun i a q1 q2 => F12 a i (by show ¬ fr_P a i; unfold fr_P; omega)))⟩)
    have x := hx n11
    have z1 := x.dp _ _ (zp_nil (g := g10) (by omega))
    have f12 : ∀ (a : Nat) (i : Int), a ≠ 214 → a ≠ 229 → a ≠ 230 → g12 a i = g10 a i := fun a i h1 h2 h3 => x.fr _ _ (by unfold fr_P; omega)
    have o12 : g12 214 28 = 0 := by rw [x.fr 214 28 (by unfold fr_P; omega), f10 _ _ (by decide), o8]; exact h.op
    have x1 := x.cc; have x2 := x.cf; have x3 := y10.cf
    have lt12 : g 214 27 < g12 214 27 := by
      have z3 := z1.2.2.2.2
      rw [c10] at z3
      by_cases q : g 214 27 < g12 214 27
      · exact q
      · exfalso
        rw [show (g12 214 27 - g 214 27).toNat = 0 by omega] at z3
        have z4 : (0 : Int) = 0 + 1 := z3
        omega
    have L12 : zLd g12 l1 := zLd_c L10 (fun l hl => ⟨f12 _ _ (by decide) (by decide) (by decide), f12 _ _ (by decide) (by decide) (by decide), f12 _ _ (by decide) (by decide) (by decide)⟩) x1 x.lo
    have r12 : 0 ≤ g12 214 27 ∧ g12 214 27 ≤ 400 := I12.1 214 27
    intro g15 e15
    have I15 : zk_I g15 := by rw [e15]; exact zk_u227 I12 (by omega) r12
    have f15 : ∀ (a : Nat) (i : Int), a ≠ 227 → g15 a i = g12 a i := fun a i ha => by rw [e15]; exact zi_u_ne ha
    have k15 : g15 227 (32 + l1) = g12 214 27 := by rw [e15, zi_u_eq]
    have j15 : ∀ i : Int, ¬ i = 32 + l1 → g15 227 i = g12 227 i := fun i hi => by rw [e15]; exact zi_u_ni hi
    have c15 : g15 214 27 = g12 214 27 := f15 _ _ (by decide)
    have L15 : zLd g15 l1 := zLd_c L12 (fun l hl => ⟨f15 _ _ (by decide), j15 _ (by omega), f15 _ _ (by decide)⟩) (by omega) (fun i _ => ⟨f15 _ _ (by decide), f15 _ _ (by decide)⟩)
    have F15 : zk_fr fr_L g g15 := by rw [e15]; exact zk_fu (zk_ft F10 x.fr fr_PL) (Or.inr (Or.inr (Or.inl rfl)))
    have m15 : g15 226 (32 + l1) = g 214 27 := by rw [f15 _ _ (by decide), f12 _ _ (by decide) (by decide) (by decide), k10]
    have y15 : zy g15 := by
      refine ⟨I15, ?_, ?_, zt3_e x.t3 (f15 _ _ (by decide)) (f15 _ _ (by decide)) (f15 _ _ (by decide)) (f15 _ _ (by decide)), ?_⟩
      · rw [f15 _ _ (by decide), f15 _ _ (by decide)]; exact x.sp
      · rw [f15 _ _ (by decide), f15 _ _ (by decide)]; exact x.fs
      · rw [c15, f15 _ _ (by decide)]; omega
    have s15 : zj_seg (zp_o g15) (zp_a g15) (g 214 27) (g12 214 27 - g 214 27).toNat := by
      have z2 := z1.2.2.2.1
      rw [c10] at z2
      exact zj_segc z2 (fun k _ _ => f15 229 (800 + k) (by decide)) (fun k _ _ => f15 230 (800 + k) (by decide))
    have o15 : g15 214 28 = 0 := (f15 _ _ (by decide)).trans o12
    have li := zLrh_y lh c10 su n11 (fun i a q1 q2 => f12 a i (by omega) (by omega) (by omega)) e15
    have w15 : g15 225 (32 + l1) = g 214 17 := by rw [f15 _ _ (by decide), f12 _ _ (by decide) (by decide) (by decide), f10 _ _ (by decide), F8 225 _ (by unfold fr_M_reads; omega), e6, zi_u_eq]
    -- the line's end
    have b92 : ∀ g17, zy g17 → g17 214 28 = 0 → zk_fr fr_L g g17 → zLd g17 l1 → g17 226 (32 + l1) = g 214 27 → g17 227 (32 + l1) = g12 214 27 → g17 225 (32 + l1) = g 214 17 → zLrj l1 (g 214 17) (g 214 27) (g12 214 27) g0 g17 → g12 214 27 ≤ g17 214 27 → zj_seg (zp_o g17) (zp_a g17) (g 214 27) (g12 214 27 - g 214 27).toNat → zj_seg (zp_o g17) (zp_a g17) (g12 214 27) (g17 214 27 - g12 214 27).toNat →
        w_M_readLaw_b92 l1 (32 + l1) g17 (w_M_readLaw_l2 K15 K58 K90 K111 K128 Q n) K15 K58 K90 K111 K128 Q := by
      intro g17 y17 o17 F17 L17 m1 m2 m0 lj m3 s1 s2
      unfold w_M_readLaw_b92
      refine ⟨⟨by omega, by omega⟩, ?_⟩
      intro g20 e20
      have X := zLrj_e lj (by omega) e20 m0 m1 m2
      have r17 : 0 ≤ g17 214 27 ∧ g17 214 27 ≤ 400 := y17.I.1 214 27
      have I20 : zk_I g20 := by rw [e20]; exact zk_u228 y17.I (by omega) r17
      have f20 : ∀ (a : Nat) (i : Int), a ≠ 228 → g20 a i = g17 a i := fun a i ha => by rw [e20]; exact zi_u_ne ha
      have F20 : zk_fr fr_L g g20 := by rw [e20]; exact zk_fu F17 (Or.inr (Or.inr (Or.inr (Or.inl rfl))))
      have t20 : zt3 g20 := zt3_e y17.t3 (f20 _ _ (by decide)) (f20 _ _ (by decide)) (f20 _ _ (by decide)) (f20 _ _ (by decide))
      refine k_M_isSign I20 ⟨by decide, by decide⟩ (fun v21 d1 d2 d3 => ⟨fun n21 => ?_, fun z21 => hK111 _ I20 (zk_ft h.fr F20 (fun _ _ e => e)) (X.1 (by omega))⟩)
      have lt20 := t20.1 (by omega)
      refine k_M_reads I20 (by rw [f20 _ _ (by decide), f20 _ _ (by decide)]; exact y17.sp) (fun g25 I25 F25 p1 p2 p3 p4 tn25 => ?_)
      have f25 : ∀ (a : Nat) (i : Int), a ≠ 214 → g25 a i = g20 a i := fun a i ha => F25 _ _ (by unfold fr_M_reads; omega)
      have c25 : g25 214 27 = g17 214 27 := (F25 _ _ (by unfold fr_M_reads; omega)).trans (f20 _ _ (by decide))
      have o25 : g25 214 28 = 0 := ((F25 _ _ (by unfold fr_M_reads; omega)).trans (f20 _ _ (by decide))).trans o17
      have u1 := y17.cf
      have u2 : g20 214 15 = g17 214 15 := f20 _ _ (by decide)
      have fo : ∀ i, g25 229 i = g17 229 i ∧ g25 230 i = g17 230 i := fun i => ⟨(f25 _ _ (by decide)).trans (f20 _ _ (by decide)), (f25 _ _ (by decide)).trans (f20 _ _ (by decide))⟩
      have j20 : ∀ i : Int, ¬ i = 32 + l1 → g25 228 i = g17 228 i := fun i hi => by rw [f25 _ _ (by decide), e20]; exact zi_u_ni hi
      have L25 : zLd g25 l1 := zLd_c L17 (fun l hl => ⟨(f25 _ _ (by decide)).trans (f20 _ _ (by decide)), (f25 _ _ (by decide)).trans (f20 _ _ (by decide)), j20 _ (by omega)⟩) (by omega) (fun i _ => fo i)
      have L26 : zLd g25 (l1 + 1) := zLd_s (a := g 214 27) (b := g12 214 27) (c := g17 214 27) L25 (by rw [f25 _ _ (by decide), f20 _ _ (by decide), m1]) (by rw [f25 _ _ (by decide), f20 _ _ (by decide), m2]) (by rw [f25 _ _ (by decide), e20, zi_u_eq]) ⟨by omega, by omega, m3, by omega⟩
        (zj_segc s1 (fun k _ _ => (fo (800 + k)).1) (fun k _ _ => (fo (800 + k)).2)) (zj_segc s2 (fun k _ _ => (fo (800 + k)).1) (fun k _ _ => (fo (800 + k)).2))
      exact k_M_readLaw_l2 hK15 hK58 hK90 hK111 hK128 n (l1 + 1) g25 (by omega) (by omega) ⟨⟨I25, p2, p3, p4, by omega⟩, o25, zk_ft (zk_ft h.fr F20 (fun _ _ e => e)) F25 fr_RL, L26⟩ (X.2 (by omega) g25 F25 (zstm_of F25 tn25)) (by omega)
    refine k_M_isWord I15 ⟨by decide, by decide⟩ (fun v16 d1 d2 d3 => ⟨fun z16 => ?_, fun n16 => ?_⟩)
    · refine b92 g15 y15 o15 F15 L15 m15 k15 w15 (zLri_0 li c15 (by omega)) (by omega) s15 ?_
      rw [c15, Int.sub_self]
      exact fun i hi => absurd hi (Nat.not_lt_zero i)
    · have lt15 := y15.t3.1 (by omega)
      refine k_M_reads I15 y15.sp (fun g29 I29 F29 p1 p2 p3 p4 tn29 => ?_)
      have f29 : ∀ (a : Nat) (i : Int), a ≠ 214 → g29 a i = g15 a i := fun a i ha => F29 _ _ (by unfold fr_M_reads; omega)
      have c29 : g29 214 27 = g12 214 27 := (F29 _ _ (by unfold fr_M_reads; omega)).trans c15
      have o29 : g29 214 28 = 0 := (F29 _ _ (by unfold fr_M_reads; omega)).trans o15
      have u1 := y15.cf
      have y29 : zy g29 := ⟨I29, p2, p3, p4, by omega⟩
      refine k_M_readAny I29 y29 o29 (fun v31 g32 I32 F32 hv31 hz cd => ⟨⟨by omega, by omega⟩, fun n31 => ?_, fun e31 => hK90 _ I32 (zk_ft (zk_ft (zk_ft h.fr F15 (fun _ _ e => e)) F29 fr_RL) F32 fr_AL) (zLri_n li (by omega) (by omega) F29 (zstm_of F29 tn29) cd e31 (fun i a q1 q2 => F32 a i (by show ¬ fr_A a i; unfold fr_A; omega)))⟩)
      have z := hz n31
      have f32 : ∀ (a : Nat) (i : Int), a ≠ 214 → a ≠ 229 → a ≠ 230 → a ≠ 231 → g32 a i = g15 a i := fun a i h1 h2 h3 h4 => (z.fr _ _ (by unfold fr_A; omega)).trans (f29 a i h1)
      have w1 := z.cc
      have fo : ∀ i : Int, i < 800 + g12 214 27 → g32 229 i = g15 229 i ∧ g32 230 i = g15 230 i := fun i hi => ⟨(z.lo i (by omega)).1.trans (f29 _ _ (by decide)), (z.lo i (by omega)).2.trans (f29 _ _ (by decide))⟩
      have L32 : zLd g32 l1 := zLd_c L15 (fun l hl => ⟨f32 _ _ (by decide) (by decide) (by decide) (by decide), f32 _ _ (by decide) (by decide) (by decide) (by decide), f32 _ _ (by decide) (by decide) (by decide) (by decide)⟩) (by omega) (fun i hi => fo i (by omega))
      refine b92 g32 ⟨I32, z.sp, z.fs, z.t3, z.cf⟩ z.op (zk_ft (zk_ft F15 F29 fr_RL) z.fr fr_AL) L32 (by rw [f32 _ _ (by decide) (by decide) (by decide) (by decide)]; exact m15) (by rw [f32 _ _ (by decide) (by decide) (by decide) (by decide)]; exact k15) (by rw [f32 _ _ (by decide) (by decide) (by decide) (by decide)]; exact w15) (zLri_y li c15 (by omega) F29 (zstm_of F29 tn29) cd n31 (fun i a q1 q2 => z.fr a i (by unfold fr_A; omega))) (by omega) ?_ ?_
      · exact zj_segc s15 (fun k k1 k2 => (fo (800 + k) (by omega)).1) (fun k k1 k2 => (fo (800 + k) (by omega)).2)
      · have := z.dp.2.2.2.1
        rw [c29] at this
        exact this
theorem k_M_readLaw {g : zi_M} {Q : Int → zi_M → Prop} (I : zk_I g) (px0 : zy g) (px1 : g 214 28 = 0) (hQ : ∀ (v : Int) (g' : zi_M), zk_I g' → zk_fr fr_M_readLaw g g' → ((-1) ≤ v ∧ v ≤ 16) → (¬ v = -1 → zLd g' v) → (zLrf v g g') → Q v g') : w_M_readLaw g Q := by
  unfold w_M_readLaw
  have er : ∀ k : Int, 1 ≤ k ∧ k ≤ 3 → ∀ g', zk_I g' → zk_fr fr_L g g' → zLaf k g g' → w_M_errs k g' (fun v g'' => Q v g'') := by
    intro k hk g' I' F' af
    refine k_M_errs I' hk (fun v g'' I'' F'' hv _ er => ?_)
    exact hQ _ _ I'' (zk_ft F' F'' (fun a i h => fr_PL a i (fr_XP a i h))) ⟨by omega, by omega⟩ (fun n => by omega) (zLaf_n af (by omega) (by omega) er (zlrw_x F''))
  refine ⟨17, k_M_readLaw_l2 (er 3 ⟨by decide, by decide⟩) (fun g' I' F' cf => hQ _ _ I' F' ⟨by decide, by decide⟩ (fun n => absurd rfl n) cf) (fun g' I' F' cf => hQ _ _ I' F' ⟨by decide, by decide⟩ (fun n => absurd rfl n) cf) (er 1 ⟨by decide, by decide⟩) (fun k g' k0 k1 L lr nw => ?_) 17 0 g (by decide) (by decide) ⟨px0, px1, zk_f0 _, zLd_0 _⟩ zLrl_0 (by decide)⟩
  exact ⟨zk_rng L.y.I _ _, fun n16 => er 1 ⟨by decide, by decide⟩ g' L.y.I L.fr (zLrl_1 lr n16 nw), fun e16 => hQ _ _ L.y.I L.fr ⟨by omega, by omega⟩ (fun _ => L.ls) (zLrl_e lr e16)⟩

-- SpoutNewsModel.readNumber(II)I
theorem k_M_readNumber {l1 : Int} {l2 : Int} {g : zi_M} {Q : Int → zi_M → Prop} (I : zk_I g) (p1 : 0 ≤ l1 ∧ l1 ≤ 0) (p2 : (-1) ≤ l2 ∧ l2 ≤ 999) (px0 : g 214 14 ≤ g 214 13) (px1 : g 214 15 ≤ g 214 14) (px2 : zt3 g) (hQ : ∀ (v : Int) (g' : zi_M), zk_I g' → zk_fr fr_M_readNumber g g' → ((-1) ≤ v ∧ v ≤ 100000) → (¬ v = -1 → l1 ≤ v ∧ v ≤ l2) → (g' 214 14 ≤ g' 214 13) → (g' 214 15 ≤ g' 214 14) → (zt3 g') → (g 214 15 ≤ g' 214 15) → (∀ (r : Nat) (T : zyT) (t : Int), zs_str r → zyR r T g t → zyE T → zyQ r T g' t (zyN T (l2 + 1) t) ∧ (zyN T (l2 + 1) t = 0 → v = T.2.1 t) ∧ (¬ zyN T (l2 + 1) t = 0 → v = -1)) → Q v g') : w_M_readNumber l1 l2 g Q := by
  unfold w_M_readNumber
  have b16 : 0 ≤ g 214 16 ∧ g 214 16 ≤ 4 := I.1 214 16
  have b17 : -1 ≤ g 214 17 ∧ g 214 17 ≤ 100000 := I.1 214 17
  have er : ∀ e : Int, 1 ≤ e → e ≤ 2 → (∀ (r : Nat) (T : zyT) (t : Int), zs_str r → zyR r T g t → zyE T → zyN T (l2 + 1) t = e) → w_M_errs e g (fun v g' => Q v g') := by
    intro e h1 h2 hz
    refine k_M_errs I ⟨h1, by omega⟩ (fun v g' I' F' c d x => ?_)
    have k13 : g' 214 13 = g 214 13 := F' 214 13 (by unfold fr_M_errs; omega)
    have k14 : g' 214 14 = g 214 14 := F' 214 14 (by unfold fr_M_errs; omega)
    have k15 : g' 214 15 = g 214 15 := F' 214 15 (by unfold fr_M_errs; omega)
    refine hQ v g' I' (zk_ft (zk_f0 _) F' (fun a i h => by unfold fr_M_errs at h; unfold fr_M_readNumber; omega)) ⟨by omega, by omega⟩ (fun n => by omega) (by omega) (by omega) (d px2) (by omega) (fun r T t hr h hE => ?_)
    rw [hz r T t hr h hE]
    exact ⟨⟨fun q => by omega, fun _ => x r T t h⟩, fun q => by omega, fun _ => by omega⟩
  refine ⟨⟨by omega, by omega⟩, fun e3 => ?_, fun n3 => er 1 (by decide) (by decide) (fun r T t hr h hE => zyN_1 (fun q => n3 ((zyR_k hr h).2.1.2 q)))⟩
  refine k_M_isIn I ⟨by omega, by omega⟩ ⟨by omega, by omega⟩ ⟨by omega, by omega⟩ (fun v2 a1 a2 a3 => ⟨fun ne => ?_, fun e => er 2 (by decide) (by decide) (fun r T t hr h hE => ?_)⟩)
  · refine k_M_reads I (by omega) (fun g6 I6 F6 c1 c2 c3 c4 c5 => ?_)
    have k13 : g6 214 13 = g 214 13 := F6 214 13 (by unfold fr_M_reads; omega)
    refine hQ _ g6 I6 (zk_ft (zk_f0 _) F6 (fun a i h => by unfold fr_M_reads at h; unfold fr_M_readNumber; omega)) ⟨by omega, by omega⟩ (by omega) (by omega) (by omega) c4 (by omega) (fun r T t hr h hE => ?_)
    have kk := zyR_k hr h
    have k1 := kk.2.1.1 e3
    have kv := kk.2.2.2.1 (Or.inl e3)
    have z : zyN T (l2 + 1) t = 0 := zyN_0.2 ⟨k1, by omega⟩
    rw [z]
    exact ⟨⟨fun _ => zyR_n h F6 c5 (zyE_lt hE h.2.1.2 (by omega)), fun q => absurd rfl q⟩, fun _ => kv, fun q => absurd rfl q⟩
  · have kk := zyR_k hr h
    have k1 := kk.2.1.1 e3
    have kv := kk.2.2.2.1 (Or.inl e3)
    have := hE.2.2.2 t h.2.1.1 h.2.1.2 k1
    exact zyN_2 k1 (by omega)

-- SpoutNewsModel.readTold(III)I
theorem k_M_readTold {l1 : Int} {l2 : Int} {l3 : Int} {g : zi_M} {Q : Int → zi_M → Prop} (I : zk_I g) (p1 : 11 ≤ l1 ∧ l1 ≤ 20) (p2 : 0 ≤ l2 ∧ l2 ≤ 0) (p3 : (-1) ≤ l3 ∧ l3 ≤ 999) (px0 : g 214 14 ≤ g 214 13) (px1 : g 214 15 ≤ g 214 14) (px2 : zt3 g) (hQ : ∀ (v : Int) (g' : zi_M), zk_I g' → zk_fr fr_M_readTold g g' → ((-1) ≤ v ∧ v ≤ 100000) → (¬ v = -1 → l2 ≤ v ∧ v ≤ l3) → (g' 214 14 ≤ g' 214 13) → (g' 214 15 ≤ g' 214 14) → (zt3 g') → (g 214 15 ≤ g' 214 15) → (∀ (r : Nat) (T : zyT) (t j : Int), zs_str r → 0 ≤ j → j < zkN r → l1 = zmp r j → zyR r T g t → zyE T → (¬ zyK T 2 j t = 0 → v = -1 ∧ zyG T g' (zyK T 2 j t) t) ∧ (zyK T 2 j t = 0 → zyQ r T g' (t + 1) (zyN T (l3 + 1) (t + 1)) ∧ (zyN T (l3 + 1) (t + 1) = 0 → v = T.2.1 (t + 1)) ∧ (¬ zyN T (l3 + 1) (t + 1) = 0 → v = -1))) → Q v g') : w_M_readTold l1 l2 l3 g Q := by
  unfold w_M_readTold
  have b16 : 0 ≤ g 214 16 ∧ g 214 16 ≤ 4 := I.1 214 16
  have b17 : -1 ≤ g 214 17 ∧ g 214 17 ≤ 100000 := I.1 214 17
  refine k_M_isWord I ⟨by omega, by omega⟩ (fun v1 a1 a2 a3 => ⟨fun ne => ?_, fun e => ?_⟩)
  · have w2 : g 214 16 = 2 ∧ g 214 17 = l1 := by omega
    refine k_M_reads I (by omega) (fun g5 I5 F5 c1 c2 c3 c4 c5 => ?_)
    have k13 : g5 214 13 = g 214 13 := F5 214 13 (by unfold fr_M_reads; omega)
    refine k_M_readNumber I5 ⟨by omega, by omega⟩ ⟨by omega, by omega⟩ (by omega) (by omega) c4 (fun v7 g8 I8 F8 d1 d2 d3 d4 d5 d6 x => ?_)
    refine hQ v7 g8 I8 (zk_ft (zk_ft (zk_f0 _) F5 (fun a i h => by unfold fr_M_reads at h; unfold fr_M_readTold; omega)) F8 (fun a i h => h)) ⟨by omega, by omega⟩ (by omega) (by omega) (by omega) d5 (by omega) (fun r T t j hr j0 j1 ej h hE => ?_)
    have k := (zyR_w hr h ⟨j0, j1⟩ ej).1 w2
    have R5 := zyR_n h F5 c5 (zyE_lt hE h.2.1.2 (by omega))
    exact ⟨fun q => absurd (zyK_0.2 k) q, fun _ => x r T (t + 1) hr R5 hE⟩
  · refine k_M_errs I ⟨by decide, by decide⟩ (fun v g' I' F' c d x => ?_)
    have k13 : g' 214 13 = g 214 13 := F' 214 13 (by unfold fr_M_errs; omega)
    have k14 : g' 214 14 = g 214 14 := F' 214 14 (by unfold fr_M_errs; omega)
    have k15 : g' 214 15 = g 214 15 := F' 214 15 (by unfold fr_M_errs; omega)
    refine hQ v g' I' (zk_ft (zk_f0 _) F' (fun a i h => by unfold fr_M_errs at h; unfold fr_M_readTold; omega)) ⟨by omega, by omega⟩ (fun n => by omega) (by omega) (by omega) (d px2) (by omega) (fun r T t j hr j0 j1 ej h hE => ?_)
    have z : zyK T 2 j t = 1 := zyK_1 (fun q => by
      have k := (zyR_w hr h ⟨j0, j1⟩ ej).2 q
      omega)
    rw [z]
    exact ⟨fun _ => ⟨by omega, x r T t h⟩, fun q => absurd q (by decide)⟩

