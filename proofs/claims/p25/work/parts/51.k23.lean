-- by program (wip/gen/mkz.py)
-- SpoutNewsModel.isLineWord()Z
set_option maxRecDepth 100000 in
set_option maxHeartbeats 4000000 in
theorem k_M_isLineWord {g : zi_M} {Q : Int → zi_M → Prop} (I : zk_I g) (hQ : ∀ v : Int, (0 ≤ v ∧ v ≤ 1) → (¬ v = 0 → g 214 16 = 2) → (v = 0 → ¬ (g 214 16 = 2 ∧ 0 ≤ g 214 17 ∧ g 214 17 ≤ 2)) → (¬ v = 0 → g 214 16 = 2 ∧ 0 ≤ g 214 17 ∧ g 214 17 ≤ 2) → Q v g) : w_M_isLineWord g Q := by
  unfold w_M_isLineWord
  have m_1 : 0 ≤ (g 214 16) ∧ (g 214 16) ≤ 4 := I.1 214 16
  refine ⟨⟨by omega, by omega⟩, ?_⟩
  refine ⟨fun c6 => ?_, fun c6 => ?_⟩
  · exact hQ _ ⟨by omega, by omega⟩ (by omega) (by omega) (by omega)
  · have m_2 : (-1) ≤ (g 214 17) ∧ (g 214 17) ≤ 100000 := I.1 214 17
    refine k_M_isIn I ⟨by omega, by omega⟩ ⟨by omega, by omega⟩ ⟨by omega, by omega⟩ (fun v2 b_3 b_4 b_5 => ?_)
    refine ⟨fun c5 => ?_, fun c5 => ?_⟩
    · exact hQ _ ⟨by omega, by omega⟩ (by omega) (by omega) (by omega)
    · exact hQ _ ⟨by omega, by omega⟩ (by omega) (by omega) (by omega)
-- SpoutNewsModel.emits(II)V
theorem k_M_emits {l1 : Int} {l2 : Int} {g : zi_M} {Q : Int → zi_M → Prop} (I : zk_I g) (p1 : 0 ≤ l1 ∧ l1 ≤ 11) (p2 : (-8) ≤ l2 ∧ l2 ≤ 100000) (px0 : g 214 27 ≤ 399) (hQ : ∀ g' : zi_M, zk_I g' → zk_fr fr_M_emits g g' → (g' 214 27 = g 214 27 + 1) → (g' 229 (800 + g 214 27) = l1) → (g' 230 (800 + g 214 27) = l2) → (∀ i : Int, ¬ i = 800 + g 214 27 → g' 229 i = g 229 i ∧ g' 230 i = g 230 i) → Q 0 g') : w_M_emits l1 l2 g Q := by
  unfold w_M_emits
  have hc := I.1 214 27
  have h1 : (0 : Int) ≤ g 214 27 := hc.1
  refine ⟨⟨by omega, by omega⟩, ?_⟩
  intro g2 e2
  have a1 : g2 214 27 = g 214 27 := by rw [e2]; exact zi_u_ne (by decide)
  have I2 : zk_I g2 := by rw [e2]; exact zk_u229 I (by omega) ⟨by omega, by omega⟩
  refine ⟨⟨by omega, by omega⟩, ?_⟩
  intro g4 e4
  have a2 : g4 214 27 = g 214 27 := by rw [e4, zi_u_ne (by decide)]; exact a1
  have I4 : zk_I g4 := by rw [e4]; exact zk_u230 I2 (by omega) ⟨by omega, by omega⟩
  intro g5 e5
  have I5 : zk_I g5 := by rw [e5]; exact zk_upd (L := 0) (H := 400) rfl rfl I4 ⟨by omega, by omega⟩
  have F2 : zk_fr fr_M_emits g g2 := by rw [e2]; exact zk_fu (zk_f0 _) (Or.inl rfl)
  have F4 : zk_fr fr_M_emits g g4 := by rw [e4]; exact zk_fu F2 (Or.inr (Or.inl rfl))
  have F5 : zk_fr fr_M_emits g g5 := by rw [e5]; exact zk_fu F4 (Or.inr (Or.inr ⟨rfl, rfl⟩))
  rw [a1] at e4
  refine hQ g5 I5 F5 ?_ ?_ ?_ ?_
  · rw [e5, zi_u_eq, a2]
  · rw [e5, zi_u_ne (by decide), e4, zi_u_ne (by decide), e2, zi_u_eq]
  · rw [e5, zi_u_ne (by decide), e4, zi_u_eq]
  · intro i hi
    constructor
    · rw [e5, zi_u_ne (by decide), e4, zi_u_ne (by decide), e2, zi_u_ni hi]
    · rw [e5, zi_u_ne (by decide), e4, zi_u_ni hi, e2, zi_u_ne (by decide)]

-- SpoutNewsModel.errs(I)I
theorem k_M_errs {l1 : Int} {g : zi_M} {Q : Int → zi_M → Prop} (I : zk_I g) (p1 : 1 ≤ l1 ∧ l1 ≤ 3) (hQ : ∀ (v : Int) (g' : zi_M), zk_I g' → zk_fr fr_M_errs g g' → ((-1) ≤ v ∧ v ≤ (-1)) → (zt3 g → zt3 g') → (∀ (r : Nat) (T : zyT) (t : Int), zyR r T g t → zyG T g' l1 t) → Q v g') : w_M_errs l1 g Q := by
  unfold w_M_errs
  intro g1 e1 g2 e2
  have b : 0 ≤ g 214 15 ∧ g 214 15 ≤ 400 := I.1 214 15
  have m : g1 214 15 = g 214 15 := by rw [e1]; exact zi_u_ni (by decide)
  have I1 : zk_I g1 := by rw [e1]; exact zk_upd (L := 0) (H := 3) rfl rfl I ⟨by omega, by omega⟩
  have I2 : zk_I g2 := by rw [e2]; exact zk_upd (L := 0) (H := 400) rfl rfl I1 ⟨by omega, by omega⟩
  have k : ∀ i : Int, ¬ i = 31 → ¬ i = 32 → g2 214 i = g 214 i := fun i h1 h2 => by rw [e2, zi_u_ni h2, e1, zi_u_ni h1]
  have F2 : zk_fr fr_M_errs g g2 := by rw [e2, e1]; exact zk_fu (zk_fu (zk_f0 _) (Or.inl ⟨rfl, rfl⟩)) (Or.inr ⟨rfl, rfl⟩)
  refine hQ (-1) g2 I2 F2 ⟨by decide, by decide⟩ (fun h => zt3_e h (k 14 (by decide) (by decide)) (k 15 (by decide) (by decide)) (k 16 (by decide) (by decide)) (k 17 (by decide) (by decide))) (fun r T t h => ⟨by rw [e2, zi_u_ni (by decide), e1, zi_u_eq], ?_⟩)
  rw [e2, zi_u_eq, m]
  exact h.2.2.1

-- SpoutNewsModel.canAsk(I)Z
set_option maxRecDepth 100000 in
set_option maxHeartbeats 4000000 in
theorem k_M_canAsk {l1 : Int} {g : zi_M} {Q : Int → zi_M → Prop} (I : zk_I g) (p1 : (-1) ≤ l1 ∧ l1 ≤ 100000) (hQ : ∀ v : Int, (l1 < 7 → v = 0) → (7 ≤ l1 → 15 < l1 → v = 0) → (7 ≤ l1 → l1 ≤ 15 → v = 1) → Q v g) : w_M_canAsk l1 g Q := by
  unfold w_M_canAsk
  refine k_M_isIn I ⟨by omega, by omega⟩ ⟨by omega, by omega⟩ ⟨by omega, by omega⟩ (fun v1 b_1 b_2 b_3 => ?_)
  exact hQ _ (by intros; omega) (by intros; omega) (by intros; omega)
-- SpoutNewsModel.readUnit()I
theorem k_M_readUnit_cc {g : zi_M} {Q : Int → zi_M → Prop} (y : zy g) (hQ : ∀ g' : zi_M, zx 1 0 g g' → (g 214 16 = 3 → g' 229 (800 + g' 214 27 - 1) = 0 ∧ g' 230 (800 + g' 214 27 - 1) = g 214 17) → zmcn zUn 0 g g' → Q 0 g')
    {w v : Int} (hw : 0 ≤ w ∧ w ≤ 1) (hv : -8 ≤ v ∧ v ≤ 100000) (h1 : w = 1 → 0 ≤ v ∧ v ≤ 8) (ht : ¬ g 214 16 = 0) (h3 : g 214 16 = 3 → w = 0 ∧ v = g 214 17) (hw2 : (w = 0 ∧ g 214 16 = 3 ∧ v = g 214 17) ∨ (w = 1 ∧ g 214 16 = 2 ∧ 7 ≤ g 214 17 ∧ g 214 17 ≤ 15 ∧ v = g 214 17 - 7)) :
    w_M_emits w v g (fun _ g5 => w_M_reads g5 (fun _ g8 => Q 0 g8)) := by
  have hlt := y.t3.1 ht
  have hsp := y.sp
  have hcf := y.cf
  have ht4 : g 214 13 ≤ 400 := (y.I.1 214 13).2
  refine k_M_emits y.I ⟨hw.1, by omega⟩ hv (by omega) (fun g5 I5 F5 c5 o5 a5 r5 => ?_)
  have x5 : zx 1 (-1) g g5 := zx_em y.r I5 F5 c5 o5 a5 r5 ⟨hw.1, by omega⟩ h1 (fun q => by omega) (fun q => by omega) (fun q => by omega) (by rw [if_pos hw.2]; rfl)
  have f15 : g5 214 15 = g 214 15 := F5 _ _ (by unfold fr_M_emits; omega)
  have f14 : g5 214 14 = g 214 14 := F5 _ _ (by unfold fr_M_emits; omega)
  refine k_M_reads I5 x5.sp (fun g8 I8 F8 p1 p2 p3 p4 tn => ?_)
  have x8 : zx 0 1 g5 g8 := zx_rd I8 F8 p1 p2 p3 p4 (by omega) (by omega)
  have c8 : g8 214 27 = g5 214 27 := F8 _ _ (by unfold fr_M_reads; omega)
  have b1 : g8 229 (800 + g8 214 27 - 1) = g5 229 (800 + g8 214 27 - 1) := F8 _ _ (by unfold fr_M_reads; omega)
  have b2 : g8 230 (800 + g8 214 27 - 1) = g5 230 (800 + g8 214 27 - 1) := F8 _ _ (by unfold fr_M_reads; omega)
  have e8 : 800 + g8 214 27 - 1 = 800 + g 214 27 := by omega
  refine hQ g8 (x5.t x8) (fun q => ?_) (zmu_y hw2 F5 (zEm_1 (y.I.1 214 27).1 c5 o5 a5 r5) (zstm_of F8 tn) F8)
  rw [b1, b2, e8, o5, a5]
  exact h3 q
theorem k_M_readUnit {g : zi_M} {Q : Int → zi_M → Prop} (I : zk_I g) (px0 : zy g) (hQ : ∀ (v : Int) (g' : zi_M), zk_I g' → zk_fr fr_M_readUnit g g' → ((-1) ≤ v ∧ v ≤ 0) → (¬ v = -1 → zx 1 0 g g') → (¬ v = -1 → g 214 16 = 3 → g' 229 (800 + g' 214 27 - 1) = 0 ∧ g' 230 (800 + g' 214 27 - 1) = g 214 17) → (zmcn zUn v g g') → Q v g') : w_M_readUnit g Q := by
  have t := px0.t3
  have ok : ∀ g', zx 1 0 g g' → (g 214 16 = 3 → g' 229 (800 + g' 214 27 - 1) = 0 ∧ g' 230 (800 + g' 214 27 - 1) = g 214 17) → zmcn zUn 0 g g' → Q 0 g' := fun g' x l cn => hQ 0 g' x.I x.fr ⟨by decide, by decide⟩ (fun _ => x) (fun _ => l) cn
  have r16 := I.1 214 16
  have r17 : -1 ≤ g 214 17 ∧ g 214 17 ≤ 100000 := I.1 214 17
  have b43 : ∀ l : Int, 0 ≤ l ∧ l ≤ 1 → (l = 0 → g 214 16 = 3) → (¬ l = 0 → g 214 16 = 2 ∧ 7 ≤ g 214 17 ∧ g 214 17 ≤ 15) → w_M_readUnit_b43 l g Q := by
    intro l hl h0 h1
    unfold w_M_readUnit_b43
    refine ⟨⟨by omega, by omega⟩, fun e => ⟨fun _ => ?_, fun n => absurd e n⟩, fun n => ⟨fun e => absurd e n, fun _ => ?_⟩⟩
    · have := h0 e
      exact k_M_readUnit_cc px0 ok ⟨by omega, by omega⟩ ⟨by omega, by omega⟩ (fun q => by omega) (by omega) (fun _ => ⟨rfl, rfl⟩) (Or.inl ⟨rfl, this, rfl⟩)
    · have := h1 n
      exact k_M_readUnit_cc px0 ok ⟨by omega, by omega⟩ ⟨by omega, by omega⟩ (fun q => by omega) (by omega) (fun q => by omega) (Or.inr ⟨rfl, this.1, this.2.1, this.2.2, rfl⟩)
  have b24 : ∀ l : Int, 0 ≤ l ∧ l ≤ 1 → (¬ l = 0 → g 214 16 = 2 ∧ 7 ≤ g 214 17 ∧ g 214 17 ≤ 15) → (l = 0 → ¬ (g 214 16 = 2 ∧ 7 ≤ g 214 17 ∧ g 214 17 ≤ 15)) → w_M_readUnit_b24 l g Q := by
    intro l hl h1 h0
    unfold w_M_readUnit_b24
    refine ⟨⟨by omega, by omega⟩, fun n => b43 l hl (fun e => absurd e n) h1, fun e => ⟨zk_rng I _ _, fun q => b43 l hl (fun _ => q) h1, fun q => ?_⟩⟩
    refine k_M_errs I ⟨by decide, by decide⟩ (fun v g' I' F' hv _ er => ?_)
    exact hQ v g' I' (zk_ft (zk_f0 _) F' fr_XP) ⟨by omega, by omega⟩ (fun n => by omega) (fun n => by omega) (zmu_n q (h0 e) (by omega) er (zlo_x F'))
  unfold w_M_readUnit
  refine ⟨zk_rng I _ _, fun n => b24 0 ⟨by decide, by decide⟩ (fun n => absurd rfl n) (fun _ q => n q.1), fun e => ?_⟩
  refine k_M_canAsk I ⟨by omega, by omega⟩ (fun v b1 b2 b3 => ⟨fun z => b24 0 ⟨by decide, by decide⟩ (fun n => absurd rfl n) (fun _ q => by have := b3 q.2.1 q.2.2; omega), fun n => b24 1 ⟨by decide, by decide⟩ (fun _ => ?_) (fun q => by omega)⟩)
  have := t.2.2 e
  refine ⟨e, ?_, ?_⟩ <;> omega

-- SpoutNewsModel.isSign(I)Z
set_option maxRecDepth 100000 in
set_option maxHeartbeats 4000000 in
theorem k_M_isSign {l1 : Int} {g : zi_M} {Q : Int → zi_M → Prop} (I : zk_I g) (p1 : 40 ≤ l1 ∧ l1 ≤ 62) (hQ : ∀ v : Int, (¬ (g 214 16) = 4 → v = 0) → ((g 214 16) = 4 → ¬ (g 214 17) = l1 → v = 0) → ((g 214 16) = 4 → (g 214 17) = l1 → v = 1) → Q v g) : w_M_isSign l1 g Q := by
  unfold w_M_isSign
  have m_1 : 0 ≤ (g 214 16) ∧ (g 214 16) ≤ 4 := I.1 214 16
  refine ⟨⟨by omega, by omega⟩, ?_⟩
  refine ⟨fun c5 => ?_, fun c5 => ?_⟩
  · have m_2 : (-1) ≤ (g 214 17) ∧ (g 214 17) ≤ 100000 := I.1 214 17
    exact hQ _ (by intros; omega) (by intros; omega) (by intros; omega)
  · have m_3 : (-1) ≤ (g 214 17) ∧ (g 214 17) ≤ 100000 := I.1 214 17
    refine ⟨⟨by omega, by omega⟩, ⟨by omega, by omega⟩, ?_⟩
    refine ⟨fun c4 => ?_, fun c4 => ?_⟩
    · exact hQ _ (by intros; omega) (by intros; omega) (by intros; omega)
    · exact hQ _ (by intros; omega) (by intros; omega) (by intros; omega)
-- SpoutNewsModel.readProduct()I
theorem k_M_readProduct_l10 {g0 : zi_M} {K51 K68 K82 K101 : zi_M → Prop} {Q : Int → zi_M → Prop} (h0 : g0 214 27 ≤ g0 214 15) (hK51 : ∀ g, zk_I g → zk_fr fr_P g0 g → zPe_ 1 g0 g → K51 g) (hK68 : ∀ g, zk_I g → zk_fr fr_P g0 g → zPe_ 2 g0 g → K68 g) (hK82 : ∀ g, zk_I g → zk_fr fr_P g0 g → zPf_ g0 g → K82 g) (hK101 : ∀ g, zx 1 0 g0 g → zPx_ g0 g → K101 g) :
    ∀ (n : Nat) (g : zi_M), zx 1 0 g0 g → zPl_ g0 g → 400 - g 214 15 < (n : Int) → w_M_readProduct_l10 K51 K68 K82 K101 Q n g
  | 0, g, x, pl, hm => by
    have a1 := x.fs; have a2 := x.sp
    have a3 : g 214 13 ≤ 400 := (x.I.1 214 13).2
    exfalso; omega
  | n + 1, g, x, pl, hm => by
    have I := x.I
    have a1 := x.fs; have a2 := x.sp
    have a3 : g 214 13 ≤ 400 := (x.I.1 214 13).2
    have b28 : g 214 16 = 4 → (g 214 17 = 42 ∨ g 214 17 = 47) → w_M_readProduct_b28 g (w_M_readProduct_l10 K51 K68 K82 K101 Q n) K51 K68 K82 K101 Q := by
      intro ht hv
      have hlt := x.t3.1 (by omega)
      unfold w_M_readProduct_b28
      refine k_M_isSign I ⟨by decide, by decide⟩ (fun v8 c1 c2 c3 => ?_)
      refine k_M_reads I x.sp (fun g12 I12 F12 p1 p2 p3 p4 tn => ?_)
      have st := zstm_of F12 tn
      have x1 : zx 0 1 g g12 := zx_rd I12 F12 p1 p2 p3 p4 (by omega) (by omega)
      have x2 : zx 1 1 g0 g12 := x.t x1
      have y12 := x2.y (by decide) h0
      have b74 : ∀ l : Int, 0 ≤ l ∧ l ≤ 1 → (l = 0 → g12 214 16 = 3 ∧ ¬ g12 214 17 = 0) → (l = 0 → g 214 17 = 47) → (¬ l = 0 → g 214 17 = 42) → w_M_readProduct_b74 l g12 (w_M_readProduct_l10 K51 K68 K82 K101 Q n) K51 K68 K82 K101 Q := by
        intro l hl hz l47 l42
        unfold w_M_readProduct_b74
        refine k_M_readUnit I12 y12 (fun v15 g16 I16 F16 hv15 hx hlast cn => ⟨⟨by omega, by omega⟩, fun n1 => ?_, fun e1 => hK82 _ I16 (zk_ft x2.fr F16 (fun _ _ e => e)) ?_⟩)
        rotate_left
        · by_cases l0 : l = 0
          · exact (zPl_u pl (Or.inr ⟨rfl, ⟨ht, l47 l0⟩, (hz l0).1, (hz l0).2⟩) st F12 cn).1 e1
          · exact (zPl_u pl (Or.inl ⟨rfl, ht, l42 l0⟩) st F12 cn).1 e1
        have x3 := hx n1
        have x4 : zx 2 1 g0 g16 := x2.t x3
        have z1 := x4.fs; have z2 := x4.sp
        have z3 : g16 214 13 ≤ 400 := (I16.1 214 13).2
        have z4 := x4.cf
        have z5 := x3.ff
        have z6 := x2.cc
        have z7 : 0 ≤ g0 214 15 ∨ True := Or.inr trivial
        have z8 := x3.cf
        have go : ∀ w : Int, w = 4 ∨ w = 5 → (w = 5 → l = 0) → (w = 4 → ¬ l = 0) → w_M_emits w 0 g16 (fun _ g' => w_M_readProduct_l10 K51 K68 K82 K101 Q n g') := by
          intro w hw hw5 hw4
          refine k_M_emits I16 ⟨by omega, by omega⟩ ⟨by decide, by decide⟩ (by omega) (fun g5 I5 F5 c5 o5 a5 r5 => ?_)
          have x5 : zx 1 (1 - 1) g0 g5 := zx_em x4 I5 F5 c5 o5 a5 r5 ⟨by omega, by omega⟩ (fun q => by omega) (fun q => by omega) (fun _ _ => by omega) (fun q => ?_) (by rw [if_neg (by omega), if_neg (by omega)]; rfl)
          · have f15 : g5 214 15 = g16 214 15 := F5 _ _ (by unfold fr_M_emits; omega)
            have pl5 : zPl_ g0 g5 := by
              rcases hw with e4 | e5
              · subst e4
                exact (zPl_u pl (Or.inl ⟨rfl, ht, l42 (hw4 rfl)⟩) st F12 cn).2 n1 g5 (zEm_1 (I16.1 214 27).1 c5 o5 a5 r5) F5
              · subst e5
                exact (zPl_u pl (Or.inr ⟨rfl, ⟨ht, l47 (hw5 rfl)⟩, (hz (hw5 rfl)).1, (hz (hw5 rfl)).2⟩) st F12 cn).2 n1 g5 (zEm_1 (I16.1 214 27).1 c5 o5 a5 r5) F5
            exact k_M_readProduct_l10 h0 hK51 hK68 hK82 hK101 n g5 x5 pl5 (by have := x1.ff; omega)
          · have hh := hz (hw5 q)
            have hl2 := hlast n1 hh.1
            have t12 := y12.t3.2.1 hh.1
            have dd := x3.dp _ _ (zp_nil (g := g12) (I12.1 214 27).1)
            have d2 := dd.2.2.2.2
            have ne : ¬ g12 214 27 = g16 214 27 := by
              intro e
              rw [e, Int.sub_self] at d2
              exact absurd d2 (show ¬ (0 : Int) = 0 + 1 by decide)
            have := x3.cc
            refine ⟨by omega, hl2.1, by rw [hl2.2]; omega⟩
        refine ⟨⟨by omega, by omega⟩, fun e => go 5 (Or.inr rfl) (fun _ => e) (fun q => by omega), fun n4 => go 4 (Or.inl rfl) (fun q => by omega) (fun _ => n4)⟩
      have b57 : ∀ l : Int, 0 ≤ l ∧ l ≤ 1 → (l = 0 → g12 214 16 = 3) → (l = 0 → g 214 17 = 47) → (¬ l = 0 → g 214 17 = 42) → w_M_readProduct_b57 l g12 (w_M_readProduct_l10 K51 K68 K82 K101 Q n) K51 K68 K82 K101 Q := by
        intro l hl hz l47 l42
        unfold w_M_readProduct_b57
        refine ⟨⟨by omega, by omega⟩, fun n1 => b74 l hl (fun e => absurd e n1) l47 l42, fun e => ⟨zk_rng I12 _ _, fun n2 => b74 l hl (fun _ => ⟨hz e, n2⟩) l47 l42, fun z2 => hK68 _ I12 x2.fr (zPe_1 pl ⟨ht, l47 e⟩ st F12 (Or.inr ⟨rfl, hz e, z2⟩))⟩⟩
      refine ⟨fun n1 => b57 v8 (by omega) (fun e => absurd e n1) (fun e => absurd e n1) (fun _ => by omega), fun e => ⟨zk_rng I12 _ _, fun q => b57 v8 (by omega) (fun _ => q) (fun _ => by omega) (fun n => absurd e n), fun q => hK51 _ I12 x2.fr (zPe_1 pl ⟨ht, by omega⟩ st F12 (Or.inl ⟨rfl, q⟩))⟩⟩
    unfold w_M_readProduct_l10
    refine k_M_isSign I ⟨by decide, by decide⟩ (fun v5 c1 c2 c3 => ⟨fun n1 => b28 (by omega) (by omega), fun e => ?_⟩)
    refine k_M_isSign I ⟨by decide, by decide⟩ (fun v34 d1 d2 d3 => ⟨fun z2 => hK101 _ x (zPx_x pl (by omega) (by omega)), fun n2 => b28 (by omega) (by omega)⟩)
theorem k_M_readProduct {g : zi_M} {Q : Int → zi_M → Prop} (I : zk_I g) (px0 : zy g) (hQ : ∀ (v : Int) (g' : zi_M), zk_I g' → zk_fr fr_M_readProduct g g' → ((-1) ≤ v ∧ v ≤ 0) → (¬ v = -1 → zx 1 0 g g') → (zPr_ v g g') → Q v g') : w_M_readProduct g Q := by
  unfold w_M_readProduct
  refine k_M_readUnit I px0 (fun v1 g2 I2 F2 hv1 hx hl cn => ⟨⟨by omega, by omega⟩, fun n1 => ?_, fun e1 => hQ _ _ I2 F2 ⟨by decide, by decide⟩ (fun n => absurd rfl n) (Or.inr ⟨rfl, zPf_0 cn e1⟩)⟩)
  have x := hx n1
  have er : ∀ k : Int, 1 ≤ k ∧ k ≤ 3 → ∀ g', zk_I g' → zk_fr fr_P g g' → zPe_ k g g' → w_M_errs k g' (fun v g'' => Q v g'') := by
    intro k hk g' I' F' pe
    refine k_M_errs I' hk (fun v g'' I'' F'' hv _ er => ?_)
    exact hQ _ _ I'' (zk_ft F' F'' fr_XP) ⟨by omega, by omega⟩ (fun n => by omega) (Or.inr ⟨by omega, zPf_e pe (by omega) er (zlo_x F'')⟩)
  have a3 : 0 ≤ g2 214 15 := (I2.1 214 15).1
  exact ⟨401, k_M_readProduct_l10 px0.cf (fun g' I' F' pe => er 1 ⟨by decide, by decide⟩ g' I' F' pe) (fun g' I' F' pe => er 2 ⟨by decide, by decide⟩ g' I' F' pe) (fun g' I' F' pf => hQ _ _ I' F' ⟨by decide, by decide⟩ (fun n => absurd rfl n) (Or.inr ⟨rfl, pf⟩)) (fun g' x' px => hQ _ _ x'.I x'.fr ⟨by decide, by decide⟩ (fun _ => x') (Or.inl ⟨rfl, px⟩)) 401 g2 x (zPl_0 cn n1) (by omega)⟩

-- SpoutNewsModel.readSum()I
theorem k_M_readSum_l10 {g0 : zi_M} {K55 K66 : zi_M → Prop} {Q : Int → zi_M → Prop} (h0 : g0 214 27 ≤ g0 214 15) (hK55 : ∀ g, zk_I g → zk_fr fr_P g0 g → zmcn zSu (-1) g0 g → K55 g) (hK66 : ∀ g, zx 1 0 g0 g → zmcn zSu 0 g0 g → K66 g) :
    ∀ (n : Nat) (g : zi_M), zx 1 0 g0 g → zQl_ g0 g → 400 - g 214 15 < (n : Int) → w_M_readSum_l10 K55 K66 Q n g
  | 0, g, x, ql, hm => by
    have a1 := x.fs; have a2 := x.sp
    have a3 : g 214 13 ≤ 400 := (x.I.1 214 13).2
    exfalso; omega
  | n + 1, g, x, ql, hm => by
    have I := x.I
    have a1 := x.fs; have a2 := x.sp
    have a3 : g 214 13 ≤ 400 := (x.I.1 214 13).2
    have b28 : g 214 16 = 4 → (g 214 17 = 43 ∨ g 214 17 = 45) → w_M_readSum_b28 g (w_M_readSum_l10 K55 K66 Q n) K55 K66 Q := by
      intro ht hv
      have hlt := x.t3.1 (by omega)
      have b42 : ∀ w : Int, 2 ≤ w ∧ w ≤ 3 → ((w = 2 ∧ g 214 16 = 4 ∧ g 214 17 = 43) ∨ (w = 3 ∧ g 214 16 = 4 ∧ g 214 17 = 45)) → w_M_readSum_b42 w g (w_M_readSum_l10 K55 K66 Q n) K55 K66 Q := by
        intro w hw sw
        unfold w_M_readSum_b42
        refine k_M_reads I x.sp (fun g12 I12 F12 p1 p2 p3 p4 tn => ?_)
        have st := zstm_of F12 tn
        have x1 : zx 0 1 g g12 := zx_rd I12 F12 p1 p2 p3 p4 (by omega) (by omega)
        have x2 : zx 1 1 g0 g12 := x.t x1
        have y12 := x2.y (by decide) h0
        refine k_M_readProduct I12 y12 (fun v15 g16 I16 F16 hv15 hx cn => ⟨⟨by omega, by omega⟩, fun n1 => ?_, fun e1 => hK55 _ I16 (zk_ft x2.fr F16 (fun _ _ e => e)) ((zQl_u ql sw st F12 cn).1 e1)⟩)
        have x3 := hx n1
        have x4 : zx 2 1 g0 g16 := x2.t x3
        have z1 := x4.fs; have z2 := x4.sp
        have z3 : g16 214 13 ≤ 400 := (I16.1 214 13).2
        have z4 := x4.cf
        have z5 := x3.ff
        have z8 := x1.ff
        refine k_M_emits I16 ⟨by omega, by omega⟩ ⟨by decide, by decide⟩ (by omega) (fun g5 I5 F5 c5 o5 a5 r5 => ?_)
        have x5 : zx 1 (1 - 1) g0 g5 := zx_em x4 I5 F5 c5 o5 a5 r5 ⟨by omega, by omega⟩ (fun q => by omega) (fun q => by omega) (fun _ _ => by omega) (fun q => by omega) (by rw [if_neg (by omega), if_neg (by omega)]; rfl)
        have f15 : g5 214 15 = g16 214 15 := F5 _ _ (by unfold fr_M_emits; omega)
        exact k_M_readSum_l10 h0 hK55 hK66 n g5 x5 ((zQl_u ql sw st F12 cn).2 n1 g5 (zEm_1 (I16.1 214 27).1 c5 o5 a5 r5) F5) (by omega)
      unfold w_M_readSum_b28
      exact ⟨zk_rng I _ _, fun n43 => b42 3 ⟨by decide, by decide⟩ (Or.inr ⟨rfl, ht, by omega⟩), fun e43 => b42 2 ⟨by decide, by decide⟩ (Or.inl ⟨rfl, ht, e43⟩)⟩
    unfold w_M_readSum_l10
    refine k_M_isSign I ⟨by decide, by decide⟩ (fun v5 c1 c2 c3 => ⟨fun n1 => b28 (by omega) (by omega), fun e => ?_⟩)
    refine k_M_isSign I ⟨by decide, by decide⟩ (fun v34 d1 d2 d3 => ⟨fun z2 => hK66 _ x (zQl_x ql (by omega) (by omega)), fun n2 => b28 (by omega) (by omega)⟩)
theorem k_M_readSum {g : zi_M} {Q : Int → zi_M → Prop} (I : zk_I g) (px0 : zy g) (hQ : ∀ (v : Int) (g' : zi_M), zk_I g' → zk_fr fr_M_readSum g g' → ((-1) ≤ v ∧ v ≤ 0) → (¬ v = -1 → zx 1 0 g g') → (zmcn zSu v g g') → Q v g') : w_M_readSum g Q := by
  unfold w_M_readSum
  refine k_M_readProduct I px0 (fun v1 g2 I2 F2 hv1 hx cn => ⟨⟨by omega, by omega⟩, fun n1 => ?_, fun e1 => hQ _ _ I2 F2 ⟨by decide, by decide⟩ (fun n => absurd rfl n) (by have := zQf_0 cn e1; rw [e1] at this; exact this)⟩)
  have x := hx n1
  have a3 : 0 ≤ g2 214 15 := (I2.1 214 15).1
  exact ⟨401, k_M_readSum_l10 px0.cf (fun g' I' F' cf => hQ _ _ I' F' ⟨by decide, by decide⟩ (fun n => absurd rfl n) cf) (fun g' x' cy => hQ _ _ x'.I x'.fr ⟨by decide, by decide⟩ (fun _ => x') cy) 401 g2 x (zQl_0 cn n1) (by omega)⟩

-- SpoutNewsModel.isWord(I)Z
set_option maxRecDepth 100000 in
set_option maxHeartbeats 4000000 in
theorem k_M_isWord {l1 : Int} {g : zi_M} {Q : Int → zi_M → Prop} (I : zk_I g) (p1 : 3 ≤ l1 ∧ l1 ≤ 20) (hQ : ∀ v : Int, (¬ (g 214 16) = 2 → v = 0) → ((g 214 16) = 2 → ¬ (g 214 17) = l1 → v = 0) → ((g 214 16) = 2 → (g 214 17) = l1 → v = 1) → Q v g) : w_M_isWord l1 g Q := by
  unfold w_M_isWord
  have m_1 : 0 ≤ (g 214 16) ∧ (g 214 16) ≤ 4 := I.1 214 16
  refine ⟨⟨by omega, by omega⟩, ?_⟩
  refine ⟨fun c5 => ?_, fun c5 => ?_⟩
  · have m_2 : (-1) ≤ (g 214 17) ∧ (g 214 17) ≤ 100000 := I.1 214 17
    exact hQ _ (by intros; omega) (by intros; omega) (by intros; omega)
  · have m_3 : (-1) ≤ (g 214 17) ∧ (g 214 17) ≤ 100000 := I.1 214 17
    refine ⟨⟨by omega, by omega⟩, ⟨by omega, by omega⟩, ?_⟩
    refine ⟨fun c4 => ?_, fun c4 => ?_⟩
    · exact hQ _ (by intros; omega) (by intros; omega) (by intros; omega)
    · exact hQ _ (by intros; omega) (by intros; omega) (by intros; omega)
-- SpoutNewsModel.settles(I)V
theorem k_M_settles_l0 {w : Int} (hw : w = 9 ∨ w = 10 ∨ w = 11) {K : zi_M → Prop} {Q : Int → zi_M → Prop} : ∀ (P : List Int) (g : zi_M), zk_I g → zq g P → g 214 27 + P.length ≤ 400 → (w = 9 → zl_cnt 9 P ≤ g 214 28) → (∀ g', zS w P g g' → zEm (zdl w P) g g' → K g') → w_M_settles_l0 w K Q (P.length + 1) g
  | [], g, I, q, hc, ho, hK => by
    have z : g 214 30 = 0 := q.1
    show _ ∧ _
    refine ⟨zk_rng I _ _, fun _ => hK g (zS_0 I q (Or.inr rfl)) zEm_0, fun n => by omega⟩
  | x :: t, g, I, q, hc, ho, hK => by
    have z : g 214 30 = ((x :: t).length : Int) := q.1
    rw [List.length_cons] at z hc
    have zx : g 231 (t.length : Int) = x := q.2.1
    have hl : g 214 30 ≤ 40 := (I.1 214 30).2
    have ei : g 214 30 - 1 = (t.length : Int) := by omega
    rw [List.length_cons]
    show _ ∧ _
    refine ⟨zk_rng I _ _, fun n => by omega, fun _ => ⟨⟨by omega, by omega⟩, zk_rng I _ _, ⟨by omega, by omega⟩, fun n => ?_, fun e => ?_⟩⟩
    · have nx : x ≠ w := fun e => n (by rw [ei, zx, e])
      refine hK g (zS_0 I q (Or.inl nx)) ?_
      rw [zdl_n nx]
      exact zEm_0
    · rw [ei, zx] at e
      intro g5 e5
      have c0 : 0 ≤ g 214 27 := (I.1 214 27).1
      have I5 : zk_I g5 := by rw [e5]; exact zk_upd (L := 0) (H := 40) rfl rfl I ⟨by omega, by omega⟩
      have F5 : zk_fr fr_S g g5 := by rw [e5]; exact zk_fu (zk_f0 _) (Or.inr (Or.inr (Or.inr (Or.inr ⟨rfl, rfl⟩))))
      have a27 : g5 214 27 = g 214 27 := by rw [e5]; exact zi_u_ni (by decide)
      have a28 : g5 214 28 = g 214 28 := by rw [e5]; exact zi_u_ni (by decide)
      have a30 : g5 214 30 = (t.length : Int) := by rw [e5, zi_u_eq, ei]
      have a231 : ∀ i, g5 231 i = g 231 i := fun i => by rw [e5]; exact zi_u_ne (by decide)
      have a229 : ∀ i, g5 229 i = g 229 i ∧ g5 230 i = g 230 i := fun i => ⟨by rw [e5]; exact zi_u_ne (by decide), by rw [e5]; exact zi_u_ne (by decide)⟩
      refine k_M_emits I5 ⟨by omega, by omega⟩ ⟨by decide, by decide⟩ (by omega) (fun g7 I7 F7 c7 o7 v7 l7 => ?_)
      have F7' : zk_fr fr_S g g7 := zk_ft F5 F7 (fun a i h => h.elim Or.inl (fun h => h.elim (fun h => Or.inr (Or.inl h)) (fun h => Or.inr (Or.inr (Or.inl h)))))
      have b28 : g7 214 28 = g 214 28 := by rw [F7 214 28 (by unfold fr_M_emits; omega), a28]
      have b30 : g7 214 30 = (t.length : Int) := by rw [F7 214 30 (by unfold fr_M_emits; omega), a30]
      have b231 : ∀ i, g7 231 i = g 231 i := fun i => by rw [F7 231 i (by unfold fr_M_emits; omega), a231]
      rw [a27] at c7 o7 v7 l7
      have lw : ∀ i : Int, ¬ i = 800 + g 214 27 → g7 229 i = g 229 i ∧ g7 230 i = g 230 i := fun i hi => ⟨(l7 i hi).1.trans (a229 i).1, (l7 i hi).2.trans (a229 i).2⟩
      have cn : zl_cnt w (x :: t) = zl_cnt w t + 1 := by show (if x = w then _ else _) = _; rw [if_pos e]
      have cn0 := zl_cnt0 w t
      have em7 : zEm [(w, 0)] g g7 := zEm_1 c0 c7 o7 v7 lw
      refine ⟨fun n9 => ?_, fun e9 => ?_⟩
      · refine k_M_settles_l0 hw t g7 I7 ⟨b30, zql_c q.2.2 (fun i _ _ => b231 i)⟩ (by omega) (fun q => absurd q n9) (fun g' s' m' => hK g' ?_ (by rw [zdl_y e]; exact zEm_t em7 m'))
        rw [e]
        exact zS_1 ⟨by omega, by omega, by omega⟩ I7 F7' c7 o7 v7 lw (by rw [b28, if_neg n9]; omega) s'
      · intro g9 e9'
        have ho9 := ho e9
        rw [← e9] at ho9
        have I9 : zk_I g9 := by
          rw [e9']
          have := (I7.1 214 28).2
          exact zk_upd (L := 0) (H := 8) rfl rfl I7 ⟨by omega, by have h8 : g7 214 28 ≤ 8 := this; omega⟩
        have F9 : zk_fr fr_S g g9 := by rw [e9']; exact zk_fu F7' (Or.inr (Or.inr (Or.inr (Or.inl ⟨rfl, rfl⟩))))
        have d27 : g9 214 27 = g7 214 27 := by rw [e9']; exact zi_u_ni (by decide)
        have d28 : g9 214 28 = g 214 28 - 1 := by rw [e9', zi_u_eq, b28]
        have d30 : g9 214 30 = (t.length : Int) := by rw [e9', zi_u_ni (by decide), b30]
        have d231 : ∀ i, g9 231 i = g 231 i := fun i => by rw [e9', zi_u_ne (by decide), b231]
        have d229 : ∀ i, g9 229 i = g7 229 i ∧ g9 230 i = g7 230 i := fun i => ⟨by rw [e9']; exact zi_u_ne (by decide), by rw [e9']; exact zi_u_ne (by decide)⟩
        refine k_M_settles_l0 hw t g9 I9 ⟨d30, zql_c q.2.2 (fun i _ _ => d231 i)⟩ (by omega) (fun _ => by rw [d28, ← e9]; omega) (fun g' s' m' => hK g' ?_ (by rw [zdl_y e]; exact zEm_t em7 (zEm_s m' d27 d229)))
        rw [e]
        exact zS_1 ⟨by omega, by omega, by omega⟩ I9 F9 (by rw [d27, c7]) (by rw [(d229 _).1, o7]) (by rw [(d229 _).2, v7]) (fun i hi => ⟨(d229 i).1.trans (lw i hi).1, (d229 i).2.trans (lw i hi).2⟩) (by rw [d28, if_pos e9]) s'
theorem k_M_settles {l1 : Int} {g : zi_M} {Q : Int → zi_M → Prop} (I : zk_I g) (p1 : 9 ≤ l1 ∧ l1 ≤ 11) (px0 : ∃ P, zq g P ∧ g 214 27 + P.length ≤ 400 ∧ (l1 = 9 → zl_cnt 9 P ≤ g 214 28)) (hQ : ∀ g' : zi_M, zk_I g' → zk_fr fr_M_settles g g' → (∀ P, zq g P → zS l1 P g g') → (∀ P : List Int, zq g P → zEm (zdl l1 P) g g') → Q 0 g') : w_M_settles l1 g Q := by
  unfold w_M_settles
  obtain ⟨P, h1, h2, h3⟩ := px0
  exact ⟨P.length + 1, k_M_settles_l0 (by omega) P g I h1 h2 h3 (fun g' s m => hQ g' s.I s.fr (fun P' q' => by rw [← zq_u h1 q']; exact s) (fun P' q' => by rw [← zq_u h1 q']; exact m))⟩

