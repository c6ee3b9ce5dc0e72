-- by program (wip/gen/mkz.py)
-- SpoutNewsModel.readUnit()I
def fr_M_readUnit (a : Nat) (i : Int) : Prop := a = 229 ∨ a = 230 ∨ (a = 214 ∧ i = 14) ∨ (a = 214 ∧ i = 15) ∨ (a = 214 ∧ i = 16) ∨ (a = 214 ∧ i = 17) ∨ (a = 214 ∧ i = 27) ∨ (a = 214 ∧ i = 31) ∨ (a = 214 ∧ i = 32)
set_option maxRecDepth 100000 in
set_option maxHeartbeats 400000 in
theorem k_M_readUnit_b43 {l1 : Int} {Q : Int → zi_M → Prop} {g : zi_M} {g0 : zi_M} (I : zk_I g) (F : zk_fr fr_M_readUnit g0 g) (p1 : 0 ≤ l1 ∧ l1 ≤ 1) (hQ : ∀ (v : Int) (g' : zi_M), zk_I g' → zk_fr fr_M_readUnit g0 g' → ((-1) ≤ v ∧ v ≤ 0) → Q v g') : w_M_readUnit_b43 l1 g Q := by
  unfold w_M_readUnit_b43
  refine ⟨⟨by omega, by omega⟩, ?_⟩
  refine ⟨fun c30 => ?_, fun c30 => ?_⟩
  · refine ⟨fun c16 => ?_, fun c16 => ?_⟩
    · have m_2 : (-1) ≤ (g 214 17) ∧ (g 214 17) ≤ 100000 := I 214 17
      refine k_M_emits I ⟨by omega, by omega⟩ ⟨by omega, by omega⟩ (fun g5 I_3 F_4 => ?_)
      have F_5 : zk_fr fr_M_readUnit g0 g5 := zk_ft F F_4 (by intro a i h; unfold fr_M_emits at h; unfold fr_M_readUnit; omega)
      refine k_M_reads I_3 (fun g8 I_6 F_7 => ?_)
      have F_8 : zk_fr fr_M_readUnit g0 g8 := zk_ft F_5 F_7 (by intro a i h; unfold fr_M_reads at h; unfold fr_M_readUnit; omega)
      exact hQ _ _ I_6 F_8 ⟨by omega, by omega⟩
    · have m_9 : (-1) ≤ (g 214 17) ∧ (g 214 17) ≤ 100000 := I 214 17
      refine k_M_emits I ⟨by omega, by omega⟩ ⟨by omega, by omega⟩ (fun g11 I_10 F_11 => ?_)
      have F_12 : zk_fr fr_M_readUnit g0 g11 := zk_ft F F_11 (by intro a i h; unfold fr_M_emits at h; unfold fr_M_readUnit; omega)
      refine k_M_reads I_10 (fun g14 I_13 F_14 => ?_)
      have F_15 : zk_fr fr_M_readUnit g0 g14 := zk_ft F_12 F_14 (by intro a i h; unfold fr_M_reads at h; unfold fr_M_readUnit; omega)
      exact hQ _ _ I_13 F_15 ⟨by omega, by omega⟩
  · refine ⟨fun c29 => ?_, fun c29 => ?_⟩
    · have m_16 : (-1) ≤ (g 214 17) ∧ (g 214 17) ≤ 100000 := I 214 17
      refine k_M_emits I ⟨by omega, by omega⟩ ⟨by omega, by omega⟩ (fun g18 I_17 F_18 => ?_)
      have F_19 : zk_fr fr_M_readUnit g0 g18 := zk_ft F F_18 (by intro a i h; unfold fr_M_emits at h; unfold fr_M_readUnit; omega)
      refine k_M_reads I_17 (fun g21 I_20 F_21 => ?_)
      have F_22 : zk_fr fr_M_readUnit g0 g21 := zk_ft F_19 F_21 (by intro a i h; unfold fr_M_reads at h; unfold fr_M_readUnit; omega)
      exact hQ _ _ I_20 F_22 ⟨by omega, by omega⟩
    · have m_23 : (-1) ≤ (g 214 17) ∧ (g 214 17) ≤ 100000 := I 214 17
      refine k_M_emits I ⟨by omega, by omega⟩ ⟨by omega, by omega⟩ (fun g24 I_24 F_25 => ?_)
      have F_26 : zk_fr fr_M_readUnit g0 g24 := zk_ft F F_25 (by intro a i h; unfold fr_M_emits at h; unfold fr_M_readUnit; omega)
      refine k_M_reads I_24 (fun g27 I_27 F_28 => ?_)
      have F_29 : zk_fr fr_M_readUnit g0 g27 := zk_ft F_26 F_28 (by intro a i h; unfold fr_M_reads at h; unfold fr_M_readUnit; omega)
      exact hQ _ _ I_27 F_29 ⟨by omega, by omega⟩
set_option maxRecDepth 100000 in
set_option maxHeartbeats 400000 in
theorem k_M_readUnit_b24 {s0 : Int} {Q : Int → zi_M → Prop} {g : zi_M} {g0 : zi_M} (I : zk_I g) (F : zk_fr fr_M_readUnit g0 g) (ps0 : 0 ≤ s0 ∧ s0 ≤ 1) (hQ : ∀ (v : Int) (g' : zi_M), zk_I g' → zk_fr fr_M_readUnit g0 g' → ((-1) ≤ v ∧ v ≤ 0) → Q v g') : w_M_readUnit_b24 s0 g Q := by
  unfold w_M_readUnit_b24
  refine ⟨⟨by omega, by omega⟩, ?_⟩
  refine ⟨fun c36 => ?_, fun c36 => ?_⟩
  · exact k_M_readUnit_b43 I F ⟨by omega, by omega⟩ hQ
  · have m_30 : 0 ≤ (g 214 16) ∧ (g 214 16) ≤ 4 := I 214 16
    refine ⟨⟨by omega, by omega⟩, ?_⟩
    refine ⟨fun c35 => ?_, fun c35 => ?_⟩
    · exact k_M_readUnit_b43 I F ⟨by omega, by omega⟩ hQ
    · refine k_M_errs I ⟨by omega, by omega⟩ (fun v32 g33 I_32 F_33 b_31 => ?_)
      have F_34 : zk_fr fr_M_readUnit g0 g33 := zk_ft F F_33 (by intro a i h; unfold fr_M_errs at h; unfold fr_M_readUnit; omega)
      exact hQ _ _ I_32 F_34 ⟨by omega, by omega⟩
set_option maxRecDepth 100000 in
set_option maxHeartbeats 400000 in
theorem k_M_readUnit {g : zi_M} {Q : Int → zi_M → Prop} (I : zk_I g) (hQ : ∀ (v : Int) (g' : zi_M), zk_I g' → zk_fr fr_M_readUnit g g' → ((-1) ≤ v ∧ v ≤ 0) → Q v g') : w_M_readUnit g Q := by
  unfold w_M_readUnit
  have m_1 : 0 ≤ (g 214 16) ∧ (g 214 16) ≤ 4 := I 214 16
  refine ⟨⟨by omega, by omega⟩, ?_⟩
  refine ⟨fun c41 => ?_, fun c41 => ?_⟩
  · exact k_M_readUnit_b24 I (zk_f0 _) ⟨by omega, by omega⟩ hQ
  · have m_35 : (-1) ≤ (g 214 17) ∧ (g 214 17) ≤ 100000 := I 214 17
    refine k_M_canAsk I ⟨by omega, by omega⟩ (fun v37 b_36 b_37 b_38 => ?_)
    refine ⟨fun c40 => ?_, fun c40 => ?_⟩
    · exact k_M_readUnit_b24 I (zk_f0 _) ⟨by omega, by omega⟩ hQ
    · exact k_M_readUnit_b24 I (zk_f0 _) ⟨by omega, by omega⟩ hQ
-- SpoutNewsModel.isSign(I)Z
set_option maxRecDepth 100000 in
set_option maxHeartbeats 400000 in
theorem k_M_isSign {l1 : Int} {g : zi_M} {Q : Int → zi_M → Prop} (I : zk_I g) (p1 : 40 ≤ l1 ∧ l1 ≤ 62) (hQ : ∀ v : Int, (¬ (g 214 16) = 4 → v = 0) → ((g 214 16) = 4 → ¬ (g 214 17) = l1 → v = 0) → ((g 214 16) = 4 → (g 214 17) = l1 → v = 1) → Q v g) : w_M_isSign l1 g Q := by
  unfold w_M_isSign
  have m_1 : 0 ≤ (g 214 16) ∧ (g 214 16) ≤ 4 := I 214 16
  refine ⟨⟨by omega, by omega⟩, ?_⟩
  refine ⟨fun c5 => ?_, fun c5 => ?_⟩
  · have m_2 : (-1) ≤ (g 214 17) ∧ (g 214 17) ≤ 100000 := I 214 17
    exact hQ _ (by intros; omega) (by intros; omega) (by intros; omega)
  · have m_3 : (-1) ≤ (g 214 17) ∧ (g 214 17) ≤ 100000 := I 214 17
    refine ⟨⟨by omega, by omega⟩, ⟨by omega, by omega⟩, ?_⟩
    refine ⟨fun c4 => ?_, fun c4 => ?_⟩
    · exact hQ _ (by intros; omega) (by intros; omega) (by intros; omega)
    · exact hQ _ (by intros; omega) (by intros; omega) (by intros; omega)
-- SpoutNewsModel.readProduct()I
def fr_M_readProduct (a : Nat) (i : Int) : Prop := a = 229 ∨ a = 230 ∨ (a = 214 ∧ i = 14) ∨ (a = 214 ∧ i = 15) ∨ (a = 214 ∧ i = 16) ∨ (a = 214 ∧ i = 17) ∨ (a = 214 ∧ i = 27) ∨ (a = 214 ∧ i = 31) ∨ (a = 214 ∧ i = 32)
set_option maxRecDepth 100000 in
set_option maxHeartbeats 400000 in
theorem k_M_readProduct {g : zi_M} {Q : Int → zi_M → Prop} (I : zk_I g) (hQ : ∀ (v : Int) (g' : zi_M), zk_I g' → zk_fr fr_M_readProduct g g' → ((-1) ≤ v ∧ v ≤ 0) → Q v g') : w_M_readProduct g Q := by
  sorry
-- SpoutNewsModel.readSum()I
def fr_M_readSum (a : Nat) (i : Int) : Prop := a = 229 ∨ a = 230 ∨ (a = 214 ∧ i = 14) ∨ (a = 214 ∧ i = 15) ∨ (a = 214 ∧ i = 16) ∨ (a = 214 ∧ i = 17) ∨ (a = 214 ∧ i = 27) ∨ (a = 214 ∧ i = 31) ∨ (a = 214 ∧ i = 32)
set_option maxRecDepth 100000 in
set_option maxHeartbeats 400000 in
theorem k_M_readSum {g : zi_M} {Q : Int → zi_M → Prop} (I : zk_I g) (hQ : ∀ (v : Int) (g' : zi_M), zk_I g' → zk_fr fr_M_readSum g g' → ((-1) ≤ v ∧ v ≤ 0) → Q v g') : w_M_readSum g Q := by
  sorry
-- SpoutNewsModel.isWord(I)Z
set_option maxRecDepth 100000 in
set_option maxHeartbeats 400000 in
theorem k_M_isWord {l1 : Int} {g : zi_M} {Q : Int → zi_M → Prop} (I : zk_I g) (p1 : 3 ≤ l1 ∧ l1 ≤ 20) (hQ : ∀ v : Int, (¬ (g 214 16) = 2 → v = 0) → ((g 214 16) = 2 → ¬ (g 214 17) = l1 → v = 0) → ((g 214 16) = 2 → (g 214 17) = l1 → v = 1) → Q v g) : w_M_isWord l1 g Q := by
  unfold w_M_isWord
  have m_1 : 0 ≤ (g 214 16) ∧ (g 214 16) ≤ 4 := I 214 16
  refine ⟨⟨by omega, by omega⟩, ?_⟩
  refine ⟨fun c5 => ?_, fun c5 => ?_⟩
  · have m_2 : (-1) ≤ (g 214 17) ∧ (g 214 17) ≤ 100000 := I 214 17
    exact hQ _ (by intros; omega) (by intros; omega) (by intros; omega)
  · have m_3 : (-1) ≤ (g 214 17) ∧ (g 214 17) ≤ 100000 := I 214 17
    refine ⟨⟨by omega, by omega⟩, ⟨by omega, by omega⟩, ?_⟩
    refine ⟨fun c4 => ?_, fun c4 => ?_⟩
    · exact hQ _ (by intros; omega) (by intros; omega) (by intros; omega)
    · exact hQ _ (by intros; omega) (by intros; omega) (by intros; omega)
-- SpoutNewsModel.settles(I)V
def fr_M_settles (a : Nat) (i : Int) : Prop := a = 229 ∨ a = 230 ∨ (a = 214 ∧ i = 27) ∨ (a = 214 ∧ i = 28) ∨ (a = 214 ∧ i = 30)
set_option maxRecDepth 100000 in
set_option maxHeartbeats 400000 in
theorem k_M_settles {l1 : Int} {g : zi_M} {Q : Int → zi_M → Prop} (I : zk_I g) (p1 : 9 ≤ l1 ∧ l1 ≤ 11) (hQ : ∀ g' : zi_M, zk_I g' → zk_fr fr_M_settles g g' → Q 0 g') : w_M_settles l1 g Q := by
  sorry
-- SpoutNewsModel.waits(I)V
def fr_M_waits (a : Nat) (i : Int) : Prop := a = 231 ∨ (a = 214 ∧ i = 30)
set_option maxRecDepth 100000 in
set_option maxHeartbeats 400000 in
theorem k_M_waits {l1 : Int} {g : zi_M} {Q : Int → zi_M → Prop} (I : zk_I g) (p1 : 9 ≤ l1 ∧ l1 ≤ 12) (hQ : ∀ g' : zi_M, zk_I g' → zk_fr fr_M_waits g g' → Q 0 g') : w_M_waits l1 g Q := by
  unfold w_M_waits
  have m_4 : 0 ≤ (g 214 30) ∧ (g 214 30) ≤ 40 := I 214 30
  refine ⟨⟨by omega, by omega⟩, ?_⟩
  intro g2 e_1
  have I_2 : zk_I g2 := by rw [e_1]; exact zk_upd (L := (-2147483648)) (H := 2147483647) rfl rfl I ⟨by omega, by omega⟩
  have F_3 : zk_fr fr_M_waits g g2 := by rw [e_1]; exact zk_fu (zk_f0 _) (by unfold fr_M_waits; omega)
  have m_8 : 0 ≤ (g2 214 30) ∧ (g2 214 30) ≤ 40 := I_2 214 30
  have m_9 : g2 214 30 = g 214 30 := by rw [e_1]; exact zi_u_ne (by decide)
  intro g3 e_5
  have I_6 : zk_I g3 := by rw [e_5]; exact zk_upd (L := 0) (H := 40) rfl rfl I_2 ⟨by omega, by omega⟩
  have F_7 : zk_fr fr_M_waits g g3 := by rw [e_5]; exact zk_fu F_3 (by unfold fr_M_waits; omega)
  exact hQ _ I_6 F_7
-- SpoutNewsModel.readCompared()I
def fr_M_readCompared (a : Nat) (i : Int) : Prop := a = 229 ∨ a = 230 ∨ (a = 214 ∧ i = 14) ∨ (a = 214 ∧ i = 15) ∨ (a = 214 ∧ i = 16) ∨ (a = 214 ∧ i = 17) ∨ (a = 214 ∧ i = 27) ∨ (a = 214 ∧ i = 31) ∨ (a = 214 ∧ i = 32)
set_option maxRecDepth 100000 in
set_option maxHeartbeats 400000 in
theorem k_M_readCompared_b73 {s0 : Int} {Q : Int → zi_M → Prop} {g : zi_M} {g0 : zi_M} (I : zk_I g) (F : zk_fr fr_M_readCompared g0 g) (ps0 : 6 ≤ s0 ∧ s0 ≤ 8) (hQ : ∀ (v : Int) (g' : zi_M), zk_I g' → zk_fr fr_M_readCompared g0 g' → ((-1) ≤ v ∧ v ≤ 0) → Q v g') : w_M_readCompared_b73 s0 g Q := by
  unfold w_M_readCompared_b73
  refine k_M_reads I (fun g10 I_11 F_12 => ?_)
  have F_13 : zk_fr fr_M_readCompared g0 g10 := zk_ft F F_12 (by intro a i h; unfold fr_M_reads at h; unfold fr_M_readCompared; omega)
  refine k_M_readSum I_11 (fun v12 g13 I_15 F_16 b_14 => ?_)
  have F_17 : zk_fr fr_M_readCompared g0 g13 := zk_ft F_13 F_16 (by intro a i h; unfold fr_M_readSum at h; unfold fr_M_readCompared; omega)
  refine ⟨⟨by omega, by omega⟩, ?_⟩
  refine ⟨fun c19 => ?_, fun c19 => ?_⟩
  · refine k_M_emits I_15 ⟨by omega, by omega⟩ ⟨by omega, by omega⟩ (fun g17 I_18 F_19 => ?_)
    have F_20 : zk_fr fr_M_readCompared g0 g17 := zk_ft F_17 F_19 (by intro a i h; unfold fr_M_emits at h; unfold fr_M_readCompared; omega)
    exact hQ _ _ I_18 F_20 ⟨by omega, by omega⟩
  · exact hQ _ _ I_15 F_17 ⟨by omega, by omega⟩
set_option maxRecDepth 100000 in
set_option maxHeartbeats 400000 in
theorem k_M_readCompared_b43 {Q : Int → zi_M → Prop} {g : zi_M} {g0 : zi_M} (I : zk_I g) (F : zk_fr fr_M_readCompared g0 g) (hQ : ∀ (v : Int) (g' : zi_M), zk_I g' → zk_fr fr_M_readCompared g0 g' → ((-1) ≤ v ∧ v ≤ 0) → Q v g') : w_M_readCompared_b43 g Q := by
  unfold w_M_readCompared_b43
  have m_10 : (-1) ≤ (g 214 17) ∧ (g 214 17) ≤ 100000 := I 214 17
  refine ⟨⟨by omega, by omega⟩, ?_⟩
  refine ⟨fun c21 => ?_, fun c21 => ?_⟩
  · refine ⟨fun c20 => ?_, fun c20 => ?_⟩
    · exact k_M_readCompared_b73 I F ⟨by omega, by omega⟩ hQ
    · exact k_M_readCompared_b73 I F ⟨by omega, by omega⟩ hQ
  · exact k_M_readCompared_b73 I F ⟨by omega, by omega⟩ hQ
set_option maxRecDepth 100000 in
set_option maxHeartbeats 400000 in
theorem k_M_readCompared {g : zi_M} {Q : Int → zi_M → Prop} (I : zk_I g) (hQ : ∀ (v : Int) (g' : zi_M), zk_I g' → zk_fr fr_M_readCompared g g' → ((-1) ≤ v ∧ v ≤ 0) → Q v g') : w_M_readCompared g Q := by
  unfold w_M_readCompared
  refine k_M_readSum I (fun v1 g2 I_2 F_3 b_1 => ?_)
  have F_4 : zk_fr fr_M_readCompared g g2 := zk_ft (zk_f0 _) F_3 (by intro a i h; unfold fr_M_readSum at h; unfold fr_M_readCompared; omega)
  refine ⟨⟨by omega, by omega⟩, ?_⟩
  refine ⟨fun c34 => ?_, fun c34 => ?_⟩
  · have m_8 : 0 ≤ (g2 214 16) ∧ (g2 214 16) ≤ 4 := I_2 214 16
    have m_9 : (-1) ≤ (g2 214 17) ∧ (g2 214 17) ≤ 100000 := I_2 214 17
    refine k_M_isSign I_2 ⟨by omega, by omega⟩ (fun v5 b_5 b_6 b_7 => ?_)
    refine ⟨fun c33 => ?_, fun c33 => ?_⟩
    · exact k_M_readCompared_b43 I_2 F_4 hQ
    · refine k_M_isSign I_2 ⟨by omega, by omega⟩ (fun v22 b_21 b_22 b_23 => ?_)
      refine ⟨fun c32 => ?_, fun c32 => ?_⟩
      · exact k_M_readCompared_b43 I_2 F_4 hQ
      · refine k_M_isSign I_2 ⟨by omega, by omega⟩ (fun v25 b_24 b_25 b_26 => ?_)
        refine ⟨fun c31 => ?_, fun c31 => ?_⟩
        · exact k_M_readCompared_b43 I_2 F_4 hQ
        · refine k_M_errs I_2 ⟨by omega, by omega⟩ (fun v28 g29 I_28 F_29 b_27 => ?_)
          have F_30 : zk_fr fr_M_readCompared g g29 := zk_ft F_4 F_29 (by intro a i h; unfold fr_M_errs at h; unfold fr_M_readCompared; omega)
          exact hQ _ _ I_28 F_30 ⟨by omega, by omega⟩
  · exact hQ _ _ I_2 F_4 ⟨by omega, by omega⟩
-- SpoutNewsModel.readAny()I
def fr_M_readAny (a : Nat) (i : Int) : Prop := a = 229 ∨ a = 230 ∨ a = 231 ∨ (a = 214 ∧ i = 14) ∨ (a = 214 ∧ i = 15) ∨ (a = 214 ∧ i = 16) ∨ (a = 214 ∧ i = 17) ∨ (a = 214 ∧ i = 27) ∨ (a = 214 ∧ i = 28) ∨ (a = 214 ∧ i = 30) ∨ (a = 214 ∧ i = 31) ∨ (a = 214 ∧ i = 32)
set_option maxRecDepth 100000 in
set_option maxHeartbeats 400000 in
theorem k_M_readAny {g : zi_M} {Q : Int → zi_M → Prop} (I : zk_I g) (hQ : ∀ (v : Int) (g' : zi_M), zk_I g' → zk_fr fr_M_readAny g g' → ((-1) ≤ v ∧ v ≤ 0) → Q v g') : w_M_readAny g Q := by
  sorry
-- SpoutNewsModel.readLaw()I
def fr_M_readLaw (a : Nat) (i : Int) : Prop := a = 225 ∨ a = 226 ∨ a = 227 ∨ a = 228 ∨ a = 229 ∨ a = 230 ∨ a = 231 ∨ (a = 214 ∧ i = 14) ∨ (a = 214 ∧ i = 15) ∨ (a = 214 ∧ i = 16) ∨ (a = 214 ∧ i = 17) ∨ (a = 214 ∧ i = 27) ∨ (a = 214 ∧ i = 28) ∨ (a = 214 ∧ i = 30) ∨ (a = 214 ∧ i = 31) ∨ (a = 214 ∧ i = 32)
set_option maxRecDepth 100000 in
set_option maxHeartbeats 400000 in
theorem k_M_readLaw {g : zi_M} {Q : Int → zi_M → Prop} (I : zk_I g) (hQ : ∀ (v : Int) (g' : zi_M), zk_I g' → zk_fr fr_M_readLaw g g' → ((-1) ≤ v ∧ v ≤ 16) → Q v g') : w_M_readLaw g Q := by
  sorry
-- SpoutNewsModel.readNumber(II)I
def fr_M_readNumber (a : Nat) (i : Int) : Prop := (a = 214 ∧ i = 14) ∨ (a = 214 ∧ i = 15) ∨ (a = 214 ∧ i = 16) ∨ (a = 214 ∧ i = 17) ∨ (a = 214 ∧ i = 31) ∨ (a = 214 ∧ i = 32)
set_option maxRecDepth 100000 in
set_option maxHeartbeats 400000 in
theorem k_M_readNumber {l1 : Int} {l2 : Int} {g : zi_M} {Q : Int → zi_M → Prop} (I : zk_I g) (p1 : 0 ≤ l1 ∧ l1 ≤ 0) (p2 : (-1) ≤ l2 ∧ l2 ≤ 999) (hQ : ∀ (v : Int) (g' : zi_M), zk_I g' → zk_fr fr_M_readNumber g g' → ((-1) ≤ v ∧ v ≤ 100000) → Q v g') : w_M_readNumber l1 l2 g Q := by
  unfold w_M_readNumber
  have m_1 : 0 ≤ (g 214 16) ∧ (g 214 16) ≤ 4 := I 214 16
  refine ⟨⟨by omega, by omega⟩, ?_⟩
  refine ⟨fun c15 => ?_, fun c15 => ?_⟩
  · have m_2 : (-1) ≤ (g 214 17) ∧ (g 214 17) ≤ 100000 := I 214 17
    refine k_M_isIn I ⟨by omega, by omega⟩ ⟨by omega, by omega⟩ ⟨by omega, by omega⟩ (fun v2 b_3 b_4 b_5 => ?_)
    refine ⟨fun c11 => ?_, fun c11 => ?_⟩
    · refine k_M_reads I (fun g6 I_6 F_7 => ?_)
      have F_8 : zk_fr fr_M_readNumber g g6 := zk_ft (zk_f0 _) F_7 (by intro a i h; unfold fr_M_reads at h; unfold fr_M_readNumber; omega)
      exact hQ _ _ I_6 F_8 ⟨by omega, by omega⟩
    · refine k_M_errs I ⟨by omega, by omega⟩ (fun v8 g9 I_10 F_11 b_9 => ?_)
      have F_12 : zk_fr fr_M_readNumber g g9 := zk_ft (zk_f0 _) F_11 (by intro a i h; unfold fr_M_errs at h; unfold fr_M_readNumber; omega)
      exact hQ _ _ I_10 F_12 ⟨by omega, by omega⟩
  · refine k_M_errs I ⟨by omega, by omega⟩ (fun v12 g13 I_14 F_15 b_13 => ?_)
    have F_16 : zk_fr fr_M_readNumber g g13 := zk_ft (zk_f0 _) F_15 (by intro a i h; unfold fr_M_errs at h; unfold fr_M_readNumber; omega)
    exact hQ _ _ I_14 F_16 ⟨by omega, by omega⟩
-- SpoutNewsModel.readTold(III)I
def fr_M_readTold (a : Nat) (i : Int) : Prop := (a = 214 ∧ i = 14) ∨ (a = 214 ∧ i = 15) ∨ (a = 214 ∧ i = 16) ∨ (a = 214 ∧ i = 17) ∨ (a = 214 ∧ i = 31) ∨ (a = 214 ∧ i = 32)
set_option maxRecDepth 100000 in
set_option maxHeartbeats 400000 in
theorem k_M_readTold {l1 : Int} {l2 : Int} {l3 : Int} {g : zi_M} {Q : Int → zi_M → Prop} (I : zk_I g) (p1 : 11 ≤ l1 ∧ l1 ≤ 20) (p2 : 0 ≤ l2 ∧ l2 ≤ 0) (p3 : (-1) ≤ l3 ∧ l3 ≤ 999) (hQ : ∀ (v : Int) (g' : zi_M), zk_I g' → zk_fr fr_M_readTold g g' → ((-1) ≤ v ∧ v ≤ 100000) → Q v g') : w_M_readTold l1 l2 l3 g Q := by
  unfold w_M_readTold
  have m_4 : 0 ≤ (g 214 16) ∧ (g 214 16) ≤ 4 := I 214 16
  have m_5 : (-1) ≤ (g 214 17) ∧ (g 214 17) ≤ 100000 := I 214 17
  refine k_M_isWord I ⟨by omega, by omega⟩ (fun v1 b_1 b_2 b_3 => ?_)
  refine ⟨fun c13 => ?_, fun c13 => ?_⟩
  · refine k_M_reads I (fun g5 I_6 F_7 => ?_)
    have F_8 : zk_fr fr_M_readTold g g5 := zk_ft (zk_f0 _) F_7 (by intro a i h; unfold fr_M_reads at h; unfold fr_M_readTold; omega)
    refine k_M_readNumber I_6 ⟨by omega, by omega⟩ ⟨by omega, by omega⟩ (fun v7 g8 I_10 F_11 b_9 => ?_)
    have F_12 : zk_fr fr_M_readTold g g8 := zk_ft F_8 F_11 (by intro a i h; unfold fr_M_readNumber at h; unfold fr_M_readTold; omega)
    exact hQ _ _ I_10 F_12 ⟨by omega, by omega⟩
  · refine k_M_errs I ⟨by omega, by omega⟩ (fun v10 g11 I_14 F_15 b_13 => ?_)
    have F_16 : zk_fr fr_M_readTold g g11 := zk_ft (zk_f0 _) F_15 (by intro a i h; unfold fr_M_errs at h; unfold fr_M_readTold; omega)
    exact hQ _ _ I_14 F_16 ⟨by omega, by omega⟩
-- SpoutNewsModel.kindOfDeed()I
set_option maxRecDepth 100000 in
set_option maxHeartbeats 400000 in
theorem k_M_kindOfDeed {g : zi_M} {Q : Int → zi_M → Prop} (I : zk_I g) (hQ : ∀ v : Int, (¬ (g 214 16) = 2 → ¬ (g 214 16) = 2 → v = (-1)) → (¬ (g 214 16) = 2 → (g 214 16) = 2 → (g 214 17) < 21 → v = (-1)) → (¬ (g 214 16) = 2 → (g 214 16) = 2 → 21 ≤ (g 214 17) → 26 < (g 214 17) → v = (-1)) → (¬ (g 214 16) = 2 → (g 214 16) = 2 → 21 ≤ (g 214 17) → (g 214 17) ≤ 26 → v = (1 + (g 214 17)) - 21) → ((g 214 16) = 2 → ¬ (g 214 17) = 19 → ¬ (g 214 16) = 2 → v = (-1)) → ((g 214 16) = 2 → ¬ (g 214 17) = 19 → (g 214 16) = 2 → (g 214 17) < 21 → v = (-1)) → ((g 214 16) = 2 → ¬ (g 214 17) = 19 → (g 214 16) = 2 → 21 ≤ (g 214 17) → 26 < (g 214 17) → v = (-1)) → ((g 214 16) = 2 → ¬ (g 214 17) = 19 → (g 214 16) = 2 → 21 ≤ (g 214 17) → (g 214 17) ≤ 26 → v = (1 + (g 214 17)) - 21) → ((g 214 16) = 2 → (g 214 17) = 19 → v = 0) → Q v g) : w_M_kindOfDeed g Q := by
  unfold w_M_kindOfDeed
  have m_4 : 0 ≤ (g 214 16) ∧ (g 214 16) ≤ 4 := I 214 16
  have m_5 : (-1) ≤ (g 214 17) ∧ (g 214 17) ≤ 100000 := I 214 17
  refine k_M_isWord I ⟨by omega, by omega⟩ (fun v1 b_1 b_2 b_3 => ?_)
  refine ⟨fun c10 => ?_, fun c10 => ?_⟩
  · refine ⟨⟨by omega, by omega⟩, ?_⟩
    refine ⟨fun c9 => ?_, fun c9 => ?_⟩
    · exact hQ _ (by intros; omega) (by intros; omega) (by intros; omega) (by intros; omega) (by intros; omega) (by intros; omega) (by intros; omega) (by intros; omega) (by intros; omega)
    · refine k_M_isIn I ⟨by omega, by omega⟩ ⟨by omega, by omega⟩ ⟨by omega, by omega⟩ (fun v5 b_6 b_7 b_8 => ?_)
      refine ⟨fun c8 => ?_, fun c8 => ?_⟩
      · exact hQ _ (by intros; omega) (by intros; omega) (by intros; omega) (by intros; omega) (by intros; omega) (by intros; omega) (by intros; omega) (by intros; omega) (by intros; omega)
      · exact hQ _ (by intros; omega) (by intros; omega) (by intros; omega) (by intros; omega) (by intros; omega) (by intros; omega) (by intros; omega) (by intros; omega) (by intros; omega)
  · exact hQ _ (by intros; omega) (by intros; omega) (by intros; omega) (by intros; omega) (by intros; omega) (by intros; omega) (by intros; omega) (by intros; omega) (by intros; omega)
-- SpoutNewsModel.mostFor(I)I
set_option maxRecDepth 100000 in
set_option maxHeartbeats 400000 in
theorem k_M_mostFor {l1 : Int} {g : zi_M} {Q : Int → zi_M → Prop} (I : zk_I g) (p1 : (-21) ≤ l1 ∧ l1 ≤ 99980) (hQ : ∀ v : Int, (¬ l1 = 2 → l1 < 3 → v = (g 214 7) - 1) → (¬ l1 = 2 → 3 ≤ l1 → 5 < l1 → v = (g 214 7) - 1) → (¬ l1 = 2 → 3 ≤ l1 → l1 ≤ 5 → v = (g 214 6) - 1) → (l1 = 2 → v = 5) → Q v g) : w_M_mostFor l1 g Q := by
  unfold w_M_mostFor
  refine ⟨⟨by omega, by omega⟩, ?_⟩
  refine ⟨fun c4 => ?_, fun c4 => ?_⟩
  · refine ⟨fun c3 => ?_, fun c3 => ?_⟩
    · have m_1 : 0 ≤ (g 214 7) ∧ (g 214 7) ≤ 8 := I 214 7
      have m_2 : 0 ≤ (g 214 6) ∧ (g 214 6) ≤ 10 := I 214 6
      exact hQ _ (by intros; omega) (by intros; omega) (by intros; omega) (by intros; omega)
    · refine ⟨fun c2 => ?_, fun c2 => ?_⟩
      · have m_3 : 0 ≤ (g 214 7) ∧ (g 214 7) ≤ 8 := I 214 7
        have m_4 : 0 ≤ (g 214 6) ∧ (g 214 6) ≤ 10 := I 214 6
        exact hQ _ (by intros; omega) (by intros; omega) (by intros; omega) (by intros; omega)
      · have m_5 : 0 ≤ (g 214 6) ∧ (g 214 6) ≤ 10 := I 214 6
        have m_6 : 0 ≤ (g 214 7) ∧ (g 214 7) ≤ 8 := I 214 7
        exact hQ _ (by intros; omega) (by intros; omega) (by intros; omega) (by intros; omega)
  · have m_7 : 0 ≤ (g 214 7) ∧ (g 214 7) ≤ 8 := I 214 7
    have m_8 : 0 ≤ (g 214 6) ∧ (g 214 6) ≤ 10 := I 214 6
    exact hQ _ (by intros; omega) (by intros; omega) (by intros; omega) (by intros; omega)
-- SpoutNewsModel.readMark(I)I
def fr_M_readMark (a : Nat) (i : Int) : Prop := (a = 214 ∧ i = 14) ∨ (a = 214 ∧ i = 15) ∨ (a = 214 ∧ i = 16) ∨ (a = 214 ∧ i = 17) ∨ (a = 214 ∧ i = 31) ∨ (a = 214 ∧ i = 32)
set_option maxRecDepth 100000 in
set_option maxHeartbeats 400000 in
theorem k_M_readMark {l1 : Int} {g : zi_M} {Q : Int → zi_M → Prop} (I : zk_I g) (p1 : 59 ≤ l1 ∧ l1 ≤ 59) (hQ : ∀ (v : Int) (g' : zi_M), zk_I g' → zk_fr fr_M_readMark g g' → ((-1) ≤ v ∧ v ≤ 0) → Q v g') : w_M_readMark l1 g Q := by
  unfold w_M_readMark
  have m_4 : 0 ≤ (g 214 16) ∧ (g 214 16) ≤ 4 := I 214 16
  have m_5 : (-1) ≤ (g 214 17) ∧ (g 214 17) ≤ 100000 := I 214 17
  refine k_M_isSign I ⟨by omega, by omega⟩ (fun v1 b_1 b_2 b_3 => ?_)
  refine ⟨fun c10 => ?_, fun c10 => ?_⟩
  · refine k_M_reads I (fun g5 I_6 F_7 => ?_)
    have F_8 : zk_fr fr_M_readMark g g5 := zk_ft (zk_f0 _) F_7 (by intro a i h; unfold fr_M_reads at h; unfold fr_M_readMark; omega)
    exact hQ _ _ I_6 F_8 ⟨by omega, by omega⟩
  · refine k_M_errs I ⟨by omega, by omega⟩ (fun v7 g8 I_10 F_11 b_9 => ?_)
    have F_12 : zk_fr fr_M_readMark g g8 := zk_ft (zk_f0 _) F_11 (by intro a i h; unfold fr_M_errs at h; unfold fr_M_readMark; omega)
    exact hQ _ _ I_10 F_12 ⟨by omega, by omega⟩
-- SpoutNewsModel.readDeed(I)I
def fr_M_readDeed (a : Nat) (i : Int) : Prop := a = 234 ∨ (a = 214 ∧ i = 14) ∨ (a = 214 ∧ i = 15) ∨ (a = 214 ∧ i = 16) ∨ (a = 214 ∧ i = 17) ∨ (a = 214 ∧ i = 31) ∨ (a = 214 ∧ i = 32)
set_option maxRecDepth 100000 in
set_option maxHeartbeats 400000 in
theorem k_M_readDeed {l1 : Int} {g : zi_M} {Q : Int → zi_M → Prop} (I : zk_I g) (p1 : 64 ≤ l1) (hQ : ∀ (v : Int) (g' : zi_M), zk_I g' → zk_fr fr_M_readDeed g g' → ((-1) ≤ v ∧ v ≤ 0) → Q v g') : w_M_readDeed l1 g Q := by
  unfold w_M_readDeed
  refine k_M_readTold I ⟨by omega, by omega⟩ ⟨by omega, by omega⟩ ⟨by omega, by omega⟩ (fun v1 g2 I_2 F_3 b_1 => ?_)
  have F_4 : zk_fr fr_M_readDeed g g2 := zk_ft (zk_f0 _) F_3 (by intro a i h; unfold fr_M_readTold at h; unfold fr_M_readDeed; omega)
  refine ⟨⟨by omega, by omega⟩, ?_⟩
  intro g5 e_5
  have I_6 : zk_I g5 := by rw [e_5]; exact zk_upd (L := (-2147483648)) (H := 2147483647) rfl rfl I_2 ⟨by omega, by omega⟩
  have F_7 : zk_fr fr_M_readDeed g g5 := by rw [e_5]; exact zk_fu F_4 (by unfold fr_M_readDeed; omega)
  have m_8 : (-2147483648) ≤ (g5 234 l1) ∧ (g5 234 l1) ≤ 2147483647 := I_6 234 l1
  have m_9 : g5 234 l1 = v1 := by rw [e_5]; exact zi_u_eq
  refine ⟨⟨by omega, by omega⟩, ?_⟩
  refine ⟨fun c70 => ?_, fun c70 => ?_⟩
  · have m_19 : 0 ≤ (g5 214 16) ∧ (g5 214 16) ≤ 4 := I_6 214 16
    have m_20 : g5 214 16 = g2 214 16 := by rw [e_5]; exact zi_u_ne (by decide)
    have m_21 : 0 ≤ (g2 214 16) ∧ (g2 214 16) ≤ 4 := I_2 214 16
    have m_22 : (-1) ≤ (g5 214 17) ∧ (g5 214 17) ≤ 100000 := I_6 214 17
    have m_23 : g5 214 17 = g2 214 17 := by rw [e_5]; exact zi_u_ne (by decide)
    have m_24 : (-1) ≤ (g2 214 17) ∧ (g2 214 17) ≤ 100000 := I_2 214 17
    refine k_M_kindOfDeed I_6 (fun v7 b_10 b_11 b_12 b_13 b_14 b_15 b_16 b_17 b_18 => ?_)
    refine ⟨⟨by omega, by omega⟩, ?_⟩
    refine ⟨fun c69 => ?_, fun c69 => ?_⟩
    · refine k_M_reads I_6 (fun g12 I_25 F_26 => ?_)
      have F_27 : zk_fr fr_M_readDeed g g12 := zk_ft F_7 F_26 (by intro a i h; unfold fr_M_reads at h; unfold fr_M_readDeed; omega)
      refine ⟨⟨by omega, by omega⟩, ?_⟩
      intro g15 e_28
      have I_29 : zk_I g15 := by rw [e_28]; exact zk_upd (L := (-2147483648)) (H := 2147483647) rfl rfl I_25 ⟨by omega, by omega⟩
      have F_30 : zk_fr fr_M_readDeed g g15 := by rw [e_28]; exact zk_fu F_27 (by unfold fr_M_readDeed; omega)
      have m_35 : 0 ≤ (g15 214 7) ∧ (g15 214 7) ≤ 8 := I_29 214 7
      have m_36 : g15 214 7 = g12 214 7 := by rw [e_28]; exact zi_u_ne (by decide)
      have m_37 : 0 ≤ (g12 214 7) ∧ (g12 214 7) ≤ 8 := I_25 214 7
      have m_38 : g12 214 7 = g5 214 7 := F_26 _ _ (by unfold fr_M_reads; omega)
      have m_39 : 0 ≤ (g5 214 7) ∧ (g5 214 7) ≤ 8 := I_6 214 7
      have m_40 : g5 214 7 = g2 214 7 := by rw [e_5]; exact zi_u_ne (by decide)
      have m_41 : 0 ≤ (g2 214 7) ∧ (g2 214 7) ≤ 8 := I_2 214 7
      have m_42 : g2 214 7 = g 214 7 := F_3 _ _ (by unfold fr_M_readTold; omega)
      have m_43 : 0 ≤ (g 214 7) ∧ (g 214 7) ≤ 8 := I 214 7
      have m_44 : 0 ≤ (g15 214 6) ∧ (g15 214 6) ≤ 10 := I_29 214 6
      have m_45 : g15 214 6 = g12 214 6 := by rw [e_28]; exact zi_u_ne (by decide)
      have m_46 : 0 ≤ (g12 214 6) ∧ (g12 214 6) ≤ 10 := I_25 214 6
      have m_47 : g12 214 6 = g5 214 6 := F_26 _ _ (by unfold fr_M_reads; omega)
      have m_48 : 0 ≤ (g5 214 6) ∧ (g5 214 6) ≤ 10 := I_6 214 6
      have m_49 : g5 214 6 = g2 214 6 := by rw [e_5]; exact zi_u_ne (by decide)
      have m_50 : 0 ≤ (g2 214 6) ∧ (g2 214 6) ≤ 10 := I_2 214 6
      have m_51 : g2 214 6 = g 214 6 := F_3 _ _ (by unfold fr_M_readTold; omega)
      have m_52 : 0 ≤ (g 214 6) ∧ (g 214 6) ≤ 10 := I 214 6
      refine k_M_mostFor I_29 ⟨by omega, by omega⟩ (fun v16 b_31 b_32 b_33 b_34 => ?_)
      refine k_M_readNumber I_29 ⟨by omega, by omega⟩ ⟨by omega, by omega⟩ (fun v19 g20 I_54 F_55 b_53 => ?_)
      have F_56 : zk_fr fr_M_readDeed g g20 := zk_ft F_30 F_55 (by intro a i h; unfold fr_M_readNumber at h; unfold fr_M_readDeed; omega)
      refine ⟨⟨by omega, by omega⟩, ?_⟩
      intro g23 e_57
      have I_58 : zk_I g23 := by rw [e_57]; exact zk_upd (L := (-2147483648)) (H := 2147483647) rfl rfl I_54 ⟨by omega, by omega⟩
      have F_59 : zk_fr fr_M_readDeed g g23 := by rw [e_57]; exact zk_fu F_56 (by unfold fr_M_readDeed; omega)
      have m_60 : (-2147483648) ≤ (g23 234 (l1 + 2)) ∧ (g23 234 (l1 + 2)) ≤ 2147483647 := I_58 234 (l1 + 2)
      have m_61 : g23 234 (l1 + 2) = v19 := by rw [e_57]; exact zi_u_eq
      refine ⟨⟨by omega, by omega⟩, ?_⟩
      refine ⟨fun c65 => ?_, fun c65 => ?_⟩
      · refine ⟨fun c64 => ?_, fun c64 => ?_⟩
        · have m_62 : 0 ≤ (g23 214 6) ∧ (g23 214 6) ≤ 10 := I_58 214 6
          have m_63 : g23 214 6 = g20 214 6 := by rw [e_57]; exact zi_u_ne (by decide)
          have m_64 : 0 ≤ (g20 214 6) ∧ (g20 214 6) ≤ 10 := I_54 214 6
          have m_65 : g20 214 6 = g15 214 6 := F_55 _ _ (by unfold fr_M_readNumber; omega)
          refine k_M_readTold I_58 ⟨by omega, by omega⟩ ⟨by omega, by omega⟩ ⟨by omega, by omega⟩ (fun v25 g26 I_67 F_68 b_66 => ?_)
          have F_69 : zk_fr fr_M_readDeed g g26 := zk_ft F_59 F_68 (by intro a i h; unfold fr_M_readTold at h; unfold fr_M_readDeed; omega)
          refine ⟨⟨by omega, by omega⟩, ?_⟩
          intro g29 e_70
          have I_71 : zk_I g29 := by rw [e_70]; exact zk_upd (L := (-2147483648)) (H := 2147483647) rfl rfl I_67 ⟨by omega, by omega⟩
          have F_72 : zk_fr fr_M_readDeed g g29 := by rw [e_70]; exact zk_fu F_69 (by unfold fr_M_readDeed; omega)
          have m_73 : (-2147483648) ≤ (g29 234 (l1 + 3)) ∧ (g29 234 (l1 + 3)) ≤ 2147483647 := I_71 234 (l1 + 3)
          have m_74 : g29 234 (l1 + 3) = v25 := by rw [e_70]; exact zi_u_eq
          refine ⟨⟨by omega, by omega⟩, ?_⟩
          refine ⟨fun c34 => ?_, fun c34 => ?_⟩
          · refine k_M_readMark I_71 ⟨by omega, by omega⟩ (fun v31 g32 I_76 F_77 b_75 => ?_)
            have F_78 : zk_fr fr_M_readDeed g g32 := zk_ft F_72 F_77 (by intro a i h; unfold fr_M_readMark at h; unfold fr_M_readDeed; omega)
            exact hQ _ _ I_76 F_78 ⟨by omega, by omega⟩
          · exact hQ _ _ I_71 F_72 ⟨by omega, by omega⟩
        · refine ⟨fun c63 => ?_, fun c63 => ?_⟩
          · refine ⟨fun c52 => ?_, fun c52 => ?_⟩
            · refine ⟨⟨by omega, by omega⟩, ?_⟩
              intro g36 e_79
              have I_80 : zk_I g36 := by rw [e_79]; exact zk_upd (L := (-2147483648)) (H := 2147483647) rfl rfl I_58 ⟨by omega, by omega⟩
              have F_81 : zk_fr fr_M_readDeed g g36 := by rw [e_79]; exact zk_fu F_59 (by unfold fr_M_readDeed; omega)
              have m_82 : (-2147483648) ≤ (g36 234 (l1 + 3)) ∧ (g36 234 (l1 + 3)) ≤ 2147483647 := I_80 234 (l1 + 3)
              have m_83 : g36 234 (l1 + 3) = 0 := by rw [e_79]; exact zi_u_eq
              refine ⟨⟨by omega, by omega⟩, ?_⟩
              refine ⟨fun c41 => ?_, fun c41 => ?_⟩
              · refine k_M_readMark I_80 ⟨by omega, by omega⟩ (fun v38 g39 I_85 F_86 b_84 => ?_)
                have F_87 : zk_fr fr_M_readDeed g g39 := zk_ft F_81 F_86 (by intro a i h; unfold fr_M_readMark at h; unfold fr_M_readDeed; omega)
                exact hQ _ _ I_85 F_87 ⟨by omega, by omega⟩
              · exact hQ _ _ I_80 F_81 ⟨by omega, by omega⟩
            · refine k_M_readNumber I_58 ⟨by omega, by omega⟩ ⟨by omega, by omega⟩ (fun v42 g43 I_89 F_90 b_88 => ?_)
              have F_91 : zk_fr fr_M_readDeed g g43 := zk_ft F_59 F_90 (by intro a i h; unfold fr_M_readNumber at h; unfold fr_M_readDeed; omega)
              refine ⟨⟨by omega, by omega⟩, ?_⟩
              intro g46 e_92
              have I_93 : zk_I g46 := by rw [e_92]; exact zk_upd (L := (-2147483648)) (H := 2147483647) rfl rfl I_89 ⟨by omega, by omega⟩
              have F_94 : zk_fr fr_M_readDeed g g46 := by rw [e_92]; exact zk_fu F_91 (by unfold fr_M_readDeed; omega)
              have m_95 : (-2147483648) ≤ (g46 234 (l1 + 3)) ∧ (g46 234 (l1 + 3)) ≤ 2147483647 := I_93 234 (l1 + 3)
              have m_96 : g46 234 (l1 + 3) = v42 := by rw [e_92]; exact zi_u_eq
              refine ⟨⟨by omega, by omega⟩, ?_⟩
              refine ⟨fun c51 => ?_, fun c51 => ?_⟩
              · refine k_M_readMark I_93 ⟨by omega, by omega⟩ (fun v48 g49 I_98 F_99 b_97 => ?_)
                have F_100 : zk_fr fr_M_readDeed g g49 := zk_ft F_94 F_99 (by intro a i h; unfold fr_M_readMark at h; unfold fr_M_readDeed; omega)
                exact hQ _ _ I_98 F_100 ⟨by omega, by omega⟩
              · exact hQ _ _ I_93 F_94 ⟨by omega, by omega⟩
          · have m_101 : 0 ≤ (g23 214 6) ∧ (g23 214 6) ≤ 10 := I_58 214 6
            have m_102 : g23 214 6 = g20 214 6 := by rw [e_57]; exact zi_u_ne (by decide)
            have m_103 : 0 ≤ (g20 214 6) ∧ (g20 214 6) ≤ 10 := I_54 214 6
            have m_104 : g20 214 6 = g15 214 6 := F_55 _ _ (by unfold fr_M_readNumber; omega)
            refine k_M_readTold I_58 ⟨by omega, by omega⟩ ⟨by omega, by omega⟩ ⟨by omega, by omega⟩ (fun v53 g54 I_106 F_107 b_105 => ?_)
            have F_108 : zk_fr fr_M_readDeed g g54 := zk_ft F_59 F_107 (by intro a i h; unfold fr_M_readTold at h; unfold fr_M_readDeed; omega)
            refine ⟨⟨by omega, by omega⟩, ?_⟩
            intro g57 e_109
            have I_110 : zk_I g57 := by rw [e_109]; exact zk_upd (L := (-2147483648)) (H := 2147483647) rfl rfl I_106 ⟨by omega, by omega⟩
            have F_111 : zk_fr fr_M_readDeed g g57 := by rw [e_109]; exact zk_fu F_108 (by unfold fr_M_readDeed; omega)
            have m_112 : (-2147483648) ≤ (g57 234 (l1 + 3)) ∧ (g57 234 (l1 + 3)) ≤ 2147483647 := I_110 234 (l1 + 3)
            have m_113 : g57 234 (l1 + 3) = v53 := by rw [e_109]; exact zi_u_eq
            refine ⟨⟨by omega, by omega⟩, ?_⟩
            refine ⟨fun c62 => ?_, fun c62 => ?_⟩
            · refine k_M_readMark I_110 ⟨by omega, by omega⟩ (fun v59 g60 I_115 F_116 b_114 => ?_)
              have F_117 : zk_fr fr_M_readDeed g g60 := zk_ft F_111 F_116 (by intro a i h; unfold fr_M_readMark at h; unfold fr_M_readDeed; omega)
              exact hQ _ _ I_115 F_117 ⟨by omega, by omega⟩
            · exact hQ _ _ I_110 F_111 ⟨by omega, by omega⟩
      · exact hQ _ _ I_58 F_59 ⟨by omega, by omega⟩
    · refine k_M_errs I_6 ⟨by omega, by omega⟩ (fun v66 g67 I_119 F_120 b_118 => ?_)
      have F_121 : zk_fr fr_M_readDeed g g67 := zk_ft F_7 F_120 (by intro a i h; unfold fr_M_errs at h; unfold fr_M_readDeed; omega)
      exact hQ _ _ I_119 F_121 ⟨by omega, by omega⟩
  · exact hQ _ _ I_6 F_7 ⟨by omega, by omega⟩
