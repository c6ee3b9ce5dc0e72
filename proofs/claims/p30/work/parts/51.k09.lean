-- by program (wip/gen/mkz.py)
-- SpoutNewsModel.wordAt(II)I
set_option maxRecDepth 100000 in
set_option maxHeartbeats 400000 in
theorem k_M_wordAt {l1 : Int} {l2 : Int} {g : zi_M} {Q : Int → zi_M → Prop} (I : zk_I g) (p1 : 0 ≤ l1 ∧ l1 ≤ 400) (p2 : 0 ≤ l2 ∧ l2 ≤ 400) (hQ : ∀ v : Int, ((-1) ≤ v) → Q v g) : w_M_wordAt l1 l2 g Q := by
  sorry
-- SpoutNewsModel.reads()V
def fr_M_reads (a : Nat) (i : Int) : Prop := (a = 214 ∧ i = 14) ∨ (a = 214 ∧ i = 15) ∨ (a = 214 ∧ i = 16) ∨ (a = 214 ∧ i = 17)
set_option maxRecDepth 100000 in
set_option maxHeartbeats 400000 in
theorem k_M_reads {g : zi_M} {Q : Int → zi_M → Prop} (I : zk_I g) (hQ : ∀ g' : zi_M, zk_I g' → zk_fr fr_M_reads g g' → Q 0 g') : w_M_reads g Q := by
  sorry
-- SpoutNewsModel.isLineWord()Z
set_option maxRecDepth 100000 in
set_option maxHeartbeats 400000 in
theorem k_M_isLineWord {g : zi_M} {Q : Int → zi_M → Prop} (I : zk_I g) (hQ : ∀ v : Int, (¬ (g 214 16) = 2 → v = 0) → ((g 214 16) = 2 → (g 214 17) < 0 → v = 0) → ((g 214 16) = 2 → 0 ≤ (g 214 17) → 2 < (g 214 17) → v = 0) → ((g 214 16) = 2 → 0 ≤ (g 214 17) → (g 214 17) ≤ 2 → v = 1) → Q v g) : w_M_isLineWord g Q := by
  unfold w_M_isLineWord
  have m_1 : 0 ≤ (g 214 16) ∧ (g 214 16) ≤ 4 := I 214 16
  refine ⟨⟨by omega, by omega⟩, ?_⟩
  refine ⟨fun c6 => ?_, fun c6 => ?_⟩
  · have m_2 : (-1) ≤ (g 214 17) ∧ (g 214 17) ≤ 100000 := I 214 17
    exact hQ _ (by intros; omega) (by intros; omega) (by intros; omega) (by intros; omega)
  · have m_3 : (-1) ≤ (g 214 17) ∧ (g 214 17) ≤ 100000 := I 214 17
    refine k_M_isIn I ⟨by omega, by omega⟩ ⟨by omega, by omega⟩ ⟨by omega, by omega⟩ (fun v2 b_4 b_5 b_6 => ?_)
    refine ⟨fun c5 => ?_, fun c5 => ?_⟩
    · exact hQ _ (by intros; omega) (by intros; omega) (by intros; omega) (by intros; omega)
    · exact hQ _ (by intros; omega) (by intros; omega) (by intros; omega) (by intros; omega)
-- SpoutNewsModel.emits(II)V
def fr_M_emits (a : Nat) (i : Int) : Prop := a = 229 ∨ a = 230 ∨ (a = 214 ∧ i = 27)
set_option maxRecDepth 100000 in
set_option maxHeartbeats 400000 in
theorem k_M_emits {l1 : Int} {l2 : Int} {g : zi_M} {Q : Int → zi_M → Prop} (I : zk_I g) (p1 : 0 ≤ l1 ∧ l1 ≤ 11) (p2 : (-8) ≤ l2 ∧ l2 ≤ 100000) (hQ : ∀ g' : zi_M, zk_I g' → zk_fr fr_M_emits g g' → Q 0 g') : w_M_emits l1 l2 g Q := by
  sorry
-- SpoutNewsModel.errs(I)I
def fr_M_errs (a : Nat) (i : Int) : Prop := (a = 214 ∧ i = 31) ∨ (a = 214 ∧ i = 32)
set_option maxRecDepth 100000 in
set_option maxHeartbeats 400000 in
theorem k_M_errs {l1 : Int} {g : zi_M} {Q : Int → zi_M → Prop} (I : zk_I g) (p1 : 1 ≤ l1 ∧ l1 ≤ 3) (hQ : ∀ (v : Int) (g' : zi_M), zk_I g' → zk_fr fr_M_errs g g' → ((-1) ≤ v ∧ v ≤ (-1)) → Q v g') : w_M_errs l1 g Q := by
  unfold w_M_errs
  intro g1 e_1
  have I_2 : zk_I g1 := by rw [e_1]; exact zk_upd (L := 0) (H := 3) rfl rfl I ⟨by omega, by omega⟩
  have F_3 : zk_fr fr_M_errs g g1 := by rw [e_1]; exact zk_fu (zk_f0 _) (Or.inl ⟨rfl, rfl⟩)
  have m_7 : 0 ≤ (g1 214 15) ∧ (g1 214 15) ≤ 400 := I_2 214 15
  have m_8 : g1 214 15 = g 214 15 := by rw [e_1]; exact zi_u_ni (by decide)
  have m_9 : 0 ≤ (g 214 15) ∧ (g 214 15) ≤ 400 := I 214 15
  intro g2 e_4
  have I_5 : zk_I g2 := by rw [e_4]; exact zk_upd (L := 0) (H := 400) rfl rfl I_2 ⟨by omega, by omega⟩
  have F_6 : zk_fr fr_M_errs g g2 := by rw [e_4]; exact zk_fu F_3 (Or.inr ⟨rfl, rfl⟩)
  exact hQ _ _ I_5 F_6 ⟨by omega, by omega⟩
-- SpoutNewsModel.canAsk(I)Z
set_option maxRecDepth 100000 in
set_option maxHeartbeats 400000 in
theorem k_M_canAsk {l1 : Int} {g : zi_M} {Q : Int → zi_M → Prop} (I : zk_I g) (p1 : (-1) ≤ l1 ∧ l1 ≤ 100000) (hQ : ∀ v : Int, (l1 < 7 → v = 0) → (7 ≤ l1 → 15 < l1 → v = 0) → (7 ≤ l1 → l1 ≤ 15 → v = 1) → Q v g) : w_M_canAsk l1 g Q := by
  unfold w_M_canAsk
  refine k_M_isIn I ⟨by omega, by omega⟩ ⟨by omega, by omega⟩ ⟨by omega, by omega⟩ (fun v1 b_1 b_2 b_3 => ?_)
  exact hQ _ (by intros; omega) (by intros; omega) (by intros; omega)
-- SpoutNewsModel.readUnit()I
def fr_M_readUnit (a : Nat) (i : Int) : Prop := a = 229 ∨ a = 230 ∨ (a = 214 ∧ i = 14) ∨ (a = 214 ∧ i = 15) ∨ (a = 214 ∧ i = 16) ∨ (a = 214 ∧ i = 17) ∨ (a = 214 ∧ i = 27) ∨ (a = 214 ∧ i = 31) ∨ (a = 214 ∧ i = 32)
set_option maxRecDepth 100000 in
set_option maxHeartbeats 400000 in
theorem k_M_readUnit_b43 {l1 : Int} {Q : Int → zi_M → Prop} {g : zi_M} {g0 : zi_M} (I : zk_I g) (F : zk_fr fr_M_readUnit g0 g) (p1 : 0 ≤ l1 ∧ l1 ≤ 1) (hQ : ∀ (v : Int) (g' : zi_M), zk_I g' → zk_fr fr_M_readUnit g0 g' → ((-1) ≤ v ∧ v ≤ 0) → Q v g') : w_M_readUnit_b43 l1 g Q := by
  unfold w_M_readUnit_b43
  refine ⟨⟨by omega, by omega⟩, ?_⟩
  refine ⟨fun c30 => ?_, fun c30 => ?_⟩
  · refine ⟨fun c16 => ?_, fun c16 => ?_⟩
    · have m_2 : (-1) ≤ (g 214 17) ∧ (g 214 17) ≤ 100000 := I 214 17
      refine k_M_emits I ⟨by omega, by omega⟩ ⟨by omega, by omega⟩ (fun g5 I_3 F_4 => ?_)
      have F_5 : zk_fr fr_M_readUnit g0 g5 := zk_ft F F_4 (fun a i => (fun h => Or.elim h (fun h => (Or.inl h)) (fun h => Or.elim h (fun h => (Or.inr (Or.inl h))) (fun h => (Or.inr (Or.inr (Or.inr (Or.inr (Or.inr (Or.inr (Or.inl h)))))))))))
      refine k_M_reads I_3 (fun g8 I_6 F_7 => ?_)
      have F_8 : zk_fr fr_M_readUnit g0 g8 := zk_ft F_5 F_7 (fun a i => (fun h => Or.elim h (fun h => (Or.inr (Or.inr (Or.inl h)))) (fun h => Or.elim h (fun h => (Or.inr (Or.inr (Or.inr (Or.inl h))))) (fun h => Or.elim h (fun h => (Or.inr (Or.inr (Or.inr (Or.inr (Or.inl h)))))) (fun h => (Or.inr (Or.inr (Or.inr (Or.inr (Or.inr (Or.inl h)))))))))))
      exact hQ _ _ I_6 F_8 ⟨by omega, by omega⟩
    · have m_9 : (-1) ≤ (g 214 17) ∧ (g 214 17) ≤ 100000 := I 214 17
      refine k_M_emits I ⟨by omega, by omega⟩ ⟨by omega, by omega⟩ (fun g11 I_10 F_11 => ?_)
      have F_12 : zk_fr fr_M_readUnit g0 g11 := zk_ft F F_11 (fun a i => (fun h => Or.elim h (fun h => (Or.inl h)) (fun h => Or.elim h (fun h => (Or.inr (Or.inl h))) (fun h => (Or.inr (Or.inr (Or.inr (Or.inr (Or.inr (Or.inr (Or.inl h)))))))))))
      refine k_M_reads I_10 (fun g14 I_13 F_14 => ?_)
      have F_15 : zk_fr fr_M_readUnit g0 g14 := zk_ft F_12 F_14 (fun a i => (fun h => Or.elim h (fun h => (Or.inr (Or.inr (Or.inl h)))) (fun h => Or.elim h (fun h => (Or.inr (Or.inr (Or.inr (Or.inl h))))) (fun h => Or.elim h (fun h => (Or.inr (Or.inr (Or.inr (Or.inr (Or.inl h)))))) (fun h => (Or.inr (Or.inr (Or.inr (Or.inr (Or.inr (Or.inl h)))))))))))
      exact hQ _ _ I_13 F_15 ⟨by omega, by omega⟩
  · refine ⟨fun c29 => ?_, fun c29 => ?_⟩
    · have m_16 : (-1) ≤ (g 214 17) ∧ (g 214 17) ≤ 100000 := I 214 17
      refine k_M_emits I ⟨by omega, by omega⟩ ⟨by omega, by omega⟩ (fun g18 I_17 F_18 => ?_)
      have F_19 : zk_fr fr_M_readUnit g0 g18 := zk_ft F F_18 (fun a i => (fun h => Or.elim h (fun h => (Or.inl h)) (fun h => Or.elim h (fun h => (Or.inr (Or.inl h))) (fun h => (Or.inr (Or.inr (Or.inr (Or.inr (Or.inr (Or.inr (Or.inl h)))))))))))
      refine k_M_reads I_17 (fun g21 I_20 F_21 => ?_)
      have F_22 : zk_fr fr_M_readUnit g0 g21 := zk_ft F_19 F_21 (fun a i => (fun h => Or.elim h (fun h => (Or.inr (Or.inr (Or.inl h)))) (fun h => Or.elim h (fun h => (Or.inr (Or.inr (Or.inr (Or.inl h))))) (fun h => Or.elim h (fun h => (Or.inr (Or.inr (Or.inr (Or.inr (Or.inl h)))))) (fun h => (Or.inr (Or.inr (Or.inr (Or.inr (Or.inr (Or.inl h)))))))))))
      exact hQ _ _ I_20 F_22 ⟨by omega, by omega⟩
    · have m_23 : (-1) ≤ (g 214 17) ∧ (g 214 17) ≤ 100000 := I 214 17
      refine k_M_emits I ⟨by omega, by omega⟩ ⟨by omega, by omega⟩ (fun g24 I_24 F_25 => ?_)
      have F_26 : zk_fr fr_M_readUnit g0 g24 := zk_ft F F_25 (fun a i => (fun h => Or.elim h (fun h => (Or.inl h)) (fun h => Or.elim h (fun h => (Or.inr (Or.inl h))) (fun h => (Or.inr (Or.inr (Or.inr (Or.inr (Or.inr (Or.inr (Or.inl h)))))))))))
      refine k_M_reads I_24 (fun g27 I_27 F_28 => ?_)
      have F_29 : zk_fr fr_M_readUnit g0 g27 := zk_ft F_26 F_28 (fun a i => (fun h => Or.elim h (fun h => (Or.inr (Or.inr (Or.inl h)))) (fun h => Or.elim h (fun h => (Or.inr (Or.inr (Or.inr (Or.inl h))))) (fun h => Or.elim h (fun h => (Or.inr (Or.inr (Or.inr (Or.inr (Or.inl h)))))) (fun h => (Or.inr (Or.inr (Or.inr (Or.inr (Or.inr (Or.inl h)))))))))))
      exact hQ _ _ I_27 F_29 ⟨by omega, by omega⟩
set_option maxRecDepth 100000 in
set_option maxHeartbeats 400000 in
theorem k_M_readUnit_b24 {s0 : Int} {Q : Int → zi_M → Prop} {g : zi_M} {g0 : zi_M} (I : zk_I g) (F : zk_fr fr_M_readUnit g0 g) (ps0 : 0 ≤ s0 ∧ s0 ≤ 1) (hQ : ∀ (v : Int) (g' : zi_M), zk_I g' → zk_fr fr_M_readUnit g0 g' → ((-1) ≤ v ∧ v ≤ 0) → Q v g') : w_M_readUnit_b24 s0 g Q := by
  unfold w_M_readUnit_b24
  refine ⟨⟨by omega, by omega⟩, ?_⟩
  refine ⟨fun c36 => ?_, fun c36 => ?_⟩
  · exact k_M_readUnit_b43 I F ⟨by omega, by omega⟩ hQ
  · have m_30 : 0 ≤ (g 214 16) ∧ (g 214 16) ≤ 4 := I 214 16
    refine ⟨⟨by omega, by omega⟩, ?_⟩
    refine ⟨fun c35 => ?_, fun c35 => ?_⟩
    · exact k_M_readUnit_b43 I F ⟨by omega, by omega⟩ hQ
    · refine k_M_errs I ⟨by omega, by omega⟩ (fun v32 g33 I_32 F_33 b_31 => ?_)
      have F_34 : zk_fr fr_M_readUnit g0 g33 := zk_ft F F_33 (fun a i => (fun h => Or.elim h (fun h => (Or.inr (Or.inr (Or.inr (Or.inr (Or.inr (Or.inr (Or.inr (Or.inl h))))))))) (fun h => (Or.inr (Or.inr (Or.inr (Or.inr (Or.inr (Or.inr (Or.inr (Or.inr h)))))))))))
      exact hQ _ _ I_32 F_34 ⟨by omega, by omega⟩
set_option maxRecDepth 100000 in
set_option maxHeartbeats 400000 in
theorem k_M_readUnit {g : zi_M} {Q : Int → zi_M → Prop} (I : zk_I g) (hQ : ∀ (v : Int) (g' : zi_M), zk_I g' → zk_fr fr_M_readUnit g g' → ((-1) ≤ v ∧ v ≤ 0) → Q v g') : w_M_readUnit g Q := by
  unfold w_M_readUnit
  have m_1 : 0 ≤ (g 214 16) ∧ (g 214 16) ≤ 4 := I 214 16
  refine ⟨⟨by omega, by omega⟩, ?_⟩
  refine ⟨fun c41 => ?_, fun c41 => ?_⟩
  · exact k_M_readUnit_b24 I (zk_f0 _) ⟨by omega, by omega⟩ hQ
  · have m_35 : (-1) ≤ (g 214 17) ∧ (g 214 17) ≤ 100000 := I 214 17
    refine k_M_canAsk I ⟨by omega, by omega⟩ (fun v37 b_36 b_37 b_38 => ?_)
    refine ⟨fun c40 => ?_, fun c40 => ?_⟩
    · exact k_M_readUnit_b24 I (zk_f0 _) ⟨by omega, by omega⟩ hQ
    · exact k_M_readUnit_b24 I (zk_f0 _) ⟨by omega, by omega⟩ hQ
-- SpoutNewsModel.isSign(I)Z
set_option maxRecDepth 100000 in
set_option maxHeartbeats 400000 in
theorem k_M_isSign {l1 : Int} {g : zi_M} {Q : Int → zi_M → Prop} (I : zk_I g) (p1 : 40 ≤ l1 ∧ l1 ≤ 62) (hQ : ∀ v : Int, (¬ (g 214 16) = 4 → v = 0) → ((g 214 16) = 4 → ¬ (g 214 17) = l1 → v = 0) → ((g 214 16) = 4 → (g 214 17) = l1 → v = 1) → Q v g) : w_M_isSign l1 g Q := by
  unfold w_M_isSign
  have m_1 : 0 ≤ (g 214 16) ∧ (g 214 16) ≤ 4 := I 214 16
  refine ⟨⟨by omega, by omega⟩, ?_⟩
  refine ⟨fun c5 => ?_, fun c5 => ?_⟩
  · have m_2 : (-1) ≤ (g 214 17) ∧ (g 214 17) ≤ 100000 := I 214 17
    exact hQ _ (by intros; omega) (by intros; omega) (by intros; omega)
  · have m_3 : (-1) ≤ (g 214 17) ∧ (g 214 17) ≤ 100000 := I 214 17
    refine ⟨⟨by omega, by omega⟩, ⟨by omega, by omega⟩, ?_⟩
    refine ⟨fun c4 => ?_, fun c4 => ?_⟩
    · exact hQ _ (by intros; omega) (by intros; omega) (by intros; omega)
    · exact hQ _ (by intros; omega) (by intros; omega) (by intros; omega)
-- SpoutNewsModel.readProduct()I
def fr_M_readProduct (a : Nat) (i : Int) : Prop := a = 229 ∨ a = 230 ∨ (a = 214 ∧ i = 14) ∨ (a = 214 ∧ i = 15) ∨ (a = 214 ∧ i = 16) ∨ (a = 214 ∧ i = 17) ∨ (a = 214 ∧ i = 27) ∨ (a = 214 ∧ i = 31) ∨ (a = 214 ∧ i = 32)
set_option maxRecDepth 100000 in
set_option maxHeartbeats 400000 in
theorem k_M_readProduct {g : zi_M} {Q : Int → zi_M → Prop} (I : zk_I g) (hQ : ∀ (v : Int) (g' : zi_M), zk_I g' → zk_fr fr_M_readProduct g g' → ((-1) ≤ v ∧ v ≤ 0) → Q v g') : w_M_readProduct g Q := by
  sorry
-- SpoutNewsModel.readSum()I
def fr_M_readSum (a : Nat) (i : Int) : Prop := a = 229 ∨ a = 230 ∨ (a = 214 ∧ i = 14) ∨ (a = 214 ∧ i = 15) ∨ (a = 214 ∧ i = 16) ∨ (a = 214 ∧ i = 17) ∨ (a = 214 ∧ i = 27) ∨ (a = 214 ∧ i = 31) ∨ (a = 214 ∧ i = 32)
set_option maxRecDepth 100000 in
set_option maxHeartbeats 400000 in
theorem k_M_readSum {g : zi_M} {Q : Int → zi_M → Prop} (I : zk_I g) (hQ : ∀ (v : Int) (g' : zi_M), zk_I g' → zk_fr fr_M_readSum g g' → ((-1) ≤ v ∧ v ≤ 0) → Q v g') : w_M_readSum g Q := by
  sorry
-- SpoutNewsModel.isWord(I)Z
set_option maxRecDepth 100000 in
set_option maxHeartbeats 400000 in
theorem k_M_isWord {l1 : Int} {g : zi_M} {Q : Int → zi_M → Prop} (I : zk_I g) (p1 : 3 ≤ l1 ∧ l1 ≤ 20) (hQ : ∀ v : Int, (¬ (g 214 16) = 2 → v = 0) → ((g 214 16) = 2 → ¬ (g 214 17) = l1 → v = 0) → ((g 214 16) = 2 → (g 214 17) = l1 → v = 1) → Q v g) : w_M_isWord l1 g Q := by
  unfold w_M_isWord
  have m_1 : 0 ≤ (g 214 16) ∧ (g 214 16) ≤ 4 := I 214 16
  refine ⟨⟨by omega, by omega⟩, ?_⟩
  refine ⟨fun c5 => ?_, fun c5 => ?_⟩
  · have m_2 : (-1) ≤ (g 214 17) ∧ (g 214 17) ≤ 100000 := I 214 17
    exact hQ _ (by intros; omega) (by intros; omega) (by intros; omega)
  · have m_3 : (-1) ≤ (g 214 17) ∧ (g 214 17) ≤ 100000 := I 214 17
    refine ⟨⟨by omega, by omega⟩, ⟨by omega, by omega⟩, ?_⟩
    refine ⟨fun c4 => ?_, fun c4 => ?_⟩
    · exact hQ _ (by intros; omega) (by intros; omega) (by intros; omega)
    · exact hQ _ (by intros; omega) (by intros; omega) (by intros; omega)
-- SpoutNewsModel.settles(I)V
def fr_M_settles (a : Nat) (i : Int) : Prop := a = 229 ∨ a = 230 ∨ (a = 214 ∧ i = 27) ∨ (a = 214 ∧ i = 28) ∨ (a = 214 ∧ i = 30)
set_option maxRecDepth 100000 in
set_option maxHeartbeats 400000 in
theorem k_M_settles {l1 : Int} {g : zi_M} {Q : Int → zi_M → Prop} (I : zk_I g) (p1 : 9 ≤ l1 ∧ l1 ≤ 11) (hQ : ∀ g' : zi_M, zk_I g' → zk_fr fr_M_settles g g' → Q 0 g') : w_M_settles l1 g Q := by
  sorry
-- SpoutNewsModel.waits(I)V
def fr_M_waits (a : Nat) (i : Int) : Prop := a = 231 ∨ (a = 214 ∧ i = 30)
set_option maxRecDepth 100000 in
set_option maxHeartbeats 400000 in
theorem k_M_waits {l1 : Int} {g : zi_M} {Q : Int → zi_M → Prop} (I : zk_I g) (p1 : 9 ≤ l1 ∧ l1 ≤ 12) (hQ : ∀ g' : zi_M, zk_I g' → zk_fr fr_M_waits g g' → Q 0 g') : w_M_waits l1 g Q := by
  sorry
-- SpoutNewsModel.readCompared()I
def fr_M_readCompared (a : Nat) (i : Int) : Prop := a = 229 ∨ a = 230 ∨ (a = 214 ∧ i = 14) ∨ (a = 214 ∧ i = 15) ∨ (a = 214 ∧ i = 16) ∨ (a = 214 ∧ i = 17) ∨ (a = 214 ∧ i = 27) ∨ (a = 214 ∧ i = 31) ∨ (a = 214 ∧ i = 32)
set_option maxRecDepth 100000 in
set_option maxHeartbeats 400000 in
theorem k_M_readCompared_b73 {s0 : Int} {Q : Int → zi_M → Prop} {g : zi_M} {g0 : zi_M} (I : zk_I g) (F : zk_fr fr_M_readCompared g0 g) (ps0 : 6 ≤ s0 ∧ s0 ≤ 8) (hQ : ∀ (v : Int) (g' : zi_M), zk_I g' → zk_fr fr_M_readCompared g0 g' → ((-1) ≤ v ∧ v ≤ 0) → Q v g') : w_M_readCompared_b73 s0 g Q := by
  unfold w_M_readCompared_b73
  refine k_M_reads I (fun g10 I_11 F_12 => ?_)
  have F_13 : zk_fr fr_M_readCompared g0 g10 := zk_ft F F_12 (fun a i => (fun h => Or.elim h (fun h => (Or.inr (Or.inr (Or.inl h)))) (fun h => Or.elim h (fun h => (Or.inr (Or.inr (Or.inr (Or.inl h))))) (fun h => Or.elim h (fun h => (Or.inr (Or.inr (Or.inr (Or.inr (Or.inl h)))))) (fun h => (Or.inr (Or.inr (Or.inr (Or.inr (Or.inr (Or.inl h)))))))))))
  refine k_M_readSum I_11 (fun v12 g13 I_15 F_16 b_14 => ?_)
  have F_17 : zk_fr fr_M_readCompared g0 g13 := zk_ft F_13 F_16 (fun a i => (fun h => Or.elim h (fun h => (Or.inl h)) (fun h => Or.elim h (fun h => (Or.inr (Or.inl h))) (fun h => Or.elim h (fun h => (Or.inr (Or.inr (Or.inl h)))) (fun h => Or.elim h (fun h => (Or.inr (Or.inr (Or.inr (Or.inl h))))) (fun h => Or.elim h (fun h => (Or.inr (Or.inr (Or.inr (Or.inr (Or.inl h)))))) (fun h => Or.elim h (fun h => (Or.inr (Or.inr (Or.inr (Or.inr (Or.inr (Or.inl h))))))) (fun h => Or.elim h (fun h => (Or.inr (Or.inr (Or.inr (Or.inr (Or.inr (Or.inr (Or.inl h)))))))) (fun h => Or.elim h (fun h => (Or.inr (Or.inr (Or.inr (Or.inr (Or.inr (Or.inr (Or.inr (Or.inl h))))))))) (fun h => (Or.inr (Or.inr (Or.inr (Or.inr (Or.inr (Or.inr (Or.inr (Or.inr h))))))))))))))))))
  refine ⟨⟨by omega, by omega⟩, ?_⟩
  refine ⟨fun c19 => ?_, fun c19 => ?_⟩
  · refine k_M_emits I_15 ⟨by omega, by omega⟩ ⟨by omega, by omega⟩ (fun g17 I_18 F_19 => ?_)
    have F_20 : zk_fr fr_M_readCompared g0 g17 := zk_ft F_17 F_19 (fun a i => (fun h => Or.elim h (fun h => (Or.inl h)) (fun h => Or.elim h (fun h => (Or.inr (Or.inl h))) (fun h => (Or.inr (Or.inr (Or.inr (Or.inr (Or.inr (Or.inr (Or.inl h)))))))))))
    exact hQ _ _ I_18 F_20 ⟨by omega, by omega⟩
  · exact hQ _ _ I_15 F_17 ⟨by omega, by omega⟩
set_option maxRecDepth 100000 in
set_option maxHeartbeats 400000 in
theorem k_M_readCompared_b43 {Q : Int → zi_M → Prop} {g : zi_M} {g0 : zi_M} (I : zk_I g) (F : zk_fr fr_M_readCompared g0 g) (hQ : ∀ (v : Int) (g' : zi_M), zk_I g' → zk_fr fr_M_readCompared g0 g' → ((-1) ≤ v ∧ v ≤ 0) → Q v g') : w_M_readCompared_b43 g Q := by
  unfold w_M_readCompared_b43
  have m_10 : (-1) ≤ (g 214 17) ∧ (g 214 17) ≤ 100000 := I 214 17
  refine ⟨⟨by omega, by omega⟩, ?_⟩
  refine ⟨fun c21 => ?_, fun c21 => ?_⟩
  · refine ⟨fun c20 => ?_, fun c20 => ?_⟩
    · exact k_M_readCompared_b73 I F ⟨by omega, by omega⟩ hQ
    · exact k_M_readCompared_b73 I F ⟨by omega, by omega⟩ hQ
  · exact k_M_readCompared_b73 I F ⟨by omega, by omega⟩ hQ
set_option maxRecDepth 100000 in
set_option maxHeartbeats 400000 in
theorem k_M_readCompared {g : zi_M} {Q : Int → zi_M → Prop} (I : zk_I g) (hQ : ∀ (v : Int) (g' : zi_M), zk_I g' → zk_fr fr_M_readCompared g g' → ((-1) ≤ v ∧ v ≤ 0) → Q v g') : w_M_readCompared g Q := by
  unfold w_M_readCompared
  refine k_M_readSum I (fun v1 g2 I_2 F_3 b_1 => ?_)
  have F_4 : zk_fr fr_M_readCompared g g2 := zk_ft (zk_f0 _) F_3 (fun a i => (fun h => Or.elim h (fun h => (Or.inl h)) (fun h => Or.elim h (fun h => (Or.inr (Or.inl h))) (fun h => Or.elim h (fun h => (Or.inr (Or.inr (Or.inl h)))) (fun h => Or.elim h (fun h => (Or.inr (Or.inr (Or.inr (Or.inl h))))) (fun h => Or.elim h (fun h => (Or.inr (Or.inr (Or.inr (Or.inr (Or.inl h)))))) (fun h => Or.elim h (fun h => (Or.inr (Or.inr (Or.inr (Or.inr (Or.inr (Or.inl h))))))) (fun h => Or.elim h (fun h => (Or.inr (Or.inr (Or.inr (Or.inr (Or.inr (Or.inr (Or.inl h)))))))) (fun h => Or.elim h (fun h => (Or.inr (Or.inr (Or.inr (Or.inr (Or.inr (Or.inr (Or.inr (Or.inl h))))))))) (fun h => (Or.inr (Or.inr (Or.inr (Or.inr (Or.inr (Or.inr (Or.inr (Or.inr h))))))))))))))))))
  refine ⟨⟨by omega, by omega⟩, ?_⟩
  refine ⟨fun c34 => ?_, fun c34 => ?_⟩
  · have m_8 : 0 ≤ (g2 214 16) ∧ (g2 214 16) ≤ 4 := I_2 214 16
    have m_9 : (-1) ≤ (g2 214 17) ∧ (g2 214 17) ≤ 100000 := I_2 214 17
    refine k_M_isSign I_2 ⟨by omega, by omega⟩ (fun v5 b_5 b_6 b_7 => ?_)
    refine ⟨fun c33 => ?_, fun c33 => ?_⟩
    · exact k_M_readCompared_b43 I_2 F_4 hQ
    · refine k_M_isSign I_2 ⟨by omega, by omega⟩ (fun v22 b_21 b_22 b_23 => ?_)
      refine ⟨fun c32 => ?_, fun c32 => ?_⟩
      · exact k_M_readCompared_b43 I_2 F_4 hQ
      · refine k_M_isSign I_2 ⟨by omega, by omega⟩ (fun v25 b_24 b_25 b_26 => ?_)
        refine ⟨fun c31 => ?_, fun c31 => ?_⟩
        · exact k_M_readCompared_b43 I_2 F_4 hQ
        · refine k_M_errs I_2 ⟨by omega, by omega⟩ (fun v28 g29 I_28 F_29 b_27 => ?_)
          have F_30 : zk_fr fr_M_readCompared g g29 := zk_ft F_4 F_29 (fun a i => (fun h => Or.elim h (fun h => (Or.inr (Or.inr (Or.inr (Or.inr (Or.inr (Or.inr (Or.inr (Or.inl h))))))))) (fun h => (Or.inr (Or.inr (Or.inr (Or.inr (Or.inr (Or.inr (Or.inr (Or.inr h)))))))))))
          exact hQ _ _ I_28 F_30 ⟨by omega, by omega⟩
  · exact hQ _ _ I_2 F_4 ⟨by omega, by omega⟩
-- SpoutNewsModel.readAny()I
def fr_M_readAny (a : Nat) (i : Int) : Prop := a = 229 ∨ a = 230 ∨ a = 231 ∨ (a = 214 ∧ i = 14) ∨ (a = 214 ∧ i = 15) ∨ (a = 214 ∧ i = 16) ∨ (a = 214 ∧ i = 17) ∨ (a = 214 ∧ i = 27) ∨ (a = 214 ∧ i = 28) ∨ (a = 214 ∧ i = 30) ∨ (a = 214 ∧ i = 31) ∨ (a = 214 ∧ i = 32)
set_option maxRecDepth 100000 in
set_option maxHeartbeats 400000 in
theorem k_M_readAny {g : zi_M} {Q : Int → zi_M → Prop} (I : zk_I g) (hQ : ∀ (v : Int) (g' : zi_M), zk_I g' → zk_fr fr_M_readAny g g' → ((-1) ≤ v ∧ v ≤ 0) → Q v g') : w_M_readAny g Q := by
  sorry
-- SpoutNewsModel.readLaw()I
def fr_M_readLaw (a : Nat) (i : Int) : Prop := a = 225 ∨ a = 226 ∨ a = 227 ∨ a = 228 ∨ a = 229 ∨ a = 230 ∨ a = 231 ∨ (a = 214 ∧ i = 14) ∨ (a = 214 ∧ i = 15) ∨ (a = 214 ∧ i = 16) ∨ (a = 214 ∧ i = 17) ∨ (a = 214 ∧ i = 27) ∨ (a = 214 ∧ i = 28) ∨ (a = 214 ∧ i = 30) ∨ (a = 214 ∧ i = 31) ∨ (a = 214 ∧ i = 32)
set_option maxRecDepth 100000 in
set_option maxHeartbeats 400000 in
theorem k_M_readLaw {g : zi_M} {Q : Int → zi_M → Prop} (I : zk_I g) (hQ : ∀ (v : Int) (g' : zi_M), zk_I g' → zk_fr fr_M_readLaw g g' → ((-1) ≤ v ∧ v ≤ 16) → Q v g') : w_M_readLaw g Q := by
  sorry
-- SpoutNewsModel.readNumber(II)I
def fr_M_readNumber (a : Nat) (i : Int) : Prop := (a = 214 ∧ i = 14) ∨ (a = 214 ∧ i = 15) ∨ (a = 214 ∧ i = 16) ∨ (a = 214 ∧ i = 17) ∨ (a = 214 ∧ i = 31) ∨ (a = 214 ∧ i = 32)
set_option maxRecDepth 100000 in
set_option maxHeartbeats 400000 in
theorem k_M_readNumber {l1 : Int} {l2 : Int} {g : zi_M} {Q : Int → zi_M → Prop} (I : zk_I g) (p1 : 0 ≤ l1 ∧ l1 ≤ 0) (p2 : (-1) ≤ l2 ∧ l2 ≤ 999) (hQ : ∀ (v : Int) (g' : zi_M), zk_I g' → zk_fr fr_M_readNumber g g' → ((-1) ≤ v ∧ v ≤ 100000) → Q v g') : w_M_readNumber l1 l2 g Q := by
  unfold w_M_readNumber
  have m_1 : 0 ≤ (g 214 16) ∧ (g 214 16) ≤ 4 := I 214 16
  refine ⟨⟨by omega, by omega⟩, ?_⟩
  refine ⟨fun c15 => ?_, fun c15 => ?_⟩
  · have m_2 : (-1) ≤ (g 214 17) ∧ (g 214 17) ≤ 100000 := I 214 17
    refine k_M_isIn I ⟨by omega, by omega⟩ ⟨by omega, by omega⟩ ⟨by omega, by omega⟩ (fun v2 b_3 b_4 b_5 => ?_)
    refine ⟨fun c11 => ?_, fun c11 => ?_⟩
    · refine k_M_reads I (fun g6 I_6 F_7 => ?_)
      have F_8 : zk_fr fr_M_readNumber g g6 := zk_ft (zk_f0 _) F_7 (fun a i => (fun h => Or.elim h (fun h => (Or.inl h)) (fun h => Or.elim h (fun h => (Or.inr (Or.inl h))) (fun h => Or.elim h (fun h => (Or.inr (Or.inr (Or.inl h)))) (fun h => (Or.inr (Or.inr (Or.inr (Or.inl h)))))))))
      exact hQ _ _ I_6 F_8 ⟨by omega, by omega⟩
    · refine k_M_errs I ⟨by omega, by omega⟩ (fun v8 g9 I_10 F_11 b_9 => ?_)
      have F_12 : zk_fr fr_M_readNumber g g9 := zk_ft (zk_f0 _) F_11 (fun a i => (fun h => Or.elim h (fun h => (Or.inr (Or.inr (Or.inr (Or.inr (Or.inl h)))))) (fun h => (Or.inr (Or.inr (Or.inr (Or.inr (Or.inr h))))))))
      exact hQ _ _ I_10 F_12 ⟨by omega, by omega⟩
  · refine k_M_errs I ⟨by omega, by omega⟩ (fun v12 g13 I_14 F_15 b_13 => ?_)
    have F_16 : zk_fr fr_M_readNumber g g13 := zk_ft (zk_f0 _) F_15 (fun a i => (fun h => Or.elim h (fun h => (Or.inr (Or.inr (Or.inr (Or.inr (Or.inl h)))))) (fun h => (Or.inr (Or.inr (Or.inr (Or.inr (Or.inr h))))))))
    exact hQ _ _ I_14 F_16 ⟨by omega, by omega⟩
-- SpoutNewsModel.readTold(III)I
def fr_M_readTold (a : Nat) (i : Int) : Prop := (a = 214 ∧ i = 14) ∨ (a = 214 ∧ i = 15) ∨ (a = 214 ∧ i = 16) ∨ (a = 214 ∧ i = 17) ∨ (a = 214 ∧ i = 31) ∨ (a = 214 ∧ i = 32)
set_option maxRecDepth 100000 in
set_option maxHeartbeats 400000 in
theorem k_M_readTold {l1 : Int} {l2 : Int} {l3 : Int} {g : zi_M} {Q : Int → zi_M → Prop} (I : zk_I g) (p1 : 11 ≤ l1 ∧ l1 ≤ 20) (p2 : 0 ≤ l2 ∧ l2 ≤ 0) (p3 : (-1) ≤ l3 ∧ l3 ≤ 999) (hQ : ∀ (v : Int) (g' : zi_M), zk_I g' → zk_fr fr_M_readTold g g' → ((-1) ≤ v ∧ v ≤ 100000) → Q v g') : w_M_readTold l1 l2 l3 g Q := by
  unfold w_M_readTold
  have m_4 : 0 ≤ (g 214 16) ∧ (g 214 16) ≤ 4 := I 214 16
  have m_5 : (-1) ≤ (g 214 17) ∧ (g 214 17) ≤ 100000 := I 214 17
  refine k_M_isWord I ⟨by omega, by omega⟩ (fun v1 b_1 b_2 b_3 => ?_)
  refine ⟨fun c13 => ?_, fun c13 => ?_⟩
  · refine k_M_reads I (fun g5 I_6 F_7 => ?_)
    have F_8 : zk_fr fr_M_readTold g g5 := zk_ft (zk_f0 _) F_7 (fun a i => (fun h => Or.elim h (fun h => (Or.inl h)) (fun h => Or.elim h (fun h => (Or.inr (Or.inl h))) (fun h => Or.elim h (fun h => (Or.inr (Or.inr (Or.inl h)))) (fun h => (Or.inr (Or.inr (Or.inr (Or.inl h)))))))))
    refine k_M_readNumber I_6 ⟨by omega, by omega⟩ ⟨by omega, by omega⟩ (fun v7 g8 I_10 F_11 b_9 => ?_)
    have F_12 : zk_fr fr_M_readTold g g8 := zk_ft F_8 F_11 (fun a i => (fun h => Or.elim h (fun h => (Or.inl h)) (fun h => Or.elim h (fun h => (Or.inr (Or.inl h))) (fun h => Or.elim h (fun h => (Or.inr (Or.inr (Or.inl h)))) (fun h => Or.elim h (fun h => (Or.inr (Or.inr (Or.inr (Or.inl h))))) (fun h => Or.elim h (fun h => (Or.inr (Or.inr (Or.inr (Or.inr (Or.inl h)))))) (fun h => (Or.inr (Or.inr (Or.inr (Or.inr (Or.inr h))))))))))))
    exact hQ _ _ I_10 F_12 ⟨by omega, by omega⟩
  · refine k_M_errs I ⟨by omega, by omega⟩ (fun v10 g11 I_14 F_15 b_13 => ?_)
    have F_16 : zk_fr fr_M_readTold g g11 := zk_ft (zk_f0 _) F_15 (fun a i => (fun h => Or.elim h (fun h => (Or.inr (Or.inr (Or.inr (Or.inr (Or.inl h)))))) (fun h => (Or.inr (Or.inr (Or.inr (Or.inr (Or.inr h))))))))
    exact hQ _ _ I_14 F_16 ⟨by omega, by omega⟩
-- SpoutNewsModel.kindOfDeed()I
set_option maxRecDepth 100000 in
set_option maxHeartbeats 400000 in
theorem k_M_kindOfDeed {g : zi_M} {Q : Int → zi_M → Prop} (I : zk_I g) (hQ : ∀ v : Int, (¬ (g 214 16) = 2 → ¬ (g 214 16) = 2 → v = (-1)) → (¬ (g 214 16) = 2 → (g 214 16) = 2 → (g 214 17) < 21 → v = (-1)) → (¬ (g 214 16) = 2 → (g 214 16) = 2 → 21 ≤ (g 214 17) → 26 < (g 214 17) → v = (-1)) → (¬ (g 214 16) = 2 → (g 214 16) = 2 → 21 ≤ (g 214 17) → (g 214 17) ≤ 26 → v = (1 + (g 214 17)) - 21) → ((g 214 16) = 2 → ¬ (g 214 17) = 19 → ¬ (g 214 16) = 2 → v = (-1)) → ((g 214 16) = 2 → ¬ (g 214 17) = 19 → (g 214 16) = 2 → (g 214 17) < 21 → v = (-1)) → ((g 214 16) = 2 → ¬ (g 214 17) = 19 → (g 214 16) = 2 → 21 ≤ (g 214 17) → 26 < (g 214 17) → v = (-1)) → ((g 214 16) = 2 → ¬ (g 214 17) = 19 → (g 214 16) = 2 → 21 ≤ (g 214 17) → (g 214 17) ≤ 26 → v = (1 + (g 214 17)) - 21) → ((g 214 16) = 2 → (g 214 17) = 19 → v = 0) → Q v g) : w_M_kindOfDeed g Q := by
  unfold w_M_kindOfDeed
  have m_4 : 0 ≤ (g 214 16) ∧ (g 214 16) ≤ 4 := I 214 16
  have m_5 : (-1) ≤ (g 214 17) ∧ (g 214 17) ≤ 100000 := I 214 17
  refine k_M_isWord I ⟨by omega, by omega⟩ (fun v1 b_1 b_2 b_3 => ?_)
  refine ⟨fun c10 => ?_, fun c10 => ?_⟩
  · refine ⟨⟨by omega, by omega⟩, ?_⟩
    refine ⟨fun c9 => ?_, fun c9 => ?_⟩
    · exact hQ _ (by intros; omega) (by intros; omega) (by intros; omega) (by intros; omega) (by intros; omega) (by intros; omega) (by intros; omega) (by intros; omega) (by intros; omega)
    · refine k_M_isIn I ⟨by omega, by omega⟩ ⟨by omega, by omega⟩ ⟨by omega, by omega⟩ (fun v5 b_6 b_7 b_8 => ?_)
      refine ⟨fun c8 => ?_, fun c8 => ?_⟩
      · exact hQ _ (by intros; omega) (by intros; omega) (by intros; omega) (by intros; omega) (by intros; omega) (by intros; omega) (by intros; omega) (by intros; omega) (by intros; omega)
      · exact hQ _ (by intros; omega) (by intros; omega) (by intros; omega) (by intros; omega) (by intros; omega) (by intros; omega) (by intros; omega) (by intros; omega) (by intros; omega)
  · exact hQ _ (by intros; omega) (by intros; omega) (by intros; omega) (by intros; omega) (by intros; omega) (by intros; omega) (by intros; omega) (by intros; omega) (by intros; omega)
-- SpoutNewsModel.mostFor(I)I
set_option maxRecDepth 100000 in
set_option maxHeartbeats 400000 in
theorem k_M_mostFor {l1 : Int} {g : zi_M} {Q : Int → zi_M → Prop} (I : zk_I g) (p1 : (-21) ≤ l1 ∧ l1 ≤ 99980) (hQ : ∀ v : Int, (¬ l1 = 2 → l1 < 3 → v = (g 214 7) - 1) → (¬ l1 = 2 → 3 ≤ l1 → 5 < l1 → v = (g 214 7) - 1) → (¬ l1 = 2 → 3 ≤ l1 → l1 ≤ 5 → v = (g 214 6) - 1) → (l1 = 2 → v = 5) → Q v g) : w_M_mostFor l1 g Q := by
  unfold w_M_mostFor
  refine ⟨⟨by omega, by omega⟩, ?_⟩
  refine ⟨fun c4 => ?_, fun c4 => ?_⟩
  · refine ⟨fun c3 => ?_, fun c3 => ?_⟩
    · have m_1 : 0 ≤ (g 214 7) ∧ (g 214 7) ≤ 8 := I 214 7
      have m_2 : 0 ≤ (g 214 6) ∧ (g 214 6) ≤ 10 := I 214 6
      exact hQ _ (by intros; omega) (by intros; omega) (by intros; omega) (by intros; omega)
    · refine ⟨fun c2 => ?_, fun c2 => ?_⟩
      · have m_3 : 0 ≤ (g 214 7) ∧ (g 214 7) ≤ 8 := I 214 7
        have m_4 : 0 ≤ (g 214 6) ∧ (g 214 6) ≤ 10 := I 214 6
        exact hQ _ (by intros; omega) (by intros; omega) (by intros; omega) (by intros; omega)
      · have m_5 : 0 ≤ (g 214 6) ∧ (g 214 6) ≤ 10 := I 214 6
        have m_6 : 0 ≤ (g 214 7) ∧ (g 214 7) ≤ 8 := I 214 7
        exact hQ _ (by intros; omega) (by intros; omega) (by intros; omega) (by intros; omega)
  · have m_7 : 0 ≤ (g 214 7) ∧ (g 214 7) ≤ 8 := I 214 7
    have m_8 : 0 ≤ (g 214 6) ∧ (g 214 6) ≤ 10 := I 214 6
    exact hQ _ (by intros; omega) (by intros; omega) (by intros; omega) (by intros; omega)
-- SpoutNewsModel.readMark(I)I
def fr_M_readMark (a : Nat) (i : Int) : Prop := (a = 214 ∧ i = 14) ∨ (a = 214 ∧ i = 15) ∨ (a = 214 ∧ i = 16) ∨ (a = 214 ∧ i = 17) ∨ (a = 214 ∧ i = 31) ∨ (a = 214 ∧ i = 32)
set_option maxRecDepth 100000 in
set_option maxHeartbeats 400000 in
theorem k_M_readMark {l1 : Int} {g : zi_M} {Q : Int → zi_M → Prop} (I : zk_I g) (p1 : 59 ≤ l1 ∧ l1 ≤ 59) (hQ : ∀ (v : Int) (g' : zi_M), zk_I g' → zk_fr fr_M_readMark g g' → ((-1) ≤ v ∧ v ≤ 0) → Q v g') : w_M_readMark l1 g Q := by
  unfold w_M_readMark
  have m_4 : 0 ≤ (g 214 16) ∧ (g 214 16) ≤ 4 := I 214 16
  have m_5 : (-1) ≤ (g 214 17) ∧ (g 214 17) ≤ 100000 := I 214 17
  refine k_M_isSign I ⟨by omega, by omega⟩ (fun v1 b_1 b_2 b_3 => ?_)
  refine ⟨fun c10 => ?_, fun c10 => ?_⟩
  · refine k_M_reads I (fun g5 I_6 F_7 => ?_)
    have F_8 : zk_fr fr_M_readMark g g5 := zk_ft (zk_f0 _) F_7 (fun a i => (fun h => Or.elim h (fun h => (Or.inl h)) (fun h => Or.elim h (fun h => (Or.inr (Or.inl h))) (fun h => Or.elim h (fun h => (Or.inr (Or.inr (Or.inl h)))) (fun h => (Or.inr (Or.inr (Or.inr (Or.inl h)))))))))
    exact hQ _ _ I_6 F_8 ⟨by omega, by omega⟩
  · refine k_M_errs I ⟨by omega, by omega⟩ (fun v7 g8 I_10 F_11 b_9 => ?_)
    have F_12 : zk_fr fr_M_readMark g g8 := zk_ft (zk_f0 _) F_11 (fun a i => (fun h => Or.elim h (fun h => (Or.inr (Or.inr (Or.inr (Or.inr (Or.inl h)))))) (fun h => (Or.inr (Or.inr (Or.inr (Or.inr (Or.inr h))))))))
    exact hQ _ _ I_10 F_12 ⟨by omega, by omega⟩
-- SpoutNewsModel.readDeed(I)I
def fr_M_readDeed (a : Nat) (i : Int) : Prop := a = 234 ∨ (a = 214 ∧ i = 14) ∨ (a = 214 ∧ i = 15) ∨ (a = 214 ∧ i = 16) ∨ (a = 214 ∧ i = 17) ∨ (a = 214 ∧ i = 31) ∨ (a = 214 ∧ i = 32)
set_option maxRecDepth 100000 in
set_option maxHeartbeats 400000 in
theorem k_M_readDeed {l1 : Int} {g : zi_M} {Q : Int → zi_M → Prop} (I : zk_I g) (p1 : 64 ≤ l1) (hQ : ∀ (v : Int) (g' : zi_M), zk_I g' → zk_fr fr_M_readDeed g g' → ((-1) ≤ v ∧ v ≤ 0) → Q v g') : w_M_readDeed l1 g Q := by
  sorry
-- SpoutNewsModel.readPlan()I
def fr_M_readPlan (a : Nat) (i : Int) : Prop := a = 234 ∨ (a = 214 ∧ i = 14) ∨ (a = 214 ∧ i = 15) ∨ (a = 214 ∧ i = 16) ∨ (a = 214 ∧ i = 17) ∨ (a = 214 ∧ i = 31) ∨ (a = 214 ∧ i = 32)
set_option maxRecDepth 100000 in
set_option maxHeartbeats 400000 in
theorem k_M_readPlan {g : zi_M} {Q : Int → zi_M → Prop} (I : zk_I g) (hQ : ∀ (v : Int) (g' : zi_M), zk_I g' → zk_fr fr_M_readPlan g g' → ((-1) ≤ v ∧ v ≤ 16) → Q v g') : w_M_readPlan g Q := by
  sorry
