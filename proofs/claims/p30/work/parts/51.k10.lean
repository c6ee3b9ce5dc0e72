-- by program (wip/gen/mkz.py)
-- SpoutNewsModel.readWeather()I
def fr_M_readWeather (a : Nat) (i : Int) : Prop := a = 233 ∨ (a = 214 ∧ i = 14) ∨ (a = 214 ∧ i = 15) ∨ (a = 214 ∧ i = 16) ∨ (a = 214 ∧ i = 17) ∨ (a = 214 ∧ i = 31) ∨ (a = 214 ∧ i = 32)
set_option maxRecDepth 100000 in
set_option maxHeartbeats 400000 in
theorem k_M_readWeather {g : zi_M} {Q : Int → zi_M → Prop} (I : zk_I g) (hQ : ∀ (v : Int) (g' : zi_M), zk_I g' → zk_fr fr_M_readWeather g g' → ((-1) ≤ v ∧ v ≤ 16) → Q v g') : w_M_readWeather g Q := by
  sorry
-- SpoutNewsModel.readGutter()I
def fr_M_readGutter (a : Nat) (i : Int) : Prop := a = 232 ∨ (a = 214 ∧ i = 14) ∨ (a = 214 ∧ i = 15) ∨ (a = 214 ∧ i = 16) ∨ (a = 214 ∧ i = 17) ∨ (a = 214 ∧ i = 31) ∨ (a = 214 ∧ i = 32)
set_option maxRecDepth 100000 in
set_option maxHeartbeats 400000 in
theorem k_M_readGutter {g : zi_M} {Q : Int → zi_M → Prop} (I : zk_I g) (hQ : ∀ (v : Int) (g' : zi_M), zk_I g' → zk_fr fr_M_readGutter g g' → ((-1) ≤ v ∧ v ≤ 0) → Q v g') : w_M_readGutter g Q := by
  sorry
-- SpoutNewsModel.readGutters()I
def fr_M_readGutters (a : Nat) (i : Int) : Prop := a = 232 ∨ (a = 214 ∧ i = 14) ∨ (a = 214 ∧ i = 15) ∨ (a = 214 ∧ i = 16) ∨ (a = 214 ∧ i = 17) ∨ (a = 214 ∧ i = 31) ∨ (a = 214 ∧ i = 32)
set_option maxRecDepth 100000 in
set_option maxHeartbeats 400000 in
theorem k_M_readGutters {g : zi_M} {Q : Int → zi_M → Prop} (I : zk_I g) (hQ : ∀ (v : Int) (g' : zi_M), zk_I g' → zk_fr fr_M_readGutters g g' → ((-1) ≤ v ∧ v ≤ 16) → Q v g') : w_M_readGutters g Q := by
  sorry
-- SpoutNewsModel.readsText(I)I
def fr_M_readsText (a : Nat) (i : Int) : Prop := a = 225 ∨ a = 226 ∨ a = 227 ∨ a = 228 ∨ a = 229 ∨ a = 230 ∨ a = 231 ∨ a = 232 ∨ a = 233 ∨ a = 234 ∨ (a = 214 ∧ i = 14) ∨ (a = 214 ∧ i = 15) ∨ (a = 214 ∧ i = 16) ∨ (a = 214 ∧ i = 17) ∨ (a = 214 ∧ i = 26) ∨ (a = 214 ∧ i = 27) ∨ (a = 214 ∧ i = 28) ∨ (a = 214 ∧ i = 30) ∨ (a = 214 ∧ i = 31) ∨ (a = 214 ∧ i = 32)
set_option maxRecDepth 100000 in
set_option maxHeartbeats 400000 in
theorem k_M_readsText {l1 : Int} {g : zi_M} {Q : Int → zi_M → Prop} (I : zk_I g) (p1 : (-2147483648) ≤ l1 ∧ l1 ≤ 2147483647) (hQ : ∀ (v : Int) (g' : zi_M), zk_I g' → zk_fr fr_M_readsText g g' → ((-1) ≤ v ∧ v ≤ 16) → Q v g') : w_M_readsText l1 g Q := by
  unfold w_M_readsText
  intro g1 e_1
  have I_2 : zk_I g1 := by rw [e_1]; exact zk_upd (L := 0) (H := 0) rfl rfl I ⟨by omega, by omega⟩
  have F_3 : zk_fr fr_M_readsText g g1 := by rw [e_1]; exact zk_fu (zk_f0 _) (Or.inr (Or.inr (Or.inr (Or.inr (Or.inr (Or.inr (Or.inr (Or.inr (Or.inr (Or.inr (Or.inr (Or.inr (Or.inr (Or.inr (Or.inl ⟨rfl, rfl⟩)))))))))))))))
  refine k_M_reads I_2 (fun g3 I_4 F_5 => ?_)
  have F_6 : zk_fr fr_M_readsText g g3 := zk_ft F_3 F_5 (fun a i => (fun h => Or.elim h (fun h => (Or.inr (Or.inr (Or.inr (Or.inr (Or.inr (Or.inr (Or.inr (Or.inr (Or.inr (Or.inr (Or.inl h)))))))))))) (fun h => Or.elim h (fun h => (Or.inr (Or.inr (Or.inr (Or.inr (Or.inr (Or.inr (Or.inr (Or.inr (Or.inr (Or.inr (Or.inr (Or.inl h))))))))))))) (fun h => Or.elim h (fun h => (Or.inr (Or.inr (Or.inr (Or.inr (Or.inr (Or.inr (Or.inr (Or.inr (Or.inr (Or.inr (Or.inr (Or.inr (Or.inl h)))))))))))))) (fun h => (Or.inr (Or.inr (Or.inr (Or.inr (Or.inr (Or.inr (Or.inr (Or.inr (Or.inr (Or.inr (Or.inr (Or.inr (Or.inr (Or.inl h)))))))))))))))))))
  refine ⟨⟨by omega, by omega⟩, ?_⟩
  refine ⟨fun c20 => ?_, fun c20 => ?_⟩
  · refine ⟨fun c16 => ?_, fun c16 => ?_⟩
    · refine ⟨fun c12 => ?_, fun c12 => ?_⟩
      · refine k_M_readLaw I_4 (fun v6 g7 I_8 F_9 b_7 => ?_)
        have F_10 : zk_fr fr_M_readsText g g7 := zk_ft F_6 F_9 (fun a i => (fun h => Or.elim h (fun h => (Or.inl h)) (fun h => Or.elim h (fun h => (Or.inr (Or.inl h))) (fun h => Or.elim h (fun h => (Or.inr (Or.inr (Or.inl h)))) (fun h => Or.elim h (fun h => (Or.inr (Or.inr (Or.inr (Or.inl h))))) (fun h => Or.elim h (fun h => (Or.inr (Or.inr (Or.inr (Or.inr (Or.inl h)))))) (fun h => Or.elim h (fun h => (Or.inr (Or.inr (Or.inr (Or.inr (Or.inr (Or.inl h))))))) (fun h => Or.elim h (fun h => (Or.inr (Or.inr (Or.inr (Or.inr (Or.inr (Or.inr (Or.inl h)))))))) (fun h => Or.elim h (fun h => (Or.inr (Or.inr (Or.inr (Or.inr (Or.inr (Or.inr (Or.inr (Or.inr (Or.inr (Or.inr (Or.inl h)))))))))))) (fun h => Or.elim h (fun h => (Or.inr (Or.inr (Or.inr (Or.inr (Or.inr (Or.inr (Or.inr (Or.inr (Or.inr (Or.inr (Or.inr (Or.inl h))))))))))))) (fun h => Or.elim h (fun h => (Or.inr (Or.inr (Or.inr (Or.inr (Or.inr (Or.inr (Or.inr (Or.inr (Or.inr (Or.inr (Or.inr (Or.inr (Or.inl h)))))))))))))) (fun h => Or.elim h (fun h => (Or.inr (Or.inr (Or.inr (Or.inr (Or.inr (Or.inr (Or.inr (Or.inr (Or.inr (Or.inr (Or.inr (Or.inr (Or.inr (Or.inl h))))))))))))))) (fun h => Or.elim h (fun h => (Or.inr (Or.inr (Or.inr (Or.inr (Or.inr (Or.inr (Or.inr (Or.inr (Or.inr (Or.inr (Or.inr (Or.inr (Or.inr (Or.inr (Or.inr (Or.inl h))))))))))))))))) (fun h => Or.elim h (fun h => (Or.inr (Or.inr (Or.inr (Or.inr (Or.inr (Or.inr (Or.inr (Or.inr (Or.inr (Or.inr (Or.inr (Or.inr (Or.inr (Or.inr (Or.inr (Or.inr (Or.inl h)))))))))))))))))) (fun h => Or.elim h (fun h => (Or.inr (Or.inr (Or.inr (Or.inr (Or.inr (Or.inr (Or.inr (Or.inr (Or.inr (Or.inr (Or.inr (Or.inr (Or.inr (Or.inr (Or.inr (Or.inr (Or.inr (Or.inl h))))))))))))))))))) (fun h => Or.elim h (fun h => (Or.inr (Or.inr (Or.inr (Or.inr (Or.inr (Or.inr (Or.inr (Or.inr (Or.inr (Or.inr (Or.inr (Or.inr (Or.inr (Or.inr (Or.inr (Or.inr (Or.inr (Or.inr (Or.inl h)))))))))))))))))))) (fun h => (Or.inr (Or.inr (Or.inr (Or.inr (Or.inr (Or.inr (Or.inr (Or.inr (Or.inr (Or.inr (Or.inr (Or.inr (Or.inr (Or.inr (Or.inr (Or.inr (Or.inr (Or.inr (Or.inr h))))))))))))))))))))))))))))))))))))
        exact hQ _ _ I_8 F_10 ⟨by omega, by omega⟩
      · refine k_M_readPlan I_4 (fun v9 g10 I_12 F_13 b_11 => ?_)
        have F_14 : zk_fr fr_M_readsText g g10 := zk_ft F_6 F_13 (fun a i => (fun h => Or.elim h (fun h => (Or.inr (Or.inr (Or.inr (Or.inr (Or.inr (Or.inr (Or.inr (Or.inr (Or.inr (Or.inl h))))))))))) (fun h => Or.elim h (fun h => (Or.inr (Or.inr (Or.inr (Or.inr (Or.inr (Or.inr (Or.inr (Or.inr (Or.inr (Or.inr (Or.inl h)))))))))))) (fun h => Or.elim h (fun h => (Or.inr (Or.inr (Or.inr (Or.inr (Or.inr (Or.inr (Or.inr (Or.inr (Or.inr (Or.inr (Or.inr (Or.inl h))))))))))))) (fun h => Or.elim h (fun h => (Or.inr (Or.inr (Or.inr (Or.inr (Or.inr (Or.inr (Or.inr (Or.inr (Or.inr (Or.inr (Or.inr (Or.inr (Or.inl h)))))))))))))) (fun h => Or.elim h (fun h => (Or.inr (Or.inr (Or.inr (Or.inr (Or.inr (Or.inr (Or.inr (Or.inr (Or.inr (Or.inr (Or.inr (Or.inr (Or.inr (Or.inl h))))))))))))))) (fun h => Or.elim h (fun h => (Or.inr (Or.inr (Or.inr (Or.inr (Or.inr (Or.inr (Or.inr (Or.inr (Or.inr (Or.inr (Or.inr (Or.inr (Or.inr (Or.inr (Or.inr (Or.inr (Or.inr (Or.inr (Or.inl h)))))))))))))))))))) (fun h => (Or.inr (Or.inr (Or.inr (Or.inr (Or.inr (Or.inr (Or.inr (Or.inr (Or.inr (Or.inr (Or.inr (Or.inr (Or.inr (Or.inr (Or.inr (Or.inr (Or.inr (Or.inr (Or.inr h)))))))))))))))))))))))))))
        exact hQ _ _ I_12 F_14 ⟨by omega, by omega⟩
    · refine k_M_readWeather I_4 (fun v13 g14 I_16 F_17 b_15 => ?_)
      have F_18 : zk_fr fr_M_readsText g g14 := zk_ft F_6 F_17 (fun a i => (fun h => Or.elim h (fun h => (Or.inr (Or.inr (Or.inr (Or.inr (Or.inr (Or.inr (Or.inr (Or.inr (Or.inl h)))))))))) (fun h => Or.elim h (fun h => (Or.inr (Or.inr (Or.inr (Or.inr (Or.inr (Or.inr (Or.inr (Or.inr (Or.inr (Or.inr (Or.inl h)))))))))))) (fun h => Or.elim h (fun h => (Or.inr (Or.inr (Or.inr (Or.inr (Or.inr (Or.inr (Or.inr (Or.inr (Or.inr (Or.inr (Or.inr (Or.inl h))))))))))))) (fun h => Or.elim h (fun h => (Or.inr (Or.inr (Or.inr (Or.inr (Or.inr (Or.inr (Or.inr (Or.inr (Or.inr (Or.inr (Or.inr (Or.inr (Or.inl h)))))))))))))) (fun h => Or.elim h (fun h => (Or.inr (Or.inr (Or.inr (Or.inr (Or.inr (Or.inr (Or.inr (Or.inr (Or.inr (Or.inr (Or.inr (Or.inr (Or.inr (Or.inl h))))))))))))))) (fun h => Or.elim h (fun h => (Or.inr (Or.inr (Or.inr (Or.inr (Or.inr (Or.inr (Or.inr (Or.inr (Or.inr (Or.inr (Or.inr (Or.inr (Or.inr (Or.inr (Or.inr (Or.inr (Or.inr (Or.inr (Or.inl h)))))))))))))))))))) (fun h => (Or.inr (Or.inr (Or.inr (Or.inr (Or.inr (Or.inr (Or.inr (Or.inr (Or.inr (Or.inr (Or.inr (Or.inr (Or.inr (Or.inr (Or.inr (Or.inr (Or.inr (Or.inr (Or.inr h)))))))))))))))))))))))))))
      exact hQ _ _ I_16 F_18 ⟨by omega, by omega⟩
  · refine k_M_readGutters I_4 (fun v17 g18 I_20 F_21 b_19 => ?_)
    have F_22 : zk_fr fr_M_readsText g g18 := zk_ft F_6 F_21 (fun a i => (fun h => Or.elim h (fun h => (Or.inr (Or.inr (Or.inr (Or.inr (Or.inr (Or.inr (Or.inr (Or.inl h))))))))) (fun h => Or.elim h (fun h => (Or.inr (Or.inr (Or.inr (Or.inr (Or.inr (Or.inr (Or.inr (Or.inr (Or.inr (Or.inr (Or.inl h)))))))))))) (fun h => Or.elim h (fun h => (Or.inr (Or.inr (Or.inr (Or.inr (Or.inr (Or.inr (Or.inr (Or.inr (Or.inr (Or.inr (Or.inr (Or.inl h))))))))))))) (fun h => Or.elim h (fun h => (Or.inr (Or.inr (Or.inr (Or.inr (Or.inr (Or.inr (Or.inr (Or.inr (Or.inr (Or.inr (Or.inr (Or.inr (Or.inl h)))))))))))))) (fun h => Or.elim h (fun h => (Or.inr (Or.inr (Or.inr (Or.inr (Or.inr (Or.inr (Or.inr (Or.inr (Or.inr (Or.inr (Or.inr (Or.inr (Or.inr (Or.inl h))))))))))))))) (fun h => Or.elim h (fun h => (Or.inr (Or.inr (Or.inr (Or.inr (Or.inr (Or.inr (Or.inr (Or.inr (Or.inr (Or.inr (Or.inr (Or.inr (Or.inr (Or.inr (Or.inr (Or.inr (Or.inr (Or.inr (Or.inl h)))))))))))))))))))) (fun h => (Or.inr (Or.inr (Or.inr (Or.inr (Or.inr (Or.inr (Or.inr (Or.inr (Or.inr (Or.inr (Or.inr (Or.inr (Or.inr (Or.inr (Or.inr (Or.inr (Or.inr (Or.inr (Or.inr h)))))))))))))))))))))))))))
    exact hQ _ _ I_20 F_22 ⟨by omega, by omega⟩
-- SpoutNewsModel.text(I)I
def fr_M_text (a : Nat) (i : Int) : Prop := a = 224 ∨ a = 225 ∨ a = 226 ∨ a = 227 ∨ a = 228 ∨ a = 229 ∨ a = 230 ∨ a = 231 ∨ a = 232 ∨ a = 233 ∨ a = 234 ∨ (a = 214 ∧ i = 0) ∨ (a = 214 ∧ i = 13) ∨ (a = 214 ∧ i = 14) ∨ (a = 214 ∧ i = 15) ∨ (a = 214 ∧ i = 16) ∨ (a = 214 ∧ i = 17) ∨ (a = 214 ∧ i = 26) ∨ (a = 214 ∧ i = 27) ∨ (a = 214 ∧ i = 28) ∨ (a = 214 ∧ i = 3) ∨ (a = 214 ∧ i = 30) ∨ (a = 214 ∧ i = 31) ∨ (a = 214 ∧ i = 32) ∨ (a = 214 ∧ i = 33) ∨ (a = 214 ∧ i = 34) ∨ (a = 214 ∧ i = 35) ∨ (a = 214 ∧ i = 37) ∨ (a = 214 ∧ i = 39)
set_option maxRecDepth 100000 in
set_option maxHeartbeats 400000 in
theorem k_M_text_b69 {l1 : Int} {l2 : Int} {Q : Int → zi_M → Prop} {g : zi_M} {g0 : zi_M} (I : zk_I g) (F : zk_fr fr_M_text g0 g) (p1 : (-2147483648) ≤ l1 ∧ l1 ≤ 2147483647) (p2 : (-1) ≤ l2 ∧ l2 ≤ 16) (hQ : ∀ (v : Int) (g' : zi_M), zk_I g' → zk_fr fr_M_text g0 g' → ((-1) ≤ v ∧ v ≤ 16) → Q v g') : w_M_text_b69 l1 l2 g Q := by
  unfold w_M_text_b69
  intro g10 e_22
  have I_23 : zk_I g10 := by rw [e_22]; exact zk_upd (L := 0) (H := 400) rfl rfl I ⟨by omega, by omega⟩
  have F_24 : zk_fr fr_M_text g0 g10 := by rw [e_22]; exact zk_fu F (Or.inr (Or.inr (Or.inr (Or.inr (Or.inr (Or.inr (Or.inr (Or.inr (Or.inr (Or.inr (Or.inr (Or.inr (Or.inl ⟨rfl, rfl⟩)))))))))))))
  refine ⟨⟨by omega, by omega⟩, ?_⟩
  refine ⟨fun c20 => ?_, fun c20 => ?_⟩
  · refine ⟨⟨by omega, by omega⟩, ?_⟩
    refine ⟨fun c19 => ?_, fun c19 => ?_⟩
    · refine k_M_takesOther I_23 ⟨by omega, by omega⟩ ⟨by omega, by omega⟩ (fun g14 I_25 F_26 => ?_)
      have F_27 : zk_fr fr_M_text g0 g14 := zk_ft F_24 F_26 (fun a i => (fun h => Or.elim h (fun h => (Or.inr (Or.inr (Or.inr (Or.inr (Or.inr (Or.inr (Or.inr (Or.inr (Or.inl h)))))))))) (fun h => Or.elim h (fun h => (Or.inr (Or.inr (Or.inr (Or.inr (Or.inr (Or.inr (Or.inr (Or.inr (Or.inr (Or.inl h))))))))))) (fun h => Or.elim h (fun h => (Or.inr (Or.inr (Or.inr (Or.inr (Or.inr (Or.inr (Or.inr (Or.inr (Or.inr (Or.inr (Or.inl h)))))))))))) (fun h => Or.elim h (fun h => (Or.inr (Or.inr (Or.inr (Or.inr (Or.inr (Or.inr (Or.inr (Or.inr (Or.inr (Or.inr (Or.inr (Or.inr (Or.inr (Or.inr (Or.inr (Or.inr (Or.inr (Or.inr (Or.inr (Or.inr (Or.inl h)))))))))))))))))))))) (fun h => Or.elim h (fun h => (Or.inr (Or.inr (Or.inr (Or.inr (Or.inr (Or.inr (Or.inr (Or.inr (Or.inr (Or.inr (Or.inr (Or.inr (Or.inr (Or.inr (Or.inr (Or.inr (Or.inr (Or.inr (Or.inr (Or.inr (Or.inr (Or.inr (Or.inr (Or.inr (Or.inr (Or.inr (Or.inl h)))))))))))))))))))))))))))) (fun h => Or.elim h (fun h => (Or.inr (Or.inr (Or.inr (Or.inr (Or.inr (Or.inr (Or.inr (Or.inr (Or.inr (Or.inr (Or.inr (Or.inr (Or.inr (Or.inr (Or.inr (Or.inr (Or.inr (Or.inr (Or.inr (Or.inr (Or.inr (Or.inr (Or.inr (Or.inr (Or.inr (Or.inr (Or.inr (Or.inl h))))))))))))))))))))))))))))) (fun h => (Or.inr (Or.inr (Or.inr (Or.inr (Or.inr (Or.inr (Or.inr (Or.inr (Or.inr (Or.inr (Or.inr (Or.inr (Or.inr (Or.inr (Or.inr (Or.inr (Or.inr (Or.inr (Or.inr (Or.inr (Or.inr (Or.inr (Or.inr (Or.inr (Or.inr (Or.inr (Or.inr (Or.inr h))))))))))))))))))))))))))))))))))))
      exact hQ _ _ I_25 F_27 ⟨by omega, by omega⟩
    · refine k_M_takesLaw I_23 ⟨by omega, by omega⟩ (fun g17 I_28 F_29 => ?_)
      have F_30 : zk_fr fr_M_text g0 g17 := zk_ft F_24 F_29 (fun a i => (fun h => Or.elim h (fun h => (Or.inl h)) (fun h => Or.elim h (fun h => (Or.inr (Or.inl h))) (fun h => Or.elim h (fun h => (Or.inr (Or.inr (Or.inl h)))) (fun h => Or.elim h (fun h => (Or.inr (Or.inr (Or.inr (Or.inl h))))) (fun h => Or.elim h (fun h => (Or.inr (Or.inr (Or.inr (Or.inr (Or.inl h)))))) (fun h => Or.elim h (fun h => (Or.inr (Or.inr (Or.inr (Or.inr (Or.inr (Or.inl h))))))) (fun h => (Or.inr (Or.inr (Or.inr (Or.inr (Or.inr (Or.inr (Or.inl h)))))))))))))))
      exact hQ _ _ I_28 F_30 ⟨by omega, by omega⟩
  · exact hQ _ _ I_23 F_24 ⟨by omega, by omega⟩
set_option maxRecDepth 100000 in
set_option maxHeartbeats 400000 in
theorem k_M_text {l1 : Int} {g : zi_M} {Q : Int → zi_M → Prop} (I : zk_I g) (p1 : (-2147483648) ≤ l1 ∧ l1 ≤ 2147483647) (hQ : ∀ (v : Int) (g' : zi_M), zk_I g' → zk_fr fr_M_text g g' → ((-1) ≤ v ∧ v ≤ 16) → Q v g') : w_M_text l1 g Q := by
  unfold w_M_text
  intro g1 e_1
  have I_2 : zk_I g1 := by rw [e_1]; exact zk_upd (L := (-2147483648)) (H := 2147483647) rfl rfl I ⟨by omega, by omega⟩
  have F_3 : zk_fr fr_M_text g g1 := by rw [e_1]; exact zk_fu (zk_f0 _) (Or.inr (Or.inr (Or.inr (Or.inr (Or.inr (Or.inr (Or.inr (Or.inr (Or.inr (Or.inr (Or.inr (Or.inl ⟨rfl, rfl⟩))))))))))))
  intro g2 e_4
  have I_5 : zk_I g2 := by rw [e_4]; exact zk_upd (L := 0) (H := 3) rfl rfl I_2 ⟨by omega, by omega⟩
  have F_6 : zk_fr fr_M_text g g2 := by rw [e_4]; exact zk_fu F_3 (Or.inr (Or.inr (Or.inr (Or.inr (Or.inr (Or.inr (Or.inr (Or.inr (Or.inr (Or.inr (Or.inr (Or.inr (Or.inr (Or.inr (Or.inr (Or.inr (Or.inr (Or.inr (Or.inr (Or.inr (Or.inr (Or.inr (Or.inr (Or.inr (Or.inl ⟨rfl, rfl⟩)))))))))))))))))))))))))
  intro g3 e_7
  have I_8 : zk_I g3 := by rw [e_7]; exact zk_upd (L := (-1)) (H := 400) rfl rfl I_5 ⟨by omega, by omega⟩
  have F_9 : zk_fr fr_M_text g g3 := by rw [e_7]; exact zk_fu F_6 (Or.inr (Or.inr (Or.inr (Or.inr (Or.inr (Or.inr (Or.inr (Or.inr (Or.inr (Or.inr (Or.inr (Or.inr (Or.inr (Or.inr (Or.inr (Or.inr (Or.inr (Or.inr (Or.inr (Or.inr (Or.inr (Or.inr (Or.inr (Or.inr (Or.inr (Or.inl ⟨rfl, rfl⟩))))))))))))))))))))))))))
  intro g4 e_10
  have I_11 : zk_I g4 := by rw [e_10]; exact zk_upd (L := 0) (H := 400) rfl rfl I_8 ⟨by omega, by omega⟩
  have F_12 : zk_fr fr_M_text g g4 := by rw [e_10]; exact zk_fu F_9 (Or.inr (Or.inr (Or.inr (Or.inr (Or.inr (Or.inr (Or.inr (Or.inr (Or.inr (Or.inr (Or.inr (Or.inr (Or.inr (Or.inl ⟨rfl, rfl⟩))))))))))))))
  intro g5 e_13
  have I_14 : zk_I g5 := by rw [e_13]; exact zk_upd (L := 0) (H := 400) rfl rfl I_11 ⟨by omega, by omega⟩
  have F_15 : zk_fr fr_M_text g g5 := by rw [e_13]; exact zk_fu F_12 (Or.inr (Or.inr (Or.inr (Or.inr (Or.inr (Or.inr (Or.inr (Or.inr (Or.inr (Or.inr (Or.inr (Or.inr (Or.inr (Or.inr (Or.inr (Or.inr (Or.inr (Or.inr (Or.inl ⟨rfl, rfl⟩)))))))))))))))))))
  intro g6 e_16
  have I_17 : zk_I g6 := by rw [e_16]; exact zk_upd (L := 0) (H := 8) rfl rfl I_14 ⟨by omega, by omega⟩
  have F_18 : zk_fr fr_M_text g g6 := by rw [e_16]; exact zk_fu F_15 (Or.inr (Or.inr (Or.inr (Or.inr (Or.inr (Or.inr (Or.inr (Or.inr (Or.inr (Or.inr (Or.inr (Or.inr (Or.inr (Or.inr (Or.inr (Or.inr (Or.inr (Or.inr (Or.inr (Or.inl ⟨rfl, rfl⟩))))))))))))))))))))
  refine k_M_isIn I_17 ⟨by omega, by omega⟩ ⟨by omega, by omega⟩ ⟨by omega, by omega⟩ (fun v7 b_19 b_20 b_21 => ?_)
  refine ⟨fun c28 => ?_, fun c28 => ?_⟩
  · exact k_M_text_b69 I_17 F_18 ⟨by omega, by omega⟩ ⟨by omega, by omega⟩ hQ
  · refine k_M_readsText I_17 ⟨by omega, by omega⟩ (fun v21 g22 I_32 F_33 b_31 => ?_)
    have F_34 : zk_fr fr_M_text g g22 := zk_ft F_18 F_33 (fun a i => (fun h => Or.elim h (fun h => (Or.inr (Or.inl h))) (fun h => Or.elim h (fun h => (Or.inr (Or.inr (Or.inl h)))) (fun h => Or.elim h (fun h => (Or.inr (Or.inr (Or.inr (Or.inl h))))) (fun h => Or.elim h (fun h => (Or.inr (Or.inr (Or.inr (Or.inr (Or.inl h)))))) (fun h => Or.elim h (fun h => (Or.inr (Or.inr (Or.inr (Or.inr (Or.inr (Or.inl h))))))) (fun h => Or.elim h (fun h => (Or.inr (Or.inr (Or.inr (Or.inr (Or.inr (Or.inr (Or.inl h)))))))) (fun h => Or.elim h (fun h => (Or.inr (Or.inr (Or.inr (Or.inr (Or.inr (Or.inr (Or.inr (Or.inl h))))))))) (fun h => Or.elim h (fun h => (Or.inr (Or.inr (Or.inr (Or.inr (Or.inr (Or.inr (Or.inr (Or.inr (Or.inl h)))))))))) (fun h => Or.elim h (fun h => (Or.inr (Or.inr (Or.inr (Or.inr (Or.inr (Or.inr (Or.inr (Or.inr (Or.inr (Or.inl h))))))))))) (fun h => Or.elim h (fun h => (Or.inr (Or.inr (Or.inr (Or.inr (Or.inr (Or.inr (Or.inr (Or.inr (Or.inr (Or.inr (Or.inl h)))))))))))) (fun h => Or.elim h (fun h => (Or.inr (Or.inr (Or.inr (Or.inr (Or.inr (Or.inr (Or.inr (Or.inr (Or.inr (Or.inr (Or.inr (Or.inr (Or.inr (Or.inl h))))))))))))))) (fun h => Or.elim h (fun h => (Or.inr (Or.inr (Or.inr (Or.inr (Or.inr (Or.inr (Or.inr (Or.inr (Or.inr (Or.inr (Or.inr (Or.inr (Or.inr (Or.inr (Or.inl h)))))))))))))))) (fun h => Or.elim h (fun h => (Or.inr (Or.inr (Or.inr (Or.inr (Or.inr (Or.inr (Or.inr (Or.inr (Or.inr (Or.inr (Or.inr (Or.inr (Or.inr (Or.inr (Or.inr (Or.inl h))))))))))))))))) (fun h => Or.elim h (fun h => (Or.inr (Or.inr (Or.inr (Or.inr (Or.inr (Or.inr (Or.inr (Or.inr (Or.inr (Or.inr (Or.inr (Or.inr (Or.inr (Or.inr (Or.inr (Or.inr (Or.inl h)))))))))))))))))) (fun h => Or.elim h (fun h => (Or.inr (Or.inr (Or.inr (Or.inr (Or.inr (Or.inr (Or.inr (Or.inr (Or.inr (Or.inr (Or.inr (Or.inr (Or.inr (Or.inr (Or.inr (Or.inr (Or.inr (Or.inl h))))))))))))))))))) (fun h => Or.elim h (fun h => (Or.inr (Or.inr (Or.inr (Or.inr (Or.inr (Or.inr (Or.inr (Or.inr (Or.inr (Or.inr (Or.inr (Or.inr (Or.inr (Or.inr (Or.inr (Or.inr (Or.inr (Or.inr (Or.inl h)))))))))))))))))))) (fun h => Or.elim h (fun h => (Or.inr (Or.inr (Or.inr (Or.inr (Or.inr (Or.inr (Or.inr (Or.inr (Or.inr (Or.inr (Or.inr (Or.inr (Or.inr (Or.inr (Or.inr (Or.inr (Or.inr (Or.inr (Or.inr (Or.inl h))))))))))))))))))))) (fun h => Or.elim h (fun h => (Or.inr (Or.inr (Or.inr (Or.inr (Or.inr (Or.inr (Or.inr (Or.inr (Or.inr (Or.inr (Or.inr (Or.inr (Or.inr (Or.inr (Or.inr (Or.inr (Or.inr (Or.inr (Or.inr (Or.inr (Or.inr (Or.inl h))))))))))))))))))))))) (fun h => Or.elim h (fun h => (Or.inr (Or.inr (Or.inr (Or.inr (Or.inr (Or.inr (Or.inr (Or.inr (Or.inr (Or.inr (Or.inr (Or.inr (Or.inr (Or.inr (Or.inr (Or.inr (Or.inr (Or.inr (Or.inr (Or.inr (Or.inr (Or.inr (Or.inl h)))))))))))))))))))))))) (fun h => (Or.inr (Or.inr (Or.inr (Or.inr (Or.inr (Or.inr (Or.inr (Or.inr (Or.inr (Or.inr (Or.inr (Or.inr (Or.inr (Or.inr (Or.inr (Or.inr (Or.inr (Or.inr (Or.inr (Or.inr (Or.inr (Or.inr (Or.inr (Or.inl h)))))))))))))))))))))))))))))))))))))))))))))
    refine ⟨⟨by omega, by omega⟩, ?_⟩
    refine ⟨fun c27 => ?_, fun c27 => ?_⟩
    · exact k_M_text_b69 I_32 F_34 ⟨by omega, by omega⟩ ⟨by omega, by omega⟩ hQ
    · have m_38 : 0 ≤ (g22 214 31) ∧ (g22 214 31) ≤ 3 := I_32 214 31
      intro g25 e_35
      have I_36 : zk_I g25 := by rw [e_35]; exact zk_upd (L := 0) (H := 3) rfl rfl I_32 ⟨by omega, by omega⟩
      have F_37 : zk_fr fr_M_text g g25 := by rw [e_35]; exact zk_fu F_34 (Or.inr (Or.inr (Or.inr (Or.inr (Or.inr (Or.inr (Or.inr (Or.inr (Or.inr (Or.inr (Or.inr (Or.inr (Or.inr (Or.inr (Or.inr (Or.inr (Or.inr (Or.inr (Or.inr (Or.inr (Or.inr (Or.inr (Or.inr (Or.inr (Or.inl ⟨rfl, rfl⟩)))))))))))))))))))))))))
      have m_42 : 0 ≤ (g25 214 32) ∧ (g25 214 32) ≤ 400 := I_36 214 32
      have m_43 : g25 214 32 = g22 214 32 := by rw [e_35]; exact zi_u_ni (by decide)
      have m_44 : 0 ≤ (g22 214 32) ∧ (g22 214 32) ≤ 400 := I_32 214 32
      intro g26 e_39
      have I_40 : zk_I g26 := by rw [e_39]; exact zk_upd (L := (-1)) (H := 400) rfl rfl I_36 ⟨by omega, by omega⟩
      have F_41 : zk_fr fr_M_text g g26 := by rw [e_39]; exact zk_fu F_37 (Or.inr (Or.inr (Or.inr (Or.inr (Or.inr (Or.inr (Or.inr (Or.inr (Or.inr (Or.inr (Or.inr (Or.inr (Or.inr (Or.inr (Or.inr (Or.inr (Or.inr (Or.inr (Or.inr (Or.inr (Or.inr (Or.inr (Or.inr (Or.inr (Or.inr (Or.inl ⟨rfl, rfl⟩))))))))))))))))))))))))))
      exact k_M_text_b69 I_40 F_41 ⟨by omega, by omega⟩ ⟨by omega, by omega⟩ hQ
-- SpoutNews.fault(I)I
set_option maxRecDepth 100000 in
set_option maxHeartbeats 400000 in
theorem k_S_fault {l1 : Int} {g : zi_M} {Q : Int → zi_M → Prop} (I : zk_I g) (p1 : (-2147483648) ≤ l1 ∧ l1 ≤ 2147483647) (hQ : ∀ v : Int, ((l1 = 0) → v = g 191 5) → ((l1 = 1) → v = g 191 6) → (¬ l1 = 0 → ¬ l1 = 1 → v = (-1)) → Q v g) : w_S_fault l1 g Q := by
  unfold w_S_fault
  refine ⟨⟨by omega, by omega⟩, ?_⟩
  refine ⟨fun c2_0 c2_1 => ?_, fun c2 => ?_, fun c2 => ?_⟩
  · have m_1 : 0 ≤ (g 191 5) ∧ (g 191 5) ≤ 3 := I 191 5
    have m_2 : (-1) ≤ (g 191 6) ∧ (g 191 6) ≤ 400 := I 191 6
    exact hQ _ (by intros; omega) (by intros; omega) (by intros; omega)
  · have m_3 : 0 ≤ (g 191 5) ∧ (g 191 5) ≤ 3 := I 191 5
    have m_4 : (-1) ≤ (g 191 6) ∧ (g 191 6) ≤ 400 := I 191 6
    exact hQ _ (by intros; omega) (by intros; omega) (by intros; omega)
  · have m_5 : (-1) ≤ (g 191 6) ∧ (g 191 6) ≤ 400 := I 191 6
    have m_6 : 0 ≤ (g 191 5) ∧ (g 191 5) ≤ 3 := I 191 5
    exact hQ _ (by intros; omega) (by intros; omega) (by intros; omega)
-- SpoutNewsModel.fault(I)I
def fr_M_fault (a : Nat) (i : Int) : Prop := (a = 214 ∧ i = 0)
set_option maxRecDepth 100000 in
set_option maxHeartbeats 400000 in
theorem k_M_fault {l1 : Int} {g : zi_M} {Q : Int → zi_M → Prop} (I : zk_I g) (p1 : (-2147483648) ≤ l1 ∧ l1 ≤ 2147483647) (hQ : ∀ (v : Int) (g' : zi_M), zk_I g' → zk_fr fr_M_fault g g' → ((-1) ≤ v ∧ v ≤ 400) → Q v g') : w_M_fault l1 g Q := by
  unfold w_M_fault
  intro g1 e_1
  have I_2 : zk_I g1 := by rw [e_1]; exact zk_upd (L := (-2147483648)) (H := 2147483647) rfl rfl I ⟨by omega, by omega⟩
  have F_3 : zk_fr fr_M_fault g g1 := by rw [e_1]; exact zk_fu (zk_f0 _) ⟨rfl, rfl⟩
  refine ⟨⟨by omega, by omega⟩, ?_⟩
  refine ⟨fun c4 => ?_, fun c4 => ?_⟩
  · refine ⟨fun c3 => ?_, fun c3 => ?_⟩
    · exact hQ _ _ I_2 F_3 ⟨by omega, by omega⟩
    · have m_4 : (-1) ≤ (g1 214 34) ∧ (g1 214 34) ≤ 400 := I_2 214 34
      have m_5 : g1 214 34 = g 214 34 := by rw [e_1]; exact zi_u_ni (by decide)
      have m_6 : (-1) ≤ (g 214 34) ∧ (g 214 34) ≤ 400 := I 214 34
      exact hQ _ _ I_2 F_3 ⟨by omega, by omega⟩
  · have m_7 : 0 ≤ (g1 214 33) ∧ (g1 214 33) ≤ 3 := I_2 214 33
    have m_8 : g1 214 33 = g 214 33 := by rw [e_1]; exact zi_u_ni (by decide)
    have m_9 : 0 ≤ (g 214 33) ∧ (g 214 33) ≤ 3 := I 214 33
    exact hQ _ _ I_2 F_3 ⟨by omega, by omega⟩
-- SpoutNews.of(II)I
def fr_S_of (a : Nat) (i : Int) : Prop := a = 27 ∨ a = 28
set_option maxRecDepth 100000 in
set_option maxHeartbeats 400000 in
theorem k_S_of {l1 : Int} {l2 : Int} {g : zi_M} {Q : Int → zi_M → Prop} (I : zk_I g) (p1 : (-2147483648) ≤ l1 ∧ l1 ≤ 2147483647) (p2 : (-2147483648) ≤ l2 ∧ l2 ≤ 2147483647) (hQ : ∀ (v : Int) (g' : zi_M), zk_I g' → zk_fr fr_S_of g g' → ((-2) ≤ v ∧ v ≤ 1000) → Q v g') : w_S_of l1 l2 g Q := by
  sorry
-- SpoutNewsModel.of(II)I
def fr_M_of (a : Nat) (i : Int) : Prop := a = 235 ∨ a = 236 ∨ (a = 214 ∧ i = 0)
set_option maxRecDepth 100000 in
set_option maxHeartbeats 400000 in
theorem k_M_of {l1 : Int} {l2 : Int} {g : zi_M} {Q : Int → zi_M → Prop} (I : zk_I g) (p1 : (-2147483648) ≤ l1 ∧ l1 ≤ 2147483647) (p2 : (-2147483648) ≤ l2 ∧ l2 ≤ 2147483647) (hQ : ∀ (v : Int) (g' : zi_M), zk_I g' → zk_fr fr_M_of g g' → ((-2147483648) ≤ v ∧ v ≤ 2147483647) → Q v g') : w_M_of l1 l2 g Q := by
  unfold w_M_of
  intro g1 e_1
  have I_2 : zk_I g1 := by rw [e_1]; exact zk_upd (L := (-2147483648)) (H := 2147483647) rfl rfl I ⟨by omega, by omega⟩
  have F_3 : zk_fr fr_M_of g g1 := by rw [e_1]; exact zk_fu (zk_f0 _) (Or.inr (Or.inr ⟨rfl, rfl⟩))
  have m_7 : 0 ≤ (g1 214 6) ∧ (g1 214 6) ≤ 10 := I_2 214 6
  have m_8 : g1 214 6 = g 214 6 := by rw [e_1]; exact zi_u_ni (by decide)
  have m_9 : 0 ≤ (g 214 6) ∧ (g 214 6) ≤ 10 := I 214 6
  refine k_M_isSpout I_2 ⟨by omega, by omega⟩ (fun v2 b_4 b_5 b_6 => ?_)
  refine ⟨fun c44 => ?_, fun c44 => ?_⟩
  · refine ⟨⟨by omega, by omega⟩, ?_⟩
    have m_10 := zk_now26 I_2 (i := (26 + l1)) (by omega)
    have m_11 : g1 215 (26 + l1) = g 215 (26 + l1) := by rw [e_1]; exact zi_u_ne (by decide)
    have m_12 := zk_now26 I (i := (26 + l1)) (by omega)
    refine k_M_isIn I_2 ⟨by omega, by omega⟩ ⟨by omega, by omega⟩ ⟨by omega, by omega⟩ (fun v6 b_13 b_14 b_15 => ?_)
    refine ⟨fun c43 => ?_, fun c43 => ?_⟩
    · refine k_M_isIn I_2 ⟨by omega, by omega⟩ ⟨by omega, by omega⟩ ⟨by omega, by omega⟩ (fun v9 b_16 b_17 b_18 => ?_)
      refine ⟨fun c39 => ?_, fun c39 => ?_⟩
      · refine ⟨⟨by omega, by omega⟩, ?_⟩
        refine ⟨fun c35 => ?_, fun c35 => ?_⟩
        · refine ⟨fun c33 => ?_, fun c33 => ?_⟩
          · refine ⟨fun c31 => ?_, fun c31 => ?_⟩
            · refine ⟨fun c29 => ?_, fun c29 => ?_⟩
              · refine ⟨fun c27 => ?_, fun c27 => ?_⟩
                · refine ⟨fun c26 => ?_, fun c26 => ?_⟩
                  · refine ⟨fun c24 => ?_, fun c24 => ?_⟩
                    · refine ⟨fun c20 => ?_, fun c20 => ?_⟩
                      · refine ⟨fun c16 => ?_, fun c16 => ?_⟩
                        · exact hQ _ _ I_2 F_3 ⟨by omega, by omega⟩
                        · refine k_M_jetOf I_2 ⟨by omega, by omega⟩ (fun v13 g14 I_20 F_21 b_19 => ?_)
                          have F_22 : zk_fr fr_M_of g g14 := zk_ft F_3 F_21 (fun a i => (fun h => Or.elim h (fun h => (Or.inl h)) (fun h => (Or.inr (Or.inl h)))))
                          exact hQ _ _ I_20 F_22 ⟨by omega, by omega⟩
                      · refine k_M_hearsOf I_2 ⟨by omega, by omega⟩ (fun v17 g18 I_24 F_25 b_23 => ?_)
                        have F_26 : zk_fr fr_M_of g g18 := zk_ft F_3 F_25 (fun a i => (fun h => Or.elim h (fun h => (Or.inl h)) (fun h => (Or.inr (Or.inl h)))))
                        exact hQ _ _ I_24 F_26 ⟨by omega, by omega⟩
                    · have m_28 : 0 ≤ (g1 232 (l1)) ∧ (g1 232 (l1)) ≤ 10 := I_2 232 (l1)
                      have m_29 : g1 232 (l1) = g 232 (l1) := by rw [e_1]; exact zi_u_ne (by decide)
                      have m_30 : 0 ≤ (g 232 (l1)) ∧ (g 232 (l1)) ≤ 10 := I 232 (l1)
                      refine k_M_into I_2 ⟨by omega, by omega⟩ (fun v21 b_27 => ?_)
                      exact hQ _ _ I_2 F_3 ⟨by omega, by omega⟩
                  · refine ⟨⟨by omega, by omega⟩, ?_⟩
                    have m_31 := zk_now16 I_2 (i := (16 + l1)) (by omega)
                    have m_32 : g1 215 (16 + l1) = g 215 (16 + l1) := by rw [e_1]; exact zi_u_ne (by decide)
                    have m_33 := zk_now16 I (i := (16 + l1)) (by omega)
                    exact hQ _ _ I_2 F_3 ⟨by omega, by omega⟩
                · exact hQ _ _ I_2 F_3 ⟨by omega, by omega⟩
              · refine ⟨⟨by omega, by omega⟩, ?_⟩
                have m_34 := zk_now6 I_2 (i := (6 + l1)) (by omega)
                have m_35 : g1 215 (6 + l1) = g 215 (6 + l1) := by rw [e_1]; exact zi_u_ne (by decide)
                have m_36 := zk_now6 I (i := (6 + l1)) (by omega)
                exact hQ _ _ I_2 F_3 ⟨by omega, by omega⟩
            · refine ⟨⟨by omega, by omega⟩, ?_⟩
              have m_37 : 0 ≤ (g1 220 l1) ∧ (g1 220 l1) ≤ 99 := I_2 220 l1
              have m_38 : g1 220 l1 = g 220 l1 := by rw [e_1]; exact zi_u_ne (by decide)
              have m_39 : 0 ≤ (g 220 l1) ∧ (g 220 l1) ≤ 99 := I 220 l1
              exact hQ _ _ I_2 F_3 ⟨by omega, by omega⟩
          · refine ⟨⟨by omega, by omega⟩, ?_⟩
            have m_40 : 0 ≤ (g1 219 l1) ∧ (g1 219 l1) ≤ 3 := I_2 219 l1
            have m_41 : g1 219 l1 = g 219 l1 := by rw [e_1]; exact zi_u_ne (by decide)
            have m_42 : 0 ≤ (g 219 l1) ∧ (g 219 l1) ≤ 3 := I 219 l1
            exact hQ _ _ I_2 F_3 ⟨by omega, by omega⟩
        · refine ⟨⟨by omega, by omega⟩, ?_⟩
          have m_43 : 0 ≤ (g1 218 l1) ∧ (g1 218 l1) ≤ 5 := I_2 218 l1
          have m_44 : g1 218 l1 = g 218 l1 := by rw [e_1]; exact zi_u_ne (by decide)
          have m_45 : 0 ≤ (g 218 l1) ∧ (g 218 l1) ≤ 5 := I 218 l1
          exact hQ _ _ I_2 F_3 ⟨by omega, by omega⟩
      · refine k_M_slipOf I_2 ⟨by omega, by omega⟩ ⟨by omega, by omega⟩ (fun v36 g37 I_47 F_48 b_46 => ?_)
        have F_49 : zk_fr fr_M_of g g37 := zk_ft F_3 F_48 (fun a i => (fun h => Or.elim h (fun h => (Or.inl h)) (fun h => (Or.inr (Or.inl h)))))
        exact hQ _ _ I_47 F_49 ⟨by omega, by omega⟩
    · have m_51 := zk_now36 I_2 (i := ((36 + (20 * l1)) + (l2 - 20))) (by omega)
      have m_52 : g1 215 ((36 + (20 * l1)) + (l2 - 20)) = g 215 ((36 + (20 * l1)) + (l2 - 20)) := by rw [e_1]; exact zi_u_ne (by decide)
      have m_53 := zk_now36 I (i := ((36 + (20 * l1)) + (l2 - 20))) (by omega)
      refine k_M_heardAt I_2 ⟨by omega, by omega⟩ ⟨by omega, by omega⟩ (fun v40 b_50 => ?_)
      exact hQ _ _ I_2 F_3 ⟨by omega, by omega⟩
  · exact hQ _ _ I_2 F_3 ⟨by omega, by omega⟩
-- SpoutNews.who(II)I
set_option maxRecDepth 100000 in
set_option maxHeartbeats 400000 in
theorem k_S_who {l1 : Int} {l2 : Int} {g : zi_M} {Q : Int → zi_M → Prop} (I : zk_I g) (p1 : (-2147483648) ≤ l1 ∧ l1 ≤ 2147483647) (p2 : (-2147483648) ≤ l2 ∧ l2 ≤ 2147483647) (hQ : ∀ v : Int, (l1 < 0 → v = (-2)) → (0 ≤ l1 → (g 2 11) ≤ l1 → v = (-2)) → (0 ≤ l1 → l1 < (g 2 11) → (l2 = 0) → v = g 10 l1) → (0 ≤ l1 → l1 < (g 2 11) → (l2 = 1) → v = g 11 l1) → (0 ≤ l1 → l1 < (g 2 11) → ¬ l2 = 0 → ¬ l2 = 1 → v = (-2)) → Q v g) : w_S_who l1 l2 g Q := by
  unfold w_S_who
  have m_4 : 0 ≤ (g 2 11) ∧ (g 2 11) ≤ 8 := I 2 11
  refine k_World_isSitter I ⟨by omega, by omega⟩ (fun v1 b_1 b_2 b_3 => ?_)
  refine ⟨fun c8 => ?_, fun c8 => ?_⟩
  · refine ⟨⟨by omega, by omega⟩, ?_⟩
    refine ⟨fun c5_0 c5_1 => ?_, fun c5 => ?_, fun c5 => ?_⟩
    · have m_5 : (-2147483648) ≤ (g 10 l1) ∧ (g 10 l1) ≤ 2147483647 := I 10 l1
      have m_6 : (-1) ≤ (g 11 l1) ∧ (g 11 l1) ≤ 9 := I 11 l1
      exact hQ _ (by intros; omega) (by intros; omega) (by intros; omega) (by intros; omega) (by intros; omega)
    · refine ⟨⟨by omega, by omega⟩, ?_⟩
      have m_7 : (-2147483648) ≤ (g 10 l1) ∧ (g 10 l1) ≤ 2147483647 := I 10 l1
      have m_8 : (-1) ≤ (g 11 l1) ∧ (g 11 l1) ≤ 9 := I 11 l1
      exact hQ _ (by intros; omega) (by intros; omega) (by intros; omega) (by intros; omega) (by intros; omega)
    · refine ⟨⟨by omega, by omega⟩, ?_⟩
      have m_9 : (-1) ≤ (g 11 l1) ∧ (g 11 l1) ≤ 9 := I 11 l1
      have m_10 : (-2147483648) ≤ (g 10 l1) ∧ (g 10 l1) ≤ 2147483647 := I 10 l1
      exact hQ _ (by intros; omega) (by intros; omega) (by intros; omega) (by intros; omega) (by intros; omega)
  · have m_11 : (-2147483648) ≤ (g 10 l1) ∧ (g 10 l1) ≤ 2147483647 := I 10 l1
    have m_12 : (-1) ≤ (g 11 l1) ∧ (g 11 l1) ≤ 9 := I 11 l1
    exact hQ _ (by intros; omega) (by intros; omega) (by intros; omega) (by intros; omega) (by intros; omega)
