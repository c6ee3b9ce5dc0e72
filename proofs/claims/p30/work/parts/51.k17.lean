-- by program (wip/gen/mkz.py)
-- SpoutNewsModel.keepsOne(I)I
def fr_M_keepsOne (a : Nat) (i : Int) : Prop := a = 250 ∨ (a = 214 ∧ i = 63)
set_option maxRecDepth 100000 in
set_option maxHeartbeats 400000 in
theorem k_M_keepsOne {l1 : Int} {g : zi_M} {Q : Int → zi_M → Prop} (I : zk_I g) (p1 : (-2147483648) ≤ l1 ∧ l1 ≤ 2147483647) (hQ : ∀ (v : Int) (g' : zi_M), zk_I g' → zk_fr fr_M_keepsOne g g' → ((-2147483648) ≤ v ∧ v ≤ 2147483647) → Q v g') : w_M_keepsOne l1 g Q := by
  sorry
-- SpoutNewsModel.keepsMany()V
def fr_M_keepsMany (a : Nat) (i : Int) : Prop := a = 250 ∨ (a = 214 ∧ i = 35) ∨ (a = 214 ∧ i = 37) ∨ (a = 214 ∧ i = 39) ∨ (a = 214 ∧ i = 46) ∨ (a = 214 ∧ i = 50) ∨ (a = 214 ∧ i = 56) ∨ (a = 214 ∧ i = 58) ∨ (a = 214 ∧ i = 6) ∨ (a = 214 ∧ i = 63) ∨ (a = 214 ∧ i = 7)
set_option maxRecDepth 100000 in
set_option maxHeartbeats 400000 in
theorem k_M_keepsMany {g : zi_M} {Q : Int → zi_M → Prop} (I : zk_I g) (hQ : ∀ g' : zi_M, zk_I g' → zk_fr fr_M_keepsMany g g' → Q 0 g') : w_M_keepsMany g Q := by
  sorry
-- SpoutNewsModel.keepsTold()V
def fr_M_keepsTold (a : Nat) (i : Int) : Prop := a = 218 ∨ a = 219 ∨ a = 220 ∨ a = 232 ∨ a = 233 ∨ a = 234 ∨ a = 239 ∨ a = 240 ∨ a = 242 ∨ a = 243 ∨ a = 244 ∨ a = 247 ∨ a = 248 ∨ a = 250 ∨ (a = 214 ∧ i = 63)
set_option maxRecDepth 100000 in
set_option maxHeartbeats 400000 in
theorem k_M_keepsTold {g : zi_M} {Q : Int → zi_M → Prop} (I : zk_I g) (hQ : ∀ g' : zi_M, zk_I g' → zk_fr fr_M_keepsTold g g' → Q 0 g') : w_M_keepsTold g Q := by
  sorry
-- SpoutNewsModel.keepsLaw()V
def fr_M_keepsLaw (a : Nat) (i : Int) : Prop := a = 224 ∨ a = 225 ∨ a = 226 ∨ a = 227 ∨ a = 228 ∨ a = 229 ∨ a = 230 ∨ a = 250 ∨ (a = 214 ∧ i = 63)
set_option maxRecDepth 100000 in
set_option maxHeartbeats 400000 in
theorem k_M_keepsLaw_l18 {K94 : zi_M → Prop} {Q : Int → zi_M → Prop} {g0 : zi_M} (hK94 : ∀ (g : zi_M), zk_I g → zk_fr fr_M_keepsLaw g0 g → K94 g) (hQ : ∀ g' : zi_M, zk_I g' → zk_fr fr_M_keepsLaw g0 g' → Q 0 g') : ∀ (n : Nat) {l1 : Int} {g : zi_M}, zk_I g → zk_fr fr_M_keepsLaw g0 g → (0 ≤ l1 ∧ l1 ≤ 16) → 16 - l1 < (n : Int) → w_M_keepsLaw_l18 K94 Q n l1 g
  | 0, l1, g, I, F, b0, hm => by exfalso; omega
  | n + 1, l1, g, I, F, b0, hm => by
    unfold w_M_keepsLaw_l18
    refine ⟨⟨by omega, by omega⟩, ?_⟩
    refine ⟨fun c23 => ?_, fun c23 => ?_⟩
    · exact hK94 _ I F
    · refine ⟨⟨by omega, by omega⟩, ?_⟩
      have m_9 : (-2147483648) ≤ (g 225 l1) ∧ (g 225 l1) ≤ 2147483647 := I 225 l1
      refine k_M_keepsOne I ⟨by omega, by omega⟩ (fun v7 g8 I_11 F_12 b_10 => ?_)
      have F_13 : zk_fr fr_M_keepsLaw g0 g8 := zk_ft F F_12 (fun a i => (fun h => Or.elim h (fun h => (Or.inr (Or.inr (Or.inr (Or.inr (Or.inr (Or.inr (Or.inr (Or.inl h))))))))) (fun h => (Or.inr (Or.inr (Or.inr (Or.inr (Or.inr (Or.inr (Or.inr (Or.inr h)))))))))))
      intro g10 e_14
      have I_15 : zk_I g10 := by rw [e_14]; exact zk_upd (L := (-2147483648)) (H := 2147483647) rfl rfl I_11 ⟨by omega, by omega⟩
      have F_16 : zk_fr fr_M_keepsLaw g0 g10 := by rw [e_14]; exact zk_fu F_13 (Or.inr (Or.inl rfl))
      have m_17 : 0 ≤ (g10 226 l1) ∧ (g10 226 l1) ≤ 400 := I_15 226 l1
      have m_18 : g10 226 l1 = g8 226 l1 := by rw [e_14]; exact zi_u_ne (by decide)
      have m_19 : 0 ≤ (g8 226 l1) ∧ (g8 226 l1) ≤ 400 := I_11 226 l1
      have m_20 : g8 226 l1 = g 226 l1 := F_12 _ _ (by unfold fr_M_keepsOne; omega)
      have m_21 : 0 ≤ (g 226 l1) ∧ (g 226 l1) ≤ 400 := I 226 l1
      refine k_M_keepsOne I_15 ⟨by omega, by omega⟩ (fun v11 g12 I_23 F_24 b_22 => ?_)
      have F_25 : zk_fr fr_M_keepsLaw g0 g12 := zk_ft F_16 F_24 (fun a i => (fun h => Or.elim h (fun h => (Or.inr (Or.inr (Or.inr (Or.inr (Or.inr (Or.inr (Or.inr (Or.inl h))))))))) (fun h => (Or.inr (Or.inr (Or.inr (Or.inr (Or.inr (Or.inr (Or.inr (Or.inr h)))))))))))
      intro g14 e_26
      have I_27 : zk_I g14 := by rw [e_26]; exact zk_upd (L := 0) (H := 400) rfl rfl I_23 ⟨by omega, by omega⟩
      have F_28 : zk_fr fr_M_keepsLaw g0 g14 := by rw [e_26]; exact zk_fu F_25 (Or.inr (Or.inr (Or.inl rfl)))
      have m_29 : 0 ≤ (g14 227 l1) ∧ (g14 227 l1) ≤ 400 := I_27 227 l1
      have m_30 : g14 227 l1 = g12 227 l1 := by rw [e_26]; exact zi_u_ne (by decide)
      have m_31 : 0 ≤ (g12 227 l1) ∧ (g12 227 l1) ≤ 400 := I_23 227 l1
      have m_32 : g12 227 l1 = g10 227 l1 := F_24 _ _ (by unfold fr_M_keepsOne; omega)
      have m_33 : 0 ≤ (g10 227 l1) ∧ (g10 227 l1) ≤ 400 := I_15 227 l1
      have m_34 : g10 227 l1 = g8 227 l1 := by rw [e_14]; exact zi_u_ne (by decide)
      have m_35 : 0 ≤ (g8 227 l1) ∧ (g8 227 l1) ≤ 400 := I_11 227 l1
      have m_36 : g8 227 l1 = g 227 l1 := F_12 _ _ (by unfold fr_M_keepsOne; omega)
      have m_37 : 0 ≤ (g 227 l1) ∧ (g 227 l1) ≤ 400 := I 227 l1
      refine k_M_keepsOne I_27 ⟨by omega, by omega⟩ (fun v15 g16 I_39 F_40 b_38 => ?_)
      have F_41 : zk_fr fr_M_keepsLaw g0 g16 := zk_ft F_28 F_40 (fun a i => (fun h => Or.elim h (fun h => (Or.inr (Or.inr (Or.inr (Or.inr (Or.inr (Or.inr (Or.inr (Or.inl h))))))))) (fun h => (Or.inr (Or.inr (Or.inr (Or.inr (Or.inr (Or.inr (Or.inr (Or.inr h)))))))))))
      intro g18 e_42
      have I_43 : zk_I g18 := by rw [e_42]; exact zk_upd (L := 0) (H := 400) rfl rfl I_39 ⟨by omega, by omega⟩
      have F_44 : zk_fr fr_M_keepsLaw g0 g18 := by rw [e_42]; exact zk_fu F_41 (Or.inr (Or.inr (Or.inr (Or.inl rfl))))
      have m_45 : 0 ≤ (g18 228 l1) ∧ (g18 228 l1) ≤ 400 := I_43 228 l1
      have m_46 : g18 228 l1 = g16 228 l1 := by rw [e_42]; exact zi_u_ne (by decide)
      have m_47 : 0 ≤ (g16 228 l1) ∧ (g16 228 l1) ≤ 400 := I_39 228 l1
      have m_48 : g16 228 l1 = g14 228 l1 := F_40 _ _ (by unfold fr_M_keepsOne; omega)
      have m_49 : 0 ≤ (g14 228 l1) ∧ (g14 228 l1) ≤ 400 := I_27 228 l1
      have m_50 : g14 228 l1 = g12 228 l1 := by rw [e_26]; exact zi_u_ne (by decide)
      have m_51 : 0 ≤ (g12 228 l1) ∧ (g12 228 l1) ≤ 400 := I_23 228 l1
      have m_52 : g12 228 l1 = g10 228 l1 := F_24 _ _ (by unfold fr_M_keepsOne; omega)
      have m_53 : 0 ≤ (g10 228 l1) ∧ (g10 228 l1) ≤ 400 := I_15 228 l1
      have m_54 : g10 228 l1 = g8 228 l1 := by rw [e_14]; exact zi_u_ne (by decide)
      have m_55 : 0 ≤ (g8 228 l1) ∧ (g8 228 l1) ≤ 400 := I_11 228 l1
      have m_56 : g8 228 l1 = g 228 l1 := F_12 _ _ (by unfold fr_M_keepsOne; omega)
      have m_57 : 0 ≤ (g 228 l1) ∧ (g 228 l1) ≤ 400 := I 228 l1
      refine k_M_keepsOne I_43 ⟨by omega, by omega⟩ (fun v19 g20 I_59 F_60 b_58 => ?_)
      have F_61 : zk_fr fr_M_keepsLaw g0 g20 := zk_ft F_44 F_60 (fun a i => (fun h => Or.elim h (fun h => (Or.inr (Or.inr (Or.inr (Or.inr (Or.inr (Or.inr (Or.inr (Or.inl h))))))))) (fun h => (Or.inr (Or.inr (Or.inr (Or.inr (Or.inr (Or.inr (Or.inr (Or.inr h)))))))))))
      intro g22 e_62
      have I_63 : zk_I g22 := by rw [e_62]; exact zk_upd (L := 0) (H := 400) rfl rfl I_59 ⟨by omega, by omega⟩
      have F_64 : zk_fr fr_M_keepsLaw g0 g22 := by rw [e_62]; exact zk_fu F_61 (Or.inr (Or.inr (Or.inr (Or.inr (Or.inl rfl)))))
      exact k_M_keepsLaw_l18 hK94 hQ n I_63 F_64 ⟨by omega, by omega⟩ (by omega)
set_option maxRecDepth 100000 in
set_option maxHeartbeats 400000 in
theorem k_M_keepsLaw_l96 {K141 : zi_M → Prop} {Q : Int → zi_M → Prop} {g0 : zi_M} (hK141 : ∀ (g : zi_M), zk_I g → zk_fr fr_M_keepsLaw g0 g → K141 g) (hQ : ∀ g' : zi_M, zk_I g' → zk_fr fr_M_keepsLaw g0 g' → Q 0 g') : ∀ (n : Nat) {l1 : Int} {g : zi_M}, zk_I g → zk_fr fr_M_keepsLaw g0 g → (0 ≤ l1 ∧ l1 ≤ 400) → 400 - l1 < (n : Int) → w_M_keepsLaw_l96 K141 Q n l1 g
  | 0, l1, g, I, F, b0, hm => by exfalso; omega
  | n + 1, l1, g, I, F, b0, hm => by
    unfold w_M_keepsLaw_l96
    refine ⟨⟨by omega, by omega⟩, ?_⟩
    refine ⟨fun c35 => ?_, fun c35 => ?_⟩
    · exact hK141 _ I F
    · refine ⟨⟨by omega, by omega⟩, ?_⟩
      have m_67 : (-2147483648) ≤ (g 229 l1) ∧ (g 229 l1) ≤ 2147483647 := I 229 l1
      refine k_M_keepsOne I ⟨by omega, by omega⟩ (fun v27 g28 I_69 F_70 b_68 => ?_)
      have F_71 : zk_fr fr_M_keepsLaw g0 g28 := zk_ft F F_70 (fun a i => (fun h => Or.elim h (fun h => (Or.inr (Or.inr (Or.inr (Or.inr (Or.inr (Or.inr (Or.inr (Or.inl h))))))))) (fun h => (Or.inr (Or.inr (Or.inr (Or.inr (Or.inr (Or.inr (Or.inr (Or.inr h)))))))))))
      intro g30 e_72
      have I_73 : zk_I g30 := by rw [e_72]; exact zk_upd (L := (-2147483648)) (H := 2147483647) rfl rfl I_69 ⟨by omega, by omega⟩
      have F_74 : zk_fr fr_M_keepsLaw g0 g30 := by rw [e_72]; exact zk_fu F_71 (Or.inr (Or.inr (Or.inr (Or.inr (Or.inr (Or.inl rfl))))))
      have m_75 : (-2147483648) ≤ (g30 230 l1) ∧ (g30 230 l1) ≤ 2147483647 := I_73 230 l1
      have m_76 : g30 230 l1 = g28 230 l1 := by rw [e_72]; exact zi_u_ne (by decide)
      have m_77 : (-2147483648) ≤ (g28 230 l1) ∧ (g28 230 l1) ≤ 2147483647 := I_69 230 l1
      have m_78 : g28 230 l1 = g 230 l1 := F_70 _ _ (by unfold fr_M_keepsOne; omega)
      have m_79 : (-2147483648) ≤ (g 230 l1) ∧ (g 230 l1) ≤ 2147483647 := I 230 l1
      refine k_M_keepsOne I_73 ⟨by omega, by omega⟩ (fun v31 g32 I_81 F_82 b_80 => ?_)
      have F_83 : zk_fr fr_M_keepsLaw g0 g32 := zk_ft F_74 F_82 (fun a i => (fun h => Or.elim h (fun h => (Or.inr (Or.inr (Or.inr (Or.inr (Or.inr (Or.inr (Or.inr (Or.inl h))))))))) (fun h => (Or.inr (Or.inr (Or.inr (Or.inr (Or.inr (Or.inr (Or.inr (Or.inr h)))))))))))
      intro g34 e_84
      have I_85 : zk_I g34 := by rw [e_84]; exact zk_upd (L := (-2147483648)) (H := 2147483647) rfl rfl I_81 ⟨by omega, by omega⟩
      have F_86 : zk_fr fr_M_keepsLaw g0 g34 := by rw [e_84]; exact zk_fu F_83 (Or.inr (Or.inr (Or.inr (Or.inr (Or.inr (Or.inr (Or.inl rfl)))))))
      exact k_M_keepsLaw_l96 hK141 hQ n I_85 F_86 ⟨by omega, by omega⟩ (by omega)
set_option maxRecDepth 100000 in
set_option maxHeartbeats 400000 in
theorem k_M_keepsLaw {g : zi_M} {Q : Int → zi_M → Prop} (I : zk_I g) (hQ : ∀ g' : zi_M, zk_I g' → zk_fr fr_M_keepsLaw g g' → Q 0 g') : w_M_keepsLaw g Q := by
  unfold w_M_keepsLaw
  have m_1 : 0 ≤ (g 224 0) ∧ (g 224 0) ≤ 16 := I 224 0
  refine k_M_keepsOne I ⟨by omega, by omega⟩ (fun v1 g2 I_3 F_4 b_2 => ?_)
  have F_5 : zk_fr fr_M_keepsLaw g g2 := zk_ft (zk_f0 _) F_4 (fun a i => (fun h => Or.elim h (fun h => (Or.inr (Or.inr (Or.inr (Or.inr (Or.inr (Or.inr (Or.inr (Or.inl h))))))))) (fun h => (Or.inr (Or.inr (Or.inr (Or.inr (Or.inr (Or.inr (Or.inr (Or.inr h)))))))))))
  intro g4 e_6
  have I_7 : zk_I g4 := by rw [e_6]; exact zk_upd (L := 0) (H := 16) rfl rfl I_3 ⟨by omega, by omega⟩
  have F_8 : zk_fr fr_M_keepsLaw g g4 := by rw [e_6]; exact zk_fu F_5 (Or.inl rfl)
  refine ⟨((16 - 0 : Int).toNat + 1), k_M_keepsLaw_l18 (fun g24 I_65 F_66 => ?_) hQ ((16 - 0 : Int).toNat + 1) I_7 F_8 ⟨by omega, by omega⟩ (by omega)⟩
  refine ⟨((400 - 0 : Int).toNat + 1), k_M_keepsLaw_l96 (fun g36 I_87 F_88 => ?_) hQ ((400 - 0 : Int).toNat + 1) I_65 F_66 ⟨by omega, by omega⟩ (by omega)⟩
  exact hQ _ I_87 F_88
-- SpoutNewsModel.image(Z)Z
def fr_M_image (a : Nat) (i : Int) : Prop := a = 215 ∨ a = 218 ∨ a = 219 ∨ a = 220 ∨ a = 221 ∨ a = 224 ∨ a = 225 ∨ a = 226 ∨ a = 227 ∨ a = 228 ∨ a = 229 ∨ a = 230 ∨ a = 232 ∨ a = 233 ∨ a = 234 ∨ a = 239 ∨ a = 240 ∨ a = 242 ∨ a = 243 ∨ a = 244 ∨ a = 247 ∨ a = 248 ∨ a = 250 ∨ (a = 214 ∧ i = 0) ∨ (a = 214 ∧ i = 3) ∨ (a = 214 ∧ i = 35) ∨ (a = 214 ∧ i = 37) ∨ (a = 214 ∧ i = 39) ∨ (a = 214 ∧ i = 46) ∨ (a = 214 ∧ i = 50) ∨ (a = 214 ∧ i = 56) ∨ (a = 214 ∧ i = 58) ∨ (a = 214 ∧ i = 6) ∨ (a = 214 ∧ i = 61) ∨ (a = 214 ∧ i = 62) ∨ (a = 214 ∧ i = 63) ∨ (a = 214 ∧ i = 7)
set_option maxRecDepth 100000 in
set_option maxHeartbeats 400000 in
theorem k_M_image {l1 : Int} {g : zi_M} {Q : Int → zi_M → Prop} (I : zk_I g) (p1 : 0 ≤ l1 ∧ l1 ≤ 1) (hQ : ∀ (v : Int) (g' : zi_M), zk_I g' → zk_fr fr_M_image g g' → (0 ≤ v ∧ v ≤ 1) → Q v g') : w_M_image l1 g Q := by
  sorry
-- SpoutNews.look(I)I
set_option maxRecDepth 100000 in
set_option maxHeartbeats 400000 in
theorem k_S_look {l1 : Int} {g : zi_M} {Q : Int → zi_M → Prop} (I : zk_I g) (p1 : (-2147483648) ≤ l1 ∧ l1 ≤ 2147483647) (hQ : ∀ v : Int, ((-2147483648) ≤ v ∧ v ≤ 2147483647) → Q v g) : w_S_look l1 g Q := by
  unfold w_S_look
  refine ⟨⟨by omega, by omega⟩, ?_⟩
  refine ⟨fun c2 => ?_, fun c2 => ?_, fun c2 => ?_, fun c2 => ?_, fun c2 => ?_, fun c2 => ?_, fun c2 => ?_, fun c2 => ?_, fun c2 => ?_, fun c2 => ?_, fun c2 => ?_, fun c2 => ?_, fun c2 => ?_, fun c2 => ?_⟩
  · exact hQ _ ⟨by omega, by omega⟩
  · have m_1 : 0 ≤ (g 2 8) ∧ (g 2 8) ≤ 10 := I 2 8
    exact hQ _ ⟨by omega, by omega⟩
  · have m_2 : 0 ≤ (g 2 11) ∧ (g 2 11) ≤ 8 := I 2 11
    exact hQ _ ⟨by omega, by omega⟩
  · have m_3 : 0 ≤ (g 2 14) ∧ (g 2 14) ≤ 9 := I 2 14
    exact hQ _ ⟨by omega, by omega⟩
  · have m_4 : (-2147483648) ≤ (g 2 15) ∧ (g 2 15) ≤ 2147483647 := I 2 15
    exact hQ _ ⟨by omega, by omega⟩
  · have m_5 : (-2147483648) ≤ (g 2 16) ∧ (g 2 16) ≤ 2147483647 := I 2 16
    exact hQ _ ⟨by omega, by omega⟩
  · have m_6 : (-2147483648) ≤ (g 2 17) ∧ (g 2 17) ≤ 2147483647 := I 2 17
    exact hQ _ ⟨by omega, by omega⟩
  · have m_7 : 0 ≤ (g 2 19) ∧ (g 2 19) ≤ 150 := I 2 19
    exact hQ _ ⟨by omega, by omega⟩
  · have m_8 : (-2147483648) ≤ (g 2 18) ∧ (g 2 18) ≤ 2147483647 := I 2 18
    exact hQ _ ⟨by omega, by omega⟩
  · have m_9 : 0 ≤ (g 20 7) ∧ (g 20 7) ≤ 16 := I 20 7
    exact hQ _ ⟨by omega, by omega⟩
  · have m_10 : 0 ≤ (g 19 2) ∧ (g 19 2) ≤ 17 := I 19 2
    exact hQ _ ⟨by omega, by omega⟩
  · have m_11 : 0 ≤ (g 19 5) ∧ (g 19 5) ≤ 16 := I 19 5
    exact hQ _ ⟨by omega, by omega⟩
  · have m_12 : 0 ≤ (g 19 10) ∧ (g 19 10) ≤ 16 := I 19 10
    exact hQ _ ⟨by omega, by omega⟩
  · have m_13 : 0 ≤ (g 91 1) ∧ (g 91 1) ≤ 6 := I 91 1
    exact hQ _ ⟨by omega, by omega⟩
-- SpoutNewsModel.look(I)I
def fr_M_look (a : Nat) (i : Int) : Prop := (a = 214 ∧ i = 0)
set_option maxRecDepth 100000 in
set_option maxHeartbeats 400000 in
theorem k_M_look {l1 : Int} {g : zi_M} {Q : Int → zi_M → Prop} (I : zk_I g) (p1 : (-2147483648) ≤ l1 ∧ l1 ≤ 2147483647) (hQ : ∀ (v : Int) (g' : zi_M), zk_I g' → zk_fr fr_M_look g g' → ((-2147483648) ≤ v ∧ v ≤ 2147483647) → Q v g') : w_M_look l1 g Q := by
  unfold w_M_look
  intro g1 e_1
  have I_2 : zk_I g1 := by rw [e_1]; exact zk_upd (L := (-2147483648)) (H := 2147483647) rfl rfl I ⟨by omega, by omega⟩
  have F_3 : zk_fr fr_M_look g g1 := by rw [e_1]; exact zk_fu (zk_f0 _) ⟨rfl, rfl⟩
  refine ⟨⟨by omega, by omega⟩, ?_⟩
  refine ⟨fun c15 => ?_, fun c15 => ?_⟩
  · refine ⟨fun c14 => ?_, fun c14 => ?_⟩
    · refine ⟨fun c13 => ?_, fun c13 => ?_⟩
      · refine ⟨fun c12 => ?_, fun c12 => ?_⟩
        · refine ⟨fun c11 => ?_, fun c11 => ?_⟩
          · refine ⟨fun c10 => ?_, fun c10 => ?_⟩
            · refine ⟨fun c9 => ?_, fun c9 => ?_⟩
              · refine ⟨fun c8 => ?_, fun c8 => ?_⟩
                · refine ⟨fun c7 => ?_, fun c7 => ?_⟩
                  · refine ⟨fun c6 => ?_, fun c6 => ?_⟩
                    · refine ⟨fun c5 => ?_, fun c5 => ?_⟩
                      · refine ⟨fun c4 => ?_, fun c4 => ?_⟩
                        · refine ⟨fun c3 => ?_, fun c3 => ?_⟩
                          · exact hQ _ _ I_2 F_3 ⟨by omega, by omega⟩
                          · have m_4 : 0 ≤ (g1 214 3) ∧ (g1 214 3) ≤ 6 := I_2 214 3
                            have m_5 : g1 214 3 = g 214 3 := by rw [e_1]; exact zi_u_ni (by decide)
                            have m_6 : 0 ≤ (g 214 3) ∧ (g 214 3) ≤ 6 := I 214 3
                            exact hQ _ _ I_2 F_3 ⟨by omega, by omega⟩
                        · have m_7 : 0 ≤ (g1 214 39) ∧ (g1 214 39) ≤ 16 := I_2 214 39
                          have m_8 : g1 214 39 = g 214 39 := by rw [e_1]; exact zi_u_ni (by decide)
                          have m_9 : 0 ≤ (g 214 39) ∧ (g 214 39) ≤ 16 := I 214 39
                          exact hQ _ _ I_2 F_3 ⟨by omega, by omega⟩
                      · have m_10 : 0 ≤ (g1 214 37) ∧ (g1 214 37) ≤ 16 := I_2 214 37
                        have m_11 : g1 214 37 = g 214 37 := by rw [e_1]; exact zi_u_ni (by decide)
                        have m_12 : 0 ≤ (g 214 37) ∧ (g 214 37) ≤ 16 := I 214 37
                        exact hQ _ _ I_2 F_3 ⟨by omega, by omega⟩
                    · have m_13 : 0 ≤ (g1 214 35) ∧ (g1 214 35) ≤ 16 := I_2 214 35
                      have m_14 : g1 214 35 = g 214 35 := by rw [e_1]; exact zi_u_ni (by decide)
                      have m_15 : 0 ≤ (g 214 35) ∧ (g 214 35) ≤ 16 := I 214 35
                      exact hQ _ _ I_2 F_3 ⟨by omega, by omega⟩
                  · have m_16 : 0 ≤ (g1 224 0) ∧ (g1 224 0) ≤ 16 := I_2 224 0
                    have m_17 : g1 224 0 = g 224 0 := by rw [e_1]; exact zi_u_ne (by decide)
                    have m_18 : 0 ≤ (g 224 0) ∧ (g 224 0) ≤ 16 := I 224 0
                    exact hQ _ _ I_2 F_3 ⟨by omega, by omega⟩
                · have m_19 := zk_rng I_2 215 1
                  have m_20 : g1 215 1 = g 215 1 := by rw [e_1]; exact zi_u_ne (by decide)
                  have m_21 := zk_rng I 215 1
                  exact hQ _ _ I_2 F_3 ⟨by omega, by omega⟩
              · have m_22 := zk_now2 I_2 (i := 2) (by omega)
                have m_23 : g1 215 2 = g 215 2 := by rw [e_1]; exact zi_u_ne (by decide)
                have m_24 := zk_now2 I (i := 2) (by omega)
                exact hQ _ _ I_2 F_3 ⟨by omega, by omega⟩
            · have m_25 := zk_rng I_2 215 0
              have m_26 : g1 215 0 = g 215 0 := by rw [e_1]; exact zi_u_ne (by decide)
              have m_27 := zk_rng I 215 0
              exact hQ _ _ I_2 F_3 ⟨by omega, by omega⟩
          · have m_28 := zk_rng I_2 215 5
            have m_29 : g1 215 5 = g 215 5 := by rw [e_1]; exact zi_u_ne (by decide)
            have m_30 := zk_rng I 215 5
            exact hQ _ _ I_2 F_3 ⟨by omega, by omega⟩
        · have m_31 := zk_rng I_2 215 4
          have m_32 : g1 215 4 = g 215 4 := by rw [e_1]; exact zi_u_ne (by decide)
          have m_33 := zk_rng I 215 4
          exact hQ _ _ I_2 F_3 ⟨by omega, by omega⟩
      · have m_34 := zk_rng I_2 215 3
        have m_35 : g1 215 3 = g 215 3 := by rw [e_1]; exact zi_u_ne (by decide)
        have m_36 := zk_rng I 215 3
        exact hQ _ _ I_2 F_3 ⟨by omega, by omega⟩
    · have m_37 : 0 ≤ (g1 214 7) ∧ (g1 214 7) ≤ 8 := I_2 214 7
      have m_38 : g1 214 7 = g 214 7 := by rw [e_1]; exact zi_u_ni (by decide)
      have m_39 : 0 ≤ (g 214 7) ∧ (g 214 7) ≤ 8 := I 214 7
      exact hQ _ _ I_2 F_3 ⟨by omega, by omega⟩
  · have m_40 : 0 ≤ (g1 214 6) ∧ (g1 214 6) ≤ 10 := I_2 214 6
    have m_41 : g1 214 6 = g 214 6 := by rw [e_1]; exact zi_u_ni (by decide)
    have m_42 : 0 ≤ (g 214 6) ∧ (g 214 6) ≤ 10 := I 214 6
    exact hQ _ _ I_2 F_3 ⟨by omega, by omega⟩
