-- by program (wip/gen/mkz.py)
-- SpoutNews$World.copyFrom(LSpoutNews$World;)V
set_option maxRecDepth 100000 in
set_option maxHeartbeats 4000000 in
theorem k_World_copyFrom {r0 : Nat} (hr0 : zs_sh r0 = some (10, 20)) {r1 : Nat} (hr1 : zs_sh r1 = some (10, 20)) {g : zi_M} {Q : Int → zi_M → Prop} (I : zk_I g) (hQ : ∀ g' : zi_M, zk_I g' → zk_fr (fr_World_copyFrom r0 r1) g g' → (zWc r0 r1 g g') → Q 0 g') : w_World_copyFrom r0 r1 g Q := by
  unfold w_World_copyFrom
  intro g2 e_1
  have I_2 : zk_I g2 := by rw [e_1]; exact zk_cp (L := 0) (H := 5) (fun i => zk_la10_1 hr1 (i := i)) (fun i => zk_la10_1 hr0 (i := i)) I (zj_a10_1 hr0)
  have F_3 : zk_fr (fr_World_copyFrom r0 r1) g g2 := by rw [e_1]; exact zk_fc (zk_f0 _) (fun i => (Or.inl rfl))
  intro g4 e_4
  have I_5 : zk_I g4 := by rw [e_4]; exact zk_cp (L := 0) (H := 3) (fun i => zk_la10_2 hr1 (i := i)) (fun i => zk_la10_2 hr0 (i := i)) I_2 (zj_a10_2 hr0)
  have F_6 : zk_fr (fr_World_copyFrom r0 r1) g g4 := by rw [e_4]; exact zk_fc F_3 (fun i => (Or.inr (Or.inr (Or.inr (Or.inl rfl)))))
  intro g6 e_7
  have I_8 : zk_I g6 := by rw [e_7]; exact zk_cp (L := 0) (H := 99) (fun i => zk_la10_3 hr1 (i := i)) (fun i => zk_la10_3 hr0 (i := i)) I_5 (zj_a10_3 hr0)
  have F_9 : zk_fr (fr_World_copyFrom r0 r1) g g6 := by rw [e_7]; exact zk_fc F_6 (fun i => (Or.inr (Or.inr (Or.inr (Or.inr (Or.inl rfl))))))
  intro g8 e_10
  have I_11 : zk_I g8 := by rw [e_10]; exact zk_cp (L := 0) (H := 2) (fun i => zk_la10_4 hr1 (i := i)) (fun i => zk_la10_4 hr0 (i := i)) I_8 (zj_a10_4 hr0)
  have F_12 : zk_fr (fr_World_copyFrom r0 r1) g g8 := by rw [e_10]; exact zk_fc F_9 (fun i => (Or.inr (Or.inr (Or.inr (Or.inr (Or.inr (Or.inl rfl)))))))
  intro g10 e_13
  have I_14 : zk_I g10 := by rw [e_13]; exact zk_cp (L := 0) (H := 999) (fun i => zk_la10_5 hr1 (i := i)) (fun i => zk_la10_5 hr0 (i := i)) I_11 (zj_a10_5 hr0)
  have F_15 : zk_fr (fr_World_copyFrom r0 r1) g g10 := by rw [e_13]; exact zk_fc F_12 (fun i => (Or.inr (Or.inr (Or.inr (Or.inr (Or.inr (Or.inr (Or.inl rfl))))))))
  intro g12 e_16
  have I_17 : zk_I g12 := by rw [e_16]; exact zk_cp (L := 0) (H := 20) (fun i => zk_la10_6 hr1 (i := i)) (fun i => zk_la10_6 hr0 (i := i)) I_14 (zj_a10_6 hr0)
  have F_18 : zk_fr (fr_World_copyFrom r0 r1) g g12 := by rw [e_16]; exact zk_fc F_15 (fun i => (Or.inr (Or.inr (Or.inr (Or.inr (Or.inr (Or.inr (Or.inr (Or.inl rfl)))))))))
  intro g14 e_19
  have I_20 : zk_I g14 := by rw [e_19]; exact zk_cp (L := 0) (H := 15) (fun i => zk_la10_7 hr1 (i := i)) (fun i => zk_la10_7 hr0 (i := i)) I_17 (zj_a10_7 hr0)
  have F_21 : zk_fr (fr_World_copyFrom r0 r1) g g14 := by rw [e_19]; exact zk_fc F_18 (fun i => (Or.inr (Or.inr (Or.inr (Or.inr (Or.inr (Or.inr (Or.inr (Or.inr (Or.inl rfl))))))))))
  have m_25 := zk_c10_8 hr1 I_20
  intro g15 e_22
  have I_23 : zk_I g15 := by rw [e_22]; exact zk_upd (zk_lc10_8 hr0).1 (zk_lc10_8 hr0).2 I_20 ⟨by omega, by omega⟩ (zj_w10 hr0)
  have F_24 : zk_fr (fr_World_copyFrom r0 r1) g g15 := by rw [e_22]; exact zk_fu F_21 (Or.inr (Or.inr (Or.inr (Or.inr (Or.inr (Or.inr (Or.inr (Or.inr (Or.inr (Or.inr (Or.inr (Or.inr (Or.inr (Or.inr (Or.inr (Or.inr (Or.inr (Or.inr ⟨rfl, rfl⟩))))))))))))))))))
  intro g17 e_26
  have I_27 : zk_I g17 := by rw [e_26]; exact zk_cp (L := (-2147483648)) (H := 2147483647) (fun i => zk_la10_8 hr1 (i := i)) (fun i => zk_la10_8 hr0 (i := i)) I_23 (zj_a10_8 hr0)
  have F_28 : zk_fr (fr_World_copyFrom r0 r1) g g17 := by rw [e_26]; exact zk_fc F_24 (fun i => (Or.inr (Or.inr (Or.inr (Or.inr (Or.inr (Or.inr (Or.inr (Or.inr (Or.inr (Or.inl rfl)))))))))))
  intro g19 e_29
  have I_30 : zk_I g19 := by rw [e_29]; exact zk_cp (L := (-1)) (H := 9) (fun i => zk_la10_9 hr1 (i := i)) (fun i => zk_la10_9 hr0 (i := i)) I_27 (zj_a10_9 hr0)
  have F_31 : zk_fr (fr_World_copyFrom r0 r1) g g19 := by rw [e_29]; exact zk_fc F_28 (fun i => (Or.inr (Or.inr (Or.inr (Or.inr (Or.inr (Or.inr (Or.inr (Or.inr (Or.inr (Or.inr (Or.inl rfl))))))))))))
  have m_35 := zk_c10_11 hr1 I_30
  intro g20 e_32
  have I_33 : zk_I g20 := by rw [e_32]; exact zk_upd (zk_lc10_11 hr0).1 (zk_lc10_11 hr0).2 I_30 ⟨by omega, by omega⟩ (zj_w10 hr0)
  have F_34 : zk_fr (fr_World_copyFrom r0 r1) g g20 := by rw [e_32]; exact zk_fu F_31 (Or.inr (Or.inr (Or.inr (Or.inr (Or.inr (Or.inr (Or.inr (Or.inr (Or.inr (Or.inr (Or.inr (Or.inl ⟨rfl, rfl⟩))))))))))))
  intro g22 e_36
  have I_37 : zk_I g22 := by rw [e_36]; exact zk_cp (L := (-1)) (H := 9) (fun i => zk_la10_10 hr1 (i := i)) (fun i => zk_la10_10 hr0 (i := i)) I_33 (zj_a10_10 hr0)
  have F_38 : zk_fr (fr_World_copyFrom r0 r1) g g22 := by rw [e_36]; exact zk_fc F_34 (fun i => (Or.inr (Or.inl rfl)))
  intro g24 e_39
  have I_40 : zk_I g24 := by rw [e_39]; exact zk_cp (L := (-2147483648)) (H := 2147483647) (fun i => zk_la10_11 hr1 (i := i)) (fun i => zk_la10_11 hr0 (i := i)) I_37 (zj_a10_11 hr0)
  have F_41 : zk_fr (fr_World_copyFrom r0 r1) g g24 := by rw [e_39]; exact zk_fc F_38 (fun i => (Or.inr (Or.inr (Or.inl rfl))))
  have m_45 := zk_c10_14 hr1 I_40
  intro g25 e_42
  have I_43 : zk_I g25 := by rw [e_42]; exact zk_upd (zk_lc10_14 hr0).1 (zk_lc10_14 hr0).2 I_40 ⟨by omega, by omega⟩ (zj_w10 hr0)
  have F_44 : zk_fr (fr_World_copyFrom r0 r1) g g25 := by rw [e_42]; exact zk_fu F_41 (Or.inr (Or.inr (Or.inr (Or.inr (Or.inr (Or.inr (Or.inr (Or.inr (Or.inr (Or.inr (Or.inr (Or.inr (Or.inl ⟨rfl, rfl⟩)))))))))))))
  have m_49 := zk_c10_15 hr1 I_43
  intro g26 e_46
  have I_47 : zk_I g26 := by rw [e_46]; exact zk_upd (zk_lc10_15 hr0).1 (zk_lc10_15 hr0).2 I_43 ⟨by omega, by omega⟩ (zj_w10 hr0)
  have F_48 : zk_fr (fr_World_copyFrom r0 r1) g g26 := by rw [e_46]; exact zk_fu F_44 (Or.inr (Or.inr (Or.inr (Or.inr (Or.inr (Or.inr (Or.inr (Or.inr (Or.inr (Or.inr (Or.inr (Or.inr (Or.inr (Or.inl ⟨rfl, rfl⟩))))))))))))))
  have m_53 := zk_c10_16 hr1 I_47
  intro g27 e_50
  have I_51 : zk_I g27 := by rw [e_50]; exact zk_upd (zk_lc10_16 hr0).1 (zk_lc10_16 hr0).2 I_47 ⟨by omega, by omega⟩ (zj_w10 hr0)
  have F_52 : zk_fr (fr_World_copyFrom r0 r1) g g27 := by rw [e_50]; exact zk_fu F_48 (Or.inr (Or.inr (Or.inr (Or.inr (Or.inr (Or.inr (Or.inr (Or.inr (Or.inr (Or.inr (Or.inr (Or.inr (Or.inr (Or.inr (Or.inl ⟨rfl, rfl⟩)))))))))))))))
  have m_57 := zk_c10_17 hr1 I_51
  intro g28 e_54
  have I_55 : zk_I g28 := by rw [e_54]; exact zk_upd (zk_lc10_17 hr0).1 (zk_lc10_17 hr0).2 I_51 ⟨by omega, by omega⟩ (zj_w10 hr0)
  have F_56 : zk_fr (fr_World_copyFrom r0 r1) g g28 := by rw [e_54]; exact zk_fu F_52 (Or.inr (Or.inr (Or.inr (Or.inr (Or.inr (Or.inr (Or.inr (Or.inr (Or.inr (Or.inr (Or.inr (Or.inr (Or.inr (Or.inr (Or.inr (Or.inl ⟨rfl, rfl⟩))))))))))))))))
  have m_61 := zk_c10_18 hr1 I_55
  intro g29 e_58
  have I_59 : zk_I g29 := by rw [e_58]; exact zk_upd (zk_lc10_18 hr0).1 (zk_lc10_18 hr0).2 I_55 ⟨by omega, by omega⟩ (zj_w10 hr0)
  have F_60 : zk_fr (fr_World_copyFrom r0 r1) g g29 := by rw [e_58]; exact zk_fu F_56 (Or.inr (Or.inr (Or.inr (Or.inr (Or.inr (Or.inr (Or.inr (Or.inr (Or.inr (Or.inr (Or.inr (Or.inr (Or.inr (Or.inr (Or.inr (Or.inr (Or.inl ⟨rfl, rfl⟩)))))))))))))))))
  have m_65 := zk_c10_19 hr1 I_59
  intro g30 e_62
  have I_63 : zk_I g30 := by rw [e_62]; exact zk_upd (zk_lc10_19 hr0).1 (zk_lc10_19 hr0).2 I_59 ⟨by omega, by omega⟩ (zj_w10 hr0)
  have F_64 : zk_fr (fr_World_copyFrom r0 r1) g g30 := by rw [e_62]; exact zk_fu F_60 (Or.inr (Or.inr (Or.inr (Or.inr (Or.inr (Or.inr (Or.inr (Or.inr (Or.inr (Or.inr (Or.inr (Or.inr (Or.inr (Or.inr (Or.inr (Or.inr (Or.inr (Or.inl ⟨rfl, rfl⟩))))))))))))))))))
  exact hQ _ I_63 F_64 (by exact zWc_all hr0 hr1 (by assumption) (by assumption) (by assumption) (by assumption) (by assumption) (by assumption) (by assumption) (by assumption) (by assumption) (by assumption) (by assumption) (by assumption) (by assumption) (by assumption) (by assumption) (by assumption) (by assumption) (by assumption) (by assumption))
-- SpoutNews$Past.keep(LSpoutNews$World;)V
theorem zP_keep {g g3 g6 g8 : zi_M} (I : zk_I g) (F : zk_fr (fr_World_copyFrom (93 + 12 * (g 91 2).toNat) 2) g g3) (W : zWc (93 + 12 * (g 91 2).toNat) 2 g g3) (e1 : g6 = zi_u g3 91 2 (Int.tmod ((g3 91 2) + 1) 6)) (e2 : g8 = zi_u g6 91 1 (min ((g6 91 1) + 1) 6)) (h : zP g) : zP g8 := by
  have b : (0 : Int) ≤ g 91 2 ∧ g 91 2 ≤ 5 := I.1 91 2
  have c : (0 : Int) ≤ g 91 1 ∧ g 91 1 ≤ 6 := I.1 91 1
  have f : ∀ (a : Nat) (i : Int), (a < 93 + 12 * (g 91 2).toNat ∨ 93 + 12 * (g 91 2).toNat + 11 < a) → g3 a i = g a i := fun a i q => F a i (fun w => by unfold fr_World_copyFrom at w; omega)
  have u : ∀ (a : Nat) (i : Int), a ≠ 91 → g8 a i = g3 a i := fun a i q => by rw [e2, zi_u_ne q, e1, zi_u_ne q]
  have n2 : g8 91 2 = (g 91 2 + 1) % 6 := by
    rw [e2, zi_u_ni (by decide), e1, zi_u_eq, f 91 2 (Or.inl (by omega)), Int.tmod_eq_emod_of_nonneg (by omega)]
  have n1 : g8 91 1 = min (g 91 1 + 1) 6 := by
    rw [e2, zi_u_eq, e1, zi_u_ni (by decide), f 91 1 (Or.inl (by omega))]
  intro i i0 i6 hl
  rw [n1, n2] at hl
  by_cases q : i = g 91 2
  · obtain ⟨⟨a1, a2, -⟩, b1, b2, b3, -⟩ := W
    subst q
    refine ⟨⟨?_, ?_⟩, fun k k0 k1 => ?_, fun k k0 k1 => ?_, fun k k0 k1 => ?_⟩
    · rw [u _ _ (by omega), u _ _ (by omega), a1, f 2 8 (Or.inl (by omega))]
    · rw [u _ _ (by omega), u _ _ (by omega), a2, f 2 11 (Or.inl (by omega))]
    · rw [u _ _ (by omega), u _ _ (by omega), b1 k k0 k1, f 3 k (Or.inl (by omega))]
    · rw [u _ _ (by omega), u _ _ (by omega), b2 k k0 k1, f 4 k (Or.inl (by omega))]
    · rw [u _ _ (by omega), u _ _ (by omega), b3 k k0 k1, f 5 k (Or.inl (by omega))]
  · have old := h i i0 i6 (by omega)
    obtain ⟨⟨a1, a2⟩, b1, b2, b3⟩ := old
    have t : i.toNat ≠ (g 91 2).toNat := by omega
    refine ⟨⟨?_, ?_⟩, fun k k0 k1 => ?_, fun k k0 k1 => ?_, fun k k0 k1 => ?_⟩
    · rw [u _ _ (by omega), u _ _ (by omega), f _ _ (by omega), f 2 8 (Or.inl (by omega)), a1]
    · rw [u _ _ (by omega), u _ _ (by omega), f _ _ (by omega), f 2 11 (Or.inl (by omega)), a2]
    · rw [u _ _ (by omega), u _ _ (by omega), f _ _ (by omega), f 3 k (Or.inl (by omega)), b1 k k0 k1]
    · rw [u _ _ (by omega), u _ _ (by omega), f _ _ (by omega), f 4 k (Or.inl (by omega)), b2 k k0 k1]
    · rw [u _ _ (by omega), u _ _ (by omega), f _ _ (by omega), f 5 k (Or.inl (by omega)), b3 k k0 k1]

set_option maxRecDepth 100000 in
set_option maxHeartbeats 4000000 in
theorem k_Past_keep {g : zi_M} {Q : Int → zi_M → Prop} (I : zk_I g) (hQ : ∀ g' : zi_M, zk_I g' → zk_fr fr_Past_keep g g' → (zP g → zP g') → (zKe g g') → (zKq g g') → Q 0 g') : w_Past_keep g Q := by
  unfold w_Past_keep
  have m_1 : 0 ≤ (g 91 2) ∧ (g 91 2) ≤ 5 := I.1 91 2
  refine ⟨⟨by omega, by omega⟩, ?_⟩
  refine k_World_copyFrom (zs_ring ⟨by omega, by omega⟩).2 rfl I (fun g3 I_3 F_4 b_2 => ?_)
  have F_5 : zk_fr fr_Past_keep g g3 := zk_ft (zk_f0 _) F_4 (fun a i => (fun h => Or.elim h (fun h => (Or.inr (Or.inr ⟨by omega, by omega⟩))) (fun h => Or.elim h (fun h => (Or.inr (Or.inr ⟨by omega, by omega⟩))) (fun h => Or.elim h (fun h => (Or.inr (Or.inr ⟨by omega, by omega⟩))) (fun h => Or.elim h (fun h => (Or.inr (Or.inr ⟨by omega, by omega⟩))) (fun h => Or.elim h (fun h => (Or.inr (Or.inr ⟨by omega, by omega⟩))) (fun h => Or.elim h (fun h => (Or.inr (Or.inr ⟨by omega, by omega⟩))) (fun h => Or.elim h (fun h => (Or.inr (Or.inr ⟨by omega, by omega⟩))) (fun h => Or.elim h (fun h => (Or.inr (Or.inr ⟨by omega, by omega⟩))) (fun h => Or.elim h (fun h => (Or.inr (Or.inr ⟨by omega, by omega⟩))) (fun h => Or.elim h (fun h => (Or.inr (Or.inr ⟨by omega, by omega⟩))) (fun h => Or.elim h (fun h => (Or.inr (Or.inr ⟨by omega, by omega⟩))) (fun h => Or.elim h (fun h => (Or.inr (Or.inr ⟨by omega, by omega⟩))) (fun h => Or.elim h (fun h => (Or.inr (Or.inr ⟨by omega, by omega⟩))) (fun h => Or.elim h (fun h => (Or.inr (Or.inr ⟨by omega, by omega⟩))) (fun h => Or.elim h (fun h => (Or.inr (Or.inr ⟨by omega, by omega⟩))) (fun h => Or.elim h (fun h => (Or.inr (Or.inr ⟨by omega, by omega⟩))) (fun h => Or.elim h (fun h => (Or.inr (Or.inr ⟨by omega, by omega⟩))) (fun h => Or.elim h (fun h => (Or.inr (Or.inr ⟨by omega, by omega⟩))) (fun h => (Or.inr (Or.inr ⟨by omega, by omega⟩))))))))))))))))))))))
  have m_6 : 0 ≤ (g3 91 2) ∧ (g3 91 2) ≤ 5 := I_3.1 91 2
  have m_7 : g3 91 2 = g 91 2 := F_4 _ _ (by unfold fr_World_copyFrom; omega)
  refine ⟨⟨by omega, by omega⟩, ?_⟩
  have m_11 := zi_tmod_f ((g3 91 2) + 1) 6
  have m_12 := zi_tmod_c ((g3 91 2) + 1) 6 (by decide)
  intro g6 e_8
  have I_9 : zk_I g6 := by rw [e_8]; exact zk_upd (L := 0) (H := 5) rfl rfl I_3 ⟨by omega, by omega⟩
  have F_10 : zk_fr fr_Past_keep g g6 := by rw [e_8]; exact zk_fu F_5 (Or.inr (Or.inl ⟨rfl, rfl⟩))
  have m_13 : 0 ≤ (g6 91 1) ∧ (g6 91 1) ≤ 6 := I_9.1 91 1
  have m_14 : g6 91 1 = g3 91 1 := by rw [e_8]; exact zi_u_ni (by decide)
  have m_15 : 0 ≤ (g3 91 1) ∧ (g3 91 1) ≤ 6 := I_3.1 91 1
  have m_16 : g3 91 1 = g 91 1 := F_4 _ _ (by unfold fr_World_copyFrom; omega)
  have m_17 : 0 ≤ (g 91 1) ∧ (g 91 1) ≤ 6 := I.1 91 1
  refine ⟨⟨by omega, by omega⟩, ?_⟩
  intro g8 e_18
  have I_19 : zk_I g8 := by rw [e_18]; exact zk_upd (L := 0) (H := 6) rfl rfl I_9 ⟨by omega, by omega⟩
  have F_20 : zk_fr fr_Past_keep g g8 := by rw [e_18]; exact zk_fu F_10 (Or.inl ⟨rfl, rfl⟩)
  exact hQ _ I_19 F_20 (by intro hz; exact zP_keep I (by assumption) (by assumption) (by assumption) (by assumption) hz) (by exact zKe_of I (by assumption) (by assumption) (by assumption) (by assumption)) (by exact zKq_of I (by assumption) (by assumption) (by assumption) (by assumption))
-- SpoutNews$World.carryOut(III)V
theorem k_World_carryOut {r0 : Nat} (hr0 : zs_sh r0 = some (10, 20)) {l1 : Int} {l2 : Int} {l3 : Int} {g : zi_M} {Q : Int → zi_M → Prop} (I : zk_I g) (p1 : (-2147483648) ≤ l1 ∧ l1 ≤ 2147483647) (p2 : (-2147483648) ≤ l2 ∧ l2 ≤ 2147483647) (p3 : (-2147483648) ≤ l3 ∧ l3 ≤ 2147483647) (hQ : ∀ g' : zi_M, zk_I g' → zk_fr (fr_World_carryOut r0) g g' → (zPa (g r0 8) (g r0 11) l1 l2 l3 → zCo r0 g g' l1 l2 l3) → (¬ zPa (g r0 8) (g r0 11) l1 l2 l3 → g' = g) → Q 0 g') : w_World_carryOut r0 l1 l2 l3 g Q := by
  unfold w_World_carryOut
  have w : ∀ (a : Nat) (i : Int), (a = r0 + 4 ∨ (r0 + 8 ≤ a ∧ a ≤ r0 + 11)) → fr_World_carryOut r0 a i := fun a i h => by unfold fr_World_carryOut; omega
  refine k_World_canDo hr0 I ⟨by omega, by omega⟩ ⟨by omega, by omega⟩ ⟨by omega, by omega⟩ (fun v1 b1 b2 b3 b4 b5 b6 b7 b8 b9 => ⟨fun ne => ⟨⟨by omega, by omega⟩, fun c => ⟨by omega, ?_⟩, fun c => ⟨by omega, ?_⟩, fun c => ⟨by omega, ?_⟩, fun c => ⟨by omega, ?_⟩, fun c => ⟨by omega, ?_⟩, fun c => ⟨by omega, ?_⟩, fun c => ⟨by omega, ?_⟩, fun c => ⟨by omega, ?_⟩⟩, fun e => ?_⟩)
  · intro y e
    refine hQ y (by rw [e]; exact zk_upd (zk_la10_11 hr0).1 (zk_la10_11 hr0).2 I ⟨by omega, by omega⟩ (zj_a10_11 hr0)) (by rw [e]; exact zk_fu (zk_f0 _) (w _ _ (by omega))) (fun _ => ⟨?_, ?_, ?_, ?_, ?_⟩) (fun n => absurd (b9 n) ne)
    · rw [if_neg (by omega), if_neg (by omega), if_neg (by omega)]; exact zCo_r e 4 (by decide)
    · rw [if_neg (by omega)]; exact zCo_r e 8 (by decide)
    · rw [if_neg (by omega), if_neg (by omega)]; exact zCo_r e 9 (by decide)
    · rw [if_neg (by omega)]; exact zCo_r e 10 (by decide)
    · rw [if_pos c, e, zup_u]
  · intro y e
    refine hQ y (by rw [e]; exact zk_upd (zk_la10_9 hr0).1 (zk_la10_9 hr0).2 I ⟨by omega, by omega⟩ (zj_a10_9 hr0)) (by rw [e]; exact zk_fu (zk_f0 _) (w _ _ (by omega))) (fun _ => ⟨?_, ?_, ?_, ?_, ?_⟩) (fun n => absurd (b9 n) ne)
    · rw [if_neg (by omega), if_neg (by omega), if_neg (by omega)]; exact zCo_r e 4 (by decide)
    · rw [if_neg (by omega)]; exact zCo_r e 8 (by decide)
    · rw [if_pos c, e, zup_u]
    · rw [if_neg (by omega)]; exact zCo_r e 10 (by decide)
    · rw [if_neg (by omega)]; exact zCo_r e 11 (by decide)
  · intro y e
    refine hQ y (by rw [e]; exact zk_upd (zk_la10_9 hr0).1 (zk_la10_9 hr0).2 I ⟨by omega, by omega⟩ (zj_a10_9 hr0)) (by rw [e]; exact zk_fu (zk_f0 _) (w _ _ (by omega))) (fun _ => ⟨?_, ?_, ?_, ?_, ?_⟩) (fun n => absurd (b9 n) ne)
    · rw [if_neg (by omega), if_neg (by omega), if_neg (by omega)]; exact zCo_r e 4 (by decide)
    · rw [if_neg (by omega)]; exact zCo_r e 8 (by decide)
    · rw [if_neg (by omega), if_pos c, e, zup_u]
    · rw [if_neg (by omega)]; exact zCo_r e 10 (by decide)
    · rw [if_neg (by omega)]; exact zCo_r e 11 (by decide)
  · intro y e
    refine hQ y (by rw [e]; exact zk_upd (zk_la10_10 hr0).1 (zk_la10_10 hr0).2 I ⟨by omega, by omega⟩ (zj_a10_10 hr0)) (by rw [e]; exact zk_fu (zk_f0 _) (w _ _ (by omega))) (fun _ => ⟨?_, ?_, ?_, ?_, ?_⟩) (fun n => absurd (b9 n) ne)
    · rw [if_neg (by omega), if_neg (by omega), if_neg (by omega)]; exact zCo_r e 4 (by decide)
    · rw [if_neg (by omega)]; exact zCo_r e 8 (by decide)
    · rw [if_neg (by omega), if_neg (by omega)]; exact zCo_r e 9 (by decide)
    · rw [if_pos c, e, zup_u]
    · rw [if_neg (by omega)]; exact zCo_r e 11 (by decide)
  · intro y e
    refine hQ y (by rw [e]; exact zk_upd (zk_la10_4 hr0).1 (zk_la10_4 hr0).2 I ⟨by omega, by omega⟩ (zj_a10_4 hr0)) (by rw [e]; exact zk_fu (zk_f0 _) (w _ _ (by omega))) (fun _ => ⟨?_, ?_, ?_, ?_, ?_⟩) (fun n => absurd (b9 n) ne)
    · rw [if_pos c, e, zup_u]
    · rw [if_neg (by omega)]; exact zCo_r e 8 (by decide)
    · rw [if_neg (by omega), if_neg (by omega)]; exact zCo_r e 9 (by decide)
    · rw [if_neg (by omega)]; exact zCo_r e 10 (by decide)
    · rw [if_neg (by omega)]; exact zCo_r e 11 (by decide)
  · intro y e
    refine hQ y (by rw [e]; exact zk_upd (zk_la10_4 hr0).1 (zk_la10_4 hr0).2 I ⟨by omega, by omega⟩ (zj_a10_4 hr0)) (by rw [e]; exact zk_fu (zk_f0 _) (w _ _ (by omega))) (fun _ => ⟨?_, ?_, ?_, ?_, ?_⟩) (fun n => absurd (b9 n) ne)
    · rw [if_neg (by omega), if_pos c, e, zup_u]
    · rw [if_neg (by omega)]; exact zCo_r e 8 (by decide)
    · rw [if_neg (by omega), if_neg (by omega)]; exact zCo_r e 9 (by decide)
    · rw [if_neg (by omega)]; exact zCo_r e 10 (by decide)
    · rw [if_neg (by omega)]; exact zCo_r e 11 (by decide)
  · intro y e
    refine hQ y (by rw [e]; exact zk_upd (zk_la10_4 hr0).1 (zk_la10_4 hr0).2 I ⟨by omega, by omega⟩ (zj_a10_4 hr0)) (by rw [e]; exact zk_fu (zk_f0 _) (w _ _ (by omega))) (fun _ => ⟨?_, ?_, ?_, ?_, ?_⟩) (fun n => absurd (b9 n) ne)
    · rw [if_neg (by omega), if_neg (by omega), if_pos c, e, zup_u]
    · rw [if_neg (by omega)]; exact zCo_r e 8 (by decide)
    · rw [if_neg (by omega), if_neg (by omega)]; exact zCo_r e 9 (by decide)
    · rw [if_neg (by omega)]; exact zCo_r e 10 (by decide)
    · rw [if_neg (by omega)]; exact zCo_r e 11 (by decide)
  · intro y e
    have r := zi_r_or (g (r0 + 8) l2) (zi_shl 1 l3)
    refine hQ y (by rw [e]; exact zk_upd (zk_la10_8 hr0).1 (zk_la10_8 hr0).2 I ⟨by omega, by omega⟩ (zj_a10_8 hr0)) (by rw [e]; exact zk_fu (zk_f0 _) (w _ _ (by omega))) (fun _ => ⟨?_, ?_, ?_, ?_, ?_⟩) (fun n => absurd (b9 n) ne)
    · rw [if_neg (by omega), if_neg (by omega), if_neg (by omega)]; exact zCo_r e 4 (by decide)
    · rw [if_pos c, e, zup_u]
    · rw [if_neg (by omega), if_neg (by omega)]; exact zCo_r e 9 (by decide)
    · rw [if_neg (by omega)]; exact zCo_r e 10 (by decide)
    · rw [if_neg (by omega)]; exact zCo_r e 11 (by decide)
  · exact hQ g I (zk_f0 _) (fun h => absurd e (b8 h)) (fun _ => rfl)

-- SpoutNews.act(III)Z
theorem zP_act {g g' : zi_M} (F : zk_fr (fr_World_carryOut 2) g g') (h : zP g) : zP g' := zP_eq (fun a i q => F a i (fun w => by unfold fr_World_carryOut at w; unfold zPc at q; omega)) h

set_option maxRecDepth 100000 in
set_option maxHeartbeats 4000000 in
theorem k_S_act {l1 : Int} {l2 : Int} {l3 : Int} {g : zi_M} {Q : Int → zi_M → Prop} (I : zk_I g) (p1 : (-2147483648) ≤ l1 ∧ l1 ≤ 2147483647) (p2 : (-2147483648) ≤ l2 ∧ l2 ≤ 2147483647) (p3 : (-2147483648) ≤ l3 ∧ l3 ≤ 2147483647) (hQ : ∀ (v : Int) (g' : zi_M), zk_I g' → zk_fr fr_S_act g g' → (0 ≤ v ∧ v ≤ 1) → (zPa (g 2 8) (g 2 11) l1 l2 l3 → v = 1) → (¬ zPa (g 2 8) (g 2 11) l1 l2 l3 → v = 0) → (zP g → zP g') → (zPa (g 2 8) (g 2 11) l1 l2 l3 → zAk l1 l2 l3 g g') → (¬ zPa (g 2 8) (g 2 11) l1 l2 l3 → g' = g) → Q v g') : w_S_act l1 l2 l3 g Q := by
  unfold w_S_act
  refine k_World_canDo rfl I ⟨by omega, by omega⟩ ⟨by omega, by omega⟩ ⟨by omega, by omega⟩ (fun v1 b_1 b_2 b_3 b_4 b_5 b_6 b_7 b_8 b_9 => ?_)
  refine ⟨fun c10 => ?_, fun c10 => ?_⟩
  · refine k_Past_keep I (fun g5 I_13 F_14 b_10 b_11 b_12 => ?_)
    have F_15 : zk_fr fr_S_act g g5 := zk_ft (zk_f0 _) F_14 (fun a i => (fun h => Or.elim h (fun h => (Or.inr (Or.inr (Or.inr (Or.inr (Or.inr (Or.inl h))))))) (fun h => Or.elim h (fun h => (Or.inr (Or.inr (Or.inr (Or.inr (Or.inr (Or.inr (Or.inl h)))))))) (fun h => (Or.inr (Or.inr (Or.inr (Or.inr (Or.inr (Or.inr (Or.inr h)))))))))))
    refine k_World_carryOut rfl I_13 ⟨by omega, by omega⟩ ⟨by omega, by omega⟩ ⟨by omega, by omega⟩ (fun g8 I_18 F_19 b_16 b_17 => ?_)
    have F_20 : zk_fr fr_S_act g g8 := zk_ft F_15 F_19 (fun a i => (fun h => Or.elim h (fun h => (Or.inr (Or.inr (Or.inl h)))) (fun h => Or.elim h (fun h => (Or.inr (Or.inr (Or.inr (Or.inl h))))) (fun h => Or.elim h (fun h => (Or.inr (Or.inr (Or.inr (Or.inr (Or.inl h)))))) (fun h => Or.elim h (fun h => (Or.inl h)) (fun h => (Or.inr (Or.inl h))))))))
    exact hQ _ _ I_18 F_20 ⟨by omega, by omega⟩ (by intro hv; first | rfl | exact absurd (by assumption) hv | exact zP_1 (by assumption) (by omega) (by omega) (by omega) hv | exact zP_2 (by assumption) (by omega) (by omega) (by omega) hv) (by intro hv; first | rfl | exact absurd (by assumption) hv | exact zP_1 (by assumption) (by omega) (by omega) (by omega) hv | exact zP_2 (by assumption) (by omega) (by omega) (by omega) hv) (by intro hz; repeat first | exact hz | refine zP_act (by assumption) ?_ | refine zP_mp (by assumption) ?_) (by first | exact fun hv => zAk_of I (by assumption) (by assumption) (by assumption) (by assumption) hv | exact fun hv => zP_1 (by assumption) (by omega) (by omega) (by omega) hv) (by first | exact fun _ => rfl | exact fun hv => zP_2 (by assumption) (by omega) (by omega) (by omega) hv)
  · exact hQ _ _ I (zk_f0 _) ⟨by omega, by omega⟩ (by intro hv; first | rfl | exact absurd (by assumption) hv | exact zP_1 (by assumption) (by omega) (by omega) (by omega) hv | exact zP_2 (by assumption) (by omega) (by omega) (by omega) hv) (by intro hv; first | rfl | exact absurd (by assumption) hv | exact zP_1 (by assumption) (by omega) (by omega) (by omega) hv | exact zP_2 (by assumption) (by omega) (by omega) (by omega) hv) (by intro hz; repeat first | exact hz | refine zP_act (by assumption) ?_ | refine zP_mp (by assumption) ?_) (by first | exact fun hv => zAk_of I (by assumption) (by assumption) (by assumption) (by assumption) hv | exact fun hv => zP_1 (by assumption) (by omega) (by omega) (by omega) hv) (by first | exact fun _ => rfl | exact fun hv => zP_2 (by assumption) (by omega) (by omega) (by omega) hv)
-- SpoutNewsModel.canAct(III)Z
set_option maxRecDepth 100000 in
set_option maxHeartbeats 4000000 in
theorem k_M_canAct {l1 : Int} {l2 : Int} {l3 : Int} {g : zi_M} {Q : Int → zi_M → Prop} (I : zk_I g) (p1 : (-2147483648) ≤ l1 ∧ l1 ≤ 2147483647) (p2 : (-2147483648) ≤ l2 ∧ l2 ≤ 2147483647) (p3 : (-2147483648) ≤ l3 ∧ l3 ≤ 2147483647) (hQ : ∀ v : Int, (0 ≤ v ∧ v ≤ 1) → (¬ v = 0 ∧ (l1 = 0) → 0 ≤ l2 ∧ l2 ≤ 7 ∧ 0 ≤ l3 ∧ l3 ≤ 9) → (¬ v = 0 ∧ (l1 = 1) → 0 ≤ l2 ∧ l2 ≤ 7) → (¬ v = 0 ∧ (l1 = 2) → 0 ≤ l2 ∧ l2 ≤ 5 ∧ 0 ≤ l3 ∧ l3 ≤ 9) → (¬ v = 0 ∧ (3 ≤ l1 ∧ l1 ≤ 5) → 0 ≤ l2 ∧ l2 ≤ 9) → (¬ v = 0 ∧ (l1 = 6) → 0 ≤ l2 ∧ l2 ≤ 7) → (¬ v = 0 ∧ (l1 = 7) → 0 ≤ l2 ∧ l2 ≤ 5) → (zPa (g 214 6) (g 214 7) l1 l2 l3 → ¬ v = 0) → (¬ zPa (g 214 6) (g 214 7) l1 l2 l3 → v = 0) → Q v g) : w_M_canAct l1 l2 l3 g Q := by
  unfold w_M_canAct
  refine ⟨⟨by omega, by omega⟩, ?_⟩
  refine ⟨fun c44 => ?_, fun c44 => ?_⟩
  · refine ⟨fun c35 => ?_, fun c35 => ?_⟩
    · refine ⟨fun c31 => ?_, fun c31 => ?_⟩
      · refine ⟨fun c22 => ?_, fun c22 => ?_⟩
        · refine ⟨fun c13 => ?_, fun c13 => ?_⟩
          · refine k_M_isIn I ⟨by omega, by omega⟩ ⟨by omega, by omega⟩ ⟨by omega, by omega⟩ (fun v2 b_1 b_2 b_3 => ?_)
            refine ⟨fun c9 => ?_, fun c9 => ?_⟩
            · exact hQ _ ⟨by omega, by omega⟩ (by omega) (by omega) (by omega) (by omega) (by omega) (by omega) (by intro hv; first | decide | rfl | (rw [zPa_0 (by assumption) (show 0 ≤ g 214 6 from (I.1 214 6).1)] at hv; omega) | (rw [zPa_1 (by assumption)] at hv; omega) | (rw [zPa_6 (by assumption)] at hv; omega) | (rw [zPa_2 (by assumption) (show 0 ≤ g 214 6 from (I.1 214 6).1)] at hv; omega) | (rw [zPa_7 (by assumption)] at hv; omega) | (rw [zPa_3 (show 3 ≤ l1 ∧ l1 ≤ 5 by omega)] at hv; omega) | (rw [zPa_o (show l1 < 0 ∨ 7 < l1 by omega)] at hv; exact False.elim hv)) (by intro hv; first | decide | rfl | (rw [zPa_0 (by assumption) (show 0 ≤ g 214 6 from (I.1 214 6).1)] at hv; omega) | (rw [zPa_1 (by assumption)] at hv; omega) | (rw [zPa_6 (by assumption)] at hv; omega) | (rw [zPa_2 (by assumption) (show 0 ≤ g 214 6 from (I.1 214 6).1)] at hv; omega) | (rw [zPa_7 (by assumption)] at hv; omega) | (rw [zPa_3 (show 3 ≤ l1 ∧ l1 ≤ 5 by omega)] at hv; omega) | (rw [zPa_o (show l1 < 0 ∨ 7 < l1 by omega)] at hv; exact False.elim hv))
            · have m_7 : 0 ≤ (g 214 6) ∧ (g 214 6) ≤ 10 := I.1 214 6
              refine k_M_isSpout I ⟨by omega, by omega⟩ (fun v5 b_4 b_5 b_6 => ?_)
              refine ⟨fun c8 => ?_, fun c8 => ?_⟩
              · exact hQ _ ⟨by omega, by omega⟩ (by omega) (by omega) (by omega) (by omega) (by omega) (by omega) (by intro hv; first | decide | rfl | (rw [zPa_0 (by assumption) (show 0 ≤ g 214 6 from (I.1 214 6).1)] at hv; omega) | (rw [zPa_1 (by assumption)] at hv; omega) | (rw [zPa_6 (by assumption)] at hv; omega) | (rw [zPa_2 (by assumption) (show 0 ≤ g 214 6 from (I.1 214 6).1)] at hv; omega) | (rw [zPa_7 (by assumption)] at hv; omega) | (rw [zPa_3 (show 3 ≤ l1 ∧ l1 ≤ 5 by omega)] at hv; omega) | (rw [zPa_o (show l1 < 0 ∨ 7 < l1 by omega)] at hv; exact False.elim hv)) (by intro hv; first | decide | rfl | (rw [zPa_0 (by assumption) (show 0 ≤ g 214 6 from (I.1 214 6).1)] at hv; omega) | (rw [zPa_1 (by assumption)] at hv; omega) | (rw [zPa_6 (by assumption)] at hv; omega) | (rw [zPa_2 (by assumption) (show 0 ≤ g 214 6 from (I.1 214 6).1)] at hv; omega) | (rw [zPa_7 (by assumption)] at hv; omega) | (rw [zPa_3 (show 3 ≤ l1 ∧ l1 ≤ 5 by omega)] at hv; omega) | (rw [zPa_o (show l1 < 0 ∨ 7 < l1 by omega)] at hv; exact False.elim hv))
              · exact hQ _ ⟨by omega, by omega⟩ (by omega) (by omega) (by omega) (by omega) (by omega) (by omega) (by intro hv; first | decide | rfl | (rw [zPa_0 (by assumption) (show 0 ≤ g 214 6 from (I.1 214 6).1)] at hv; omega) | (rw [zPa_1 (by assumption)] at hv; omega) | (rw [zPa_6 (by assumption)] at hv; omega) | (rw [zPa_2 (by assumption) (show 0 ≤ g 214 6 from (I.1 214 6).1)] at hv; omega) | (rw [zPa_7 (by assumption)] at hv; omega) | (rw [zPa_3 (show 3 ≤ l1 ∧ l1 ≤ 5 by omega)] at hv; omega) | (rw [zPa_o (show l1 < 0 ∨ 7 < l1 by omega)] at hv; exact False.elim hv)) (by intro hv; first | decide | rfl | (rw [zPa_0 (by assumption) (show 0 ≤ g 214 6 from (I.1 214 6).1)] at hv; omega) | (rw [zPa_1 (by assumption)] at hv; omega) | (rw [zPa_6 (by assumption)] at hv; omega) | (rw [zPa_2 (by assumption) (show 0 ≤ g 214 6 from (I.1 214 6).1)] at hv; omega) | (rw [zPa_7 (by assumption)] at hv; omega) | (rw [zPa_3 (show 3 ≤ l1 ∧ l1 ≤ 5 by omega)] at hv; omega) | (rw [zPa_o (show l1 < 0 ∨ 7 < l1 by omega)] at hv; exact False.elim hv))
          · refine k_M_isIn I ⟨by omega, by omega⟩ ⟨by omega, by omega⟩ ⟨by omega, by omega⟩ (fun v10 b_8 b_9 b_10 => ?_)
            exact hQ _ ⟨by omega, by omega⟩ (by omega) (by omega) (by omega) (by omega) (by omega) (by omega) (by intro hv; first | decide | rfl | (rw [zPa_0 (by assumption) (show 0 ≤ g 214 6 from (I.1 214 6).1)] at hv; omega) | (rw [zPa_1 (by assumption)] at hv; omega) | (rw [zPa_6 (by assumption)] at hv; omega) | (rw [zPa_2 (by assumption) (show 0 ≤ g 214 6 from (I.1 214 6).1)] at hv; omega) | (rw [zPa_7 (by assumption)] at hv; omega) | (rw [zPa_3 (show 3 ≤ l1 ∧ l1 ≤ 5 by omega)] at hv; omega) | (rw [zPa_o (show l1 < 0 ∨ 7 < l1 by omega)] at hv; exact False.elim hv)) (by intro hv; first | decide | rfl | (rw [zPa_0 (by assumption) (show 0 ≤ g 214 6 from (I.1 214 6).1)] at hv; omega) | (rw [zPa_1 (by assumption)] at hv; omega) | (rw [zPa_6 (by assumption)] at hv; omega) | (rw [zPa_2 (by assumption) (show 0 ≤ g 214 6 from (I.1 214 6).1)] at hv; omega) | (rw [zPa_7 (by assumption)] at hv; omega) | (rw [zPa_3 (show 3 ≤ l1 ∧ l1 ≤ 5 by omega)] at hv; omega) | (rw [zPa_o (show l1 < 0 ∨ 7 < l1 by omega)] at hv; exact False.elim hv))
        · refine k_M_isIn I ⟨by omega, by omega⟩ ⟨by omega, by omega⟩ ⟨by omega, by omega⟩ (fun v14 b_11 b_12 b_13 => ?_)
          refine ⟨fun c21 => ?_, fun c21 => ?_⟩
          · exact hQ _ ⟨by omega, by omega⟩ (by omega) (by omega) (by omega) (by omega) (by omega) (by omega) (by intro hv; first | decide | rfl | (rw [zPa_0 (by assumption) (show 0 ≤ g 214 6 from (I.1 214 6).1)] at hv; omega) | (rw [zPa_1 (by assumption)] at hv; omega) | (rw [zPa_6 (by assumption)] at hv; omega) | (rw [zPa_2 (by assumption) (show 0 ≤ g 214 6 from (I.1 214 6).1)] at hv; omega) | (rw [zPa_7 (by assumption)] at hv; omega) | (rw [zPa_3 (show 3 ≤ l1 ∧ l1 ≤ 5 by omega)] at hv; omega) | (rw [zPa_o (show l1 < 0 ∨ 7 < l1 by omega)] at hv; exact False.elim hv)) (by intro hv; first | decide | rfl | (rw [zPa_0 (by assumption) (show 0 ≤ g 214 6 from (I.1 214 6).1)] at hv; omega) | (rw [zPa_1 (by assumption)] at hv; omega) | (rw [zPa_6 (by assumption)] at hv; omega) | (rw [zPa_2 (by assumption) (show 0 ≤ g 214 6 from (I.1 214 6).1)] at hv; omega) | (rw [zPa_7 (by assumption)] at hv; omega) | (rw [zPa_3 (show 3 ≤ l1 ∧ l1 ≤ 5 by omega)] at hv; omega) | (rw [zPa_o (show l1 < 0 ∨ 7 < l1 by omega)] at hv; exact False.elim hv))
          · have m_17 : 0 ≤ (g 214 6) ∧ (g 214 6) ≤ 10 := I.1 214 6
            refine k_M_isSpout I ⟨by omega, by omega⟩ (fun v17 b_14 b_15 b_16 => ?_)
            refine ⟨fun c20 => ?_, fun c20 => ?_⟩
            · exact hQ _ ⟨by omega, by omega⟩ (by omega) (by omega) (by omega) (by omega) (by omega) (by omega) (by intro hv; first | decide | rfl | (rw [zPa_0 (by assumption) (show 0 ≤ g 214 6 from (I.1 214 6).1)] at hv; omega) | (rw [zPa_1 (by assumption)] at hv; omega) | (rw [zPa_6 (by assumption)] at hv; omega) | (rw [zPa_2 (by assumption) (show 0 ≤ g 214 6 from (I.1 214 6).1)] at hv; omega) | (rw [zPa_7 (by assumption)] at hv; omega) | (rw [zPa_3 (show 3 ≤ l1 ∧ l1 ≤ 5 by omega)] at hv; omega) | (rw [zPa_o (show l1 < 0 ∨ 7 < l1 by omega)] at hv; exact False.elim hv)) (by intro hv; first | decide | rfl | (rw [zPa_0 (by assumption) (show 0 ≤ g 214 6 from (I.1 214 6).1)] at hv; omega) | (rw [zPa_1 (by assumption)] at hv; omega) | (rw [zPa_6 (by assumption)] at hv; omega) | (rw [zPa_2 (by assumption) (show 0 ≤ g 214 6 from (I.1 214 6).1)] at hv; omega) | (rw [zPa_7 (by assumption)] at hv; omega) | (rw [zPa_3 (show 3 ≤ l1 ∧ l1 ≤ 5 by omega)] at hv; omega) | (rw [zPa_o (show l1 < 0 ∨ 7 < l1 by omega)] at hv; exact False.elim hv))
            · exact hQ _ ⟨by omega, by omega⟩ (by omega) (by omega) (by omega) (by omega) (by omega) (by omega) (by intro hv; first | decide | rfl | (rw [zPa_0 (by assumption) (show 0 ≤ g 214 6 from (I.1 214 6).1)] at hv; omega) | (rw [zPa_1 (by assumption)] at hv; omega) | (rw [zPa_6 (by assumption)] at hv; omega) | (rw [zPa_2 (by assumption) (show 0 ≤ g 214 6 from (I.1 214 6).1)] at hv; omega) | (rw [zPa_7 (by assumption)] at hv; omega) | (rw [zPa_3 (show 3 ≤ l1 ∧ l1 ≤ 5 by omega)] at hv; omega) | (rw [zPa_o (show l1 < 0 ∨ 7 < l1 by omega)] at hv; exact False.elim hv)) (by intro hv; first | decide | rfl | (rw [zPa_0 (by assumption) (show 0 ≤ g 214 6 from (I.1 214 6).1)] at hv; omega) | (rw [zPa_1 (by assumption)] at hv; omega) | (rw [zPa_6 (by assumption)] at hv; omega) | (rw [zPa_2 (by assumption) (show 0 ≤ g 214 6 from (I.1 214 6).1)] at hv; omega) | (rw [zPa_7 (by assumption)] at hv; omega) | (rw [zPa_3 (show 3 ≤ l1 ∧ l1 ≤ 5 by omega)] at hv; omega) | (rw [zPa_o (show l1 < 0 ∨ 7 < l1 by omega)] at hv; exact False.elim hv))
      · have m_21 : 0 ≤ (g 214 7) ∧ (g 214 7) ≤ 8 := I.1 214 7
        refine k_M_isSitter I ⟨by omega, by omega⟩ (fun v23 b_18 b_19 b_20 => ?_)
        refine ⟨fun c30 => ?_, fun c30 => ?_⟩
        · exact hQ _ ⟨by omega, by omega⟩ (by omega) (by omega) (by omega) (by omega) (by omega) (by omega) (by intro hv; first | decide | rfl | (rw [zPa_0 (by assumption) (show 0 ≤ g 214 6 from (I.1 214 6).1)] at hv; omega) | (rw [zPa_1 (by assumption)] at hv; omega) | (rw [zPa_6 (by assumption)] at hv; omega) | (rw [zPa_2 (by assumption) (show 0 ≤ g 214 6 from (I.1 214 6).1)] at hv; omega) | (rw [zPa_7 (by assumption)] at hv; omega) | (rw [zPa_3 (show 3 ≤ l1 ∧ l1 ≤ 5 by omega)] at hv; omega) | (rw [zPa_o (show l1 < 0 ∨ 7 < l1 by omega)] at hv; exact False.elim hv)) (by intro hv; first | decide | rfl | (rw [zPa_0 (by assumption) (show 0 ≤ g 214 6 from (I.1 214 6).1)] at hv; omega) | (rw [zPa_1 (by assumption)] at hv; omega) | (rw [zPa_6 (by assumption)] at hv; omega) | (rw [zPa_2 (by assumption) (show 0 ≤ g 214 6 from (I.1 214 6).1)] at hv; omega) | (rw [zPa_7 (by assumption)] at hv; omega) | (rw [zPa_3 (show 3 ≤ l1 ∧ l1 ≤ 5 by omega)] at hv; omega) | (rw [zPa_o (show l1 < 0 ∨ 7 < l1 by omega)] at hv; exact False.elim hv))
        · refine k_M_isIn I ⟨by omega, by omega⟩ ⟨by omega, by omega⟩ ⟨by omega, by omega⟩ (fun v26 b_22 b_23 b_24 => ?_)
          refine ⟨fun c29 => ?_, fun c29 => ?_⟩
          · exact hQ _ ⟨by omega, by omega⟩ (by omega) (by omega) (by omega) (by omega) (by omega) (by omega) (by intro hv; first | decide | rfl | (rw [zPa_0 (by assumption) (show 0 ≤ g 214 6 from (I.1 214 6).1)] at hv; omega) | (rw [zPa_1 (by assumption)] at hv; omega) | (rw [zPa_6 (by assumption)] at hv; omega) | (rw [zPa_2 (by assumption) (show 0 ≤ g 214 6 from (I.1 214 6).1)] at hv; omega) | (rw [zPa_7 (by assumption)] at hv; omega) | (rw [zPa_3 (show 3 ≤ l1 ∧ l1 ≤ 5 by omega)] at hv; omega) | (rw [zPa_o (show l1 < 0 ∨ 7 < l1 by omega)] at hv; exact False.elim hv)) (by intro hv; first | decide | rfl | (rw [zPa_0 (by assumption) (show 0 ≤ g 214 6 from (I.1 214 6).1)] at hv; omega) | (rw [zPa_1 (by assumption)] at hv; omega) | (rw [zPa_6 (by assumption)] at hv; omega) | (rw [zPa_2 (by assumption) (show 0 ≤ g 214 6 from (I.1 214 6).1)] at hv; omega) | (rw [zPa_7 (by assumption)] at hv; omega) | (rw [zPa_3 (show 3 ≤ l1 ∧ l1 ≤ 5 by omega)] at hv; omega) | (rw [zPa_o (show l1 < 0 ∨ 7 < l1 by omega)] at hv; exact False.elim hv))
          · exact hQ _ ⟨by omega, by omega⟩ (by omega) (by omega) (by omega) (by omega) (by omega) (by omega) (by intro hv; first | decide | rfl | (rw [zPa_0 (by assumption) (show 0 ≤ g 214 6 from (I.1 214 6).1)] at hv; omega) | (rw [zPa_1 (by assumption)] at hv; omega) | (rw [zPa_6 (by assumption)] at hv; omega) | (rw [zPa_2 (by assumption) (show 0 ≤ g 214 6 from (I.1 214 6).1)] at hv; omega) | (rw [zPa_7 (by assumption)] at hv; omega) | (rw [zPa_3 (show 3 ≤ l1 ∧ l1 ≤ 5 by omega)] at hv; omega) | (rw [zPa_o (show l1 < 0 ∨ 7 < l1 by omega)] at hv; exact False.elim hv)) (by intro hv; first | decide | rfl | (rw [zPa_0 (by assumption) (show 0 ≤ g 214 6 from (I.1 214 6).1)] at hv; omega) | (rw [zPa_1 (by assumption)] at hv; omega) | (rw [zPa_6 (by assumption)] at hv; omega) | (rw [zPa_2 (by assumption) (show 0 ≤ g 214 6 from (I.1 214 6).1)] at hv; omega) | (rw [zPa_7 (by assumption)] at hv; omega) | (rw [zPa_3 (show 3 ≤ l1 ∧ l1 ≤ 5 by omega)] at hv; omega) | (rw [zPa_o (show l1 < 0 ∨ 7 < l1 by omega)] at hv; exact False.elim hv))
    · have m_28 : 0 ≤ (g 214 7) ∧ (g 214 7) ≤ 8 := I.1 214 7
      refine k_M_isSitter I ⟨by omega, by omega⟩ (fun v32 b_25 b_26 b_27 => ?_)
      exact hQ _ ⟨by omega, by omega⟩ (by omega) (by omega) (by omega) (by omega) (by omega) (by omega) (by intro hv; first | decide | rfl | (rw [zPa_0 (by assumption) (show 0 ≤ g 214 6 from (I.1 214 6).1)] at hv; omega) | (rw [zPa_1 (by assumption)] at hv; omega) | (rw [zPa_6 (by assumption)] at hv; omega) | (rw [zPa_2 (by assumption) (show 0 ≤ g 214 6 from (I.1 214 6).1)] at hv; omega) | (rw [zPa_7 (by assumption)] at hv; omega) | (rw [zPa_3 (show 3 ≤ l1 ∧ l1 ≤ 5 by omega)] at hv; omega) | (rw [zPa_o (show l1 < 0 ∨ 7 < l1 by omega)] at hv; exact False.elim hv)) (by intro hv; first | decide | rfl | (rw [zPa_0 (by assumption) (show 0 ≤ g 214 6 from (I.1 214 6).1)] at hv; omega) | (rw [zPa_1 (by assumption)] at hv; omega) | (rw [zPa_6 (by assumption)] at hv; omega) | (rw [zPa_2 (by assumption) (show 0 ≤ g 214 6 from (I.1 214 6).1)] at hv; omega) | (rw [zPa_7 (by assumption)] at hv; omega) | (rw [zPa_3 (show 3 ≤ l1 ∧ l1 ≤ 5 by omega)] at hv; omega) | (rw [zPa_o (show l1 < 0 ∨ 7 < l1 by omega)] at hv; exact False.elim hv))
  · have m_32 : 0 ≤ (g 214 7) ∧ (g 214 7) ≤ 8 := I.1 214 7
    refine k_M_isSitter I ⟨by omega, by omega⟩ (fun v36 b_29 b_30 b_31 => ?_)
    refine ⟨fun c43 => ?_, fun c43 => ?_⟩
    · exact hQ _ ⟨by omega, by omega⟩ (by omega) (by omega) (by omega) (by omega) (by omega) (by omega) (by intro hv; first | decide | rfl | (rw [zPa_0 (by assumption) (show 0 ≤ g 214 6 from (I.1 214 6).1)] at hv; omega) | (rw [zPa_1 (by assumption)] at hv; omega) | (rw [zPa_6 (by assumption)] at hv; omega) | (rw [zPa_2 (by assumption) (show 0 ≤ g 214 6 from (I.1 214 6).1)] at hv; omega) | (rw [zPa_7 (by assumption)] at hv; omega) | (rw [zPa_3 (show 3 ≤ l1 ∧ l1 ≤ 5 by omega)] at hv; omega) | (rw [zPa_o (show l1 < 0 ∨ 7 < l1 by omega)] at hv; exact False.elim hv)) (by intro hv; first | decide | rfl | (rw [zPa_0 (by assumption) (show 0 ≤ g 214 6 from (I.1 214 6).1)] at hv; omega) | (rw [zPa_1 (by assumption)] at hv; omega) | (rw [zPa_6 (by assumption)] at hv; omega) | (rw [zPa_2 (by assumption) (show 0 ≤ g 214 6 from (I.1 214 6).1)] at hv; omega) | (rw [zPa_7 (by assumption)] at hv; omega) | (rw [zPa_3 (show 3 ≤ l1 ∧ l1 ≤ 5 by omega)] at hv; omega) | (rw [zPa_o (show l1 < 0 ∨ 7 < l1 by omega)] at hv; exact False.elim hv))
    · have m_36 : 0 ≤ (g 214 6) ∧ (g 214 6) ≤ 10 := I.1 214 6
      refine k_M_isSpout I ⟨by omega, by omega⟩ (fun v39 b_33 b_34 b_35 => ?_)
      refine ⟨fun c42 => ?_, fun c42 => ?_⟩
      · exact hQ _ ⟨by omega, by omega⟩ (by omega) (by omega) (by omega) (by omega) (by omega) (by omega) (by intro hv; first | decide | rfl | (rw [zPa_0 (by assumption) (show 0 ≤ g 214 6 from (I.1 214 6).1)] at hv; omega) | (rw [zPa_1 (by assumption)] at hv; omega) | (rw [zPa_6 (by assumption)] at hv; omega) | (rw [zPa_2 (by assumption) (show 0 ≤ g 214 6 from (I.1 214 6).1)] at hv; omega) | (rw [zPa_7 (by assumption)] at hv; omega) | (rw [zPa_3 (show 3 ≤ l1 ∧ l1 ≤ 5 by omega)] at hv; omega) | (rw [zPa_o (show l1 < 0 ∨ 7 < l1 by omega)] at hv; exact False.elim hv)) (by intro hv; first | decide | rfl | (rw [zPa_0 (by assumption) (show 0 ≤ g 214 6 from (I.1 214 6).1)] at hv; omega) | (rw [zPa_1 (by assumption)] at hv; omega) | (rw [zPa_6 (by assumption)] at hv; omega) | (rw [zPa_2 (by assumption) (show 0 ≤ g 214 6 from (I.1 214 6).1)] at hv; omega) | (rw [zPa_7 (by assumption)] at hv; omega) | (rw [zPa_3 (show 3 ≤ l1 ∧ l1 ≤ 5 by omega)] at hv; omega) | (rw [zPa_o (show l1 < 0 ∨ 7 < l1 by omega)] at hv; exact False.elim hv))
      · exact hQ _ ⟨by omega, by omega⟩ (by omega) (by omega) (by omega) (by omega) (by omega) (by omega) (by intro hv; first | decide | rfl | (rw [zPa_0 (by assumption) (show 0 ≤ g 214 6 from (I.1 214 6).1)] at hv; omega) | (rw [zPa_1 (by assumption)] at hv; omega) | (rw [zPa_6 (by assumption)] at hv; omega) | (rw [zPa_2 (by assumption) (show 0 ≤ g 214 6 from (I.1 214 6).1)] at hv; omega) | (rw [zPa_7 (by assumption)] at hv; omega) | (rw [zPa_3 (show 3 ≤ l1 ∧ l1 ≤ 5 by omega)] at hv; omega) | (rw [zPa_o (show l1 < 0 ∨ 7 < l1 by omega)] at hv; exact False.elim hv)) (by intro hv; first | decide | rfl | (rw [zPa_0 (by assumption) (show 0 ≤ g 214 6 from (I.1 214 6).1)] at hv; omega) | (rw [zPa_1 (by assumption)] at hv; omega) | (rw [zPa_6 (by assumption)] at hv; omega) | (rw [zPa_2 (by assumption) (show 0 ≤ g 214 6 from (I.1 214 6).1)] at hv; omega) | (rw [zPa_7 (by assumption)] at hv; omega) | (rw [zPa_3 (show 3 ≤ l1 ∧ l1 ≤ 5 by omega)] at hv; omega) | (rw [zPa_o (show l1 < 0 ∨ 7 < l1 by omega)] at hv; exact False.elim hv))
-- SpoutNewsModel.keepsAhead()V
theorem k_M_keepsAhead_l57 {K91 : zi_M → Prop} {Q : Int → zi_M → Prop} {g0 s : zi_M} {c : Int} (c5 : 0 ≤ c ∧ c ≤ 5) (hK91 : ∀ (g : zi_M), zk_I g → zk_fr fr_M_keepsAhead g0 g → g 214 3 = c → (∀ i : Int, 264 * c ≤ i → i < 264 * c + 264 → g 216 i = s 215 (i - 264 * c)) → (∀ i : Int, ¬ (264 * c ≤ i ∧ i < 264 * c + 264) → g 216 i = s 216 i) → K91 g) : ∀ (n : Nat) {l1 : Int} {g : zi_M}, zk_I g → zk_fr fr_M_keepsAhead g0 g → (0 ≤ l1 ∧ l1 ≤ 264) → g 214 3 = c → (∀ i : Int, g 215 i = s 215 i) → (∀ i : Int, 264 * c ≤ i → i < 264 * c + l1 → g 216 i = s 215 (i - 264 * c)) → (∀ i : Int, ¬ (264 * c ≤ i ∧ i < 264 * c + l1) → g 216 i = s 216 i) → 264 - l1 < (n : Int) → w_M_keepsAhead_l57 K91 Q n l1 g
  | 0, l1, g, I, F, b0, b1, b2, b3, b4, hm => by exfalso; omega
  | n + 1, l1, g, I, F, b0, b1, b2, b3, b4, hm => by
    unfold w_M_keepsAhead_l57
    refine ⟨⟨by omega, by omega⟩, fun c6 => ?_, fun c6 => ?_⟩
    · have e : l1 = 264 := by omega
      rw [e] at b3 b4
      exact hK91 _ I F b1 b3 b4
    · refine ⟨⟨by omega, by omega⟩, ⟨by omega, by omega⟩, ?_⟩
      intro g5 e_3
      have I_4 : zk_I g5 := by rw [e_3]; exact zk_row2 I (by omega) ⟨by omega, by omega⟩
      have F_5 : zk_fr fr_M_keepsAhead g0 g5 := by rw [e_3]; exact zk_fu F (Or.inl rfl)
      have m_9 : g5 214 3 = g 214 3 := by rw [e_3]; exact zi_u_ne (by decide)
      refine k_M_keepsAhead_l57 c5 hK91 n I_4 F_5 ⟨by omega, by omega⟩ (m_9.trans b1) (fun i => ?_) (fun i i0 i1 => ?_) (fun i hi => ?_) (by omega)
      · rw [e_3, zi_u_ne (by decide)]
        exact b2 i
      · by_cases w : i = 264 * c + l1
        · rw [e_3, w, b1, zi_u_eq, b2, show 264 * c + l1 - 264 * c = l1 by omega]
        · rw [e_3, zi_u_ni (by omega)]
          exact b3 i i0 (by omega)
      · rw [e_3, zi_u_ni (by omega)]
        exact b4 i (by omega)
theorem k_M_keepsAhead_l21 {K55 : zi_M → Prop} {Q : Int → zi_M → Prop} {g0 s : zi_M} (hK55 : ∀ (g : zi_M), zk_I g → zk_fr fr_M_keepsAhead g0 g → g 214 3 = 5 → (∀ i : Int, g 215 i = s 215 i) → (∀ i : Int, 0 ≤ i → i < 1320 → g 216 i = s 216 (i + 264)) → K55 g) : ∀ (n : Nat) {l1 : Int} {g : zi_M}, zk_I g → zk_fr fr_M_keepsAhead g0 g → (0 ≤ l1 ∧ l1 ≤ 1320) → g 214 3 = 5 → (∀ i : Int, g 215 i = s 215 i) → (∀ i : Int, 0 ≤ i → i < l1 → g 216 i = s 216 (i + 264)) → (∀ i : Int, l1 ≤ i → g 216 i = s 216 i) → 1320 - l1 < (n : Int) → w_M_keepsAhead_l21 K55 Q n l1 g
  | 0, l1, g, I, F, b0, b1, b2, b3, b4, hm => by exfalso; omega
  | n + 1, l1, g, I, F, b0, b1, b2, b3, b4, hm => by
    unfold w_M_keepsAhead_l21
    refine ⟨⟨by omega, by omega⟩, ⟨by omega, by omega⟩, fun c6 => ?_, fun c6 => ?_⟩
    · have e : l1 = 1320 := by omega
      rw [e] at b3
      exact hK55 _ I F b1 b2 b3
    · refine ⟨⟨by omega, by omega⟩, ⟨by omega, by omega⟩, ?_⟩
      intro g15 e_21
      have I_22 : zk_I g15 := by rw [e_21]; exact zk_row1 I (by omega)
      have F_23 : zk_fr fr_M_keepsAhead g0 g15 := by rw [e_21]; exact zk_fu F (Or.inl rfl)
      have m_26 : g15 214 3 = g 214 3 := by rw [e_21]; exact zi_u_ne (by decide)
      refine k_M_keepsAhead_l21 hK55 n I_22 F_23 ⟨by omega, by omega⟩ (m_26.trans b1) (fun i => ?_) (fun i i0 i1 => ?_) (fun i hi => ?_) (by omega)
      · rw [e_21, zi_u_ne (by decide)]
        exact b2 i
      · by_cases w : i = l1
        · rw [e_21, w, zi_u_eq]
          exact b4 _ (by omega)
        · rw [e_21, zi_u_ni (by omega)]
          exact b3 i i0 (by omega)
      · rw [e_21, zi_u_ni (by omega)]
        exact b4 i (by omega)
theorem k_M_keepsAhead {g : zi_M} {Q : Int → zi_M → Prop} (I : zk_I g) (hQ : ∀ g' : zi_M, zk_I g' → zk_fr fr_M_keepsAhead g g' → zKa g g' → Q 0 g') : w_M_keepsAhead g Q := by
  unfold w_M_keepsAhead
  have m_1 : 0 ≤ (g 214 3) ∧ (g 214 3) ≤ 6 := I.1 214 3
  refine ⟨⟨by omega, by omega⟩, fun c22 => ?_, fun c22 => ?_⟩
  · refine ⟨265, k_M_keepsAhead_l57 (s := g) (c := g 214 3) ⟨by omega, by omega⟩ (fun g7 I_10 F_11 b1 b3 b4 => ?_) 265 I (zk_f0 _) ⟨by omega, by omega⟩ rfl (fun _ => rfl) (fun i i0 i1 => by exfalso; omega) (fun i _ => rfl) (by decide)⟩
    intro g8 e_13
    have I_14 : zk_I g8 := by rw [e_13]; exact zk_upd (L := 0) (H := 6) rfl rfl I_10 ⟨by omega, by omega⟩
    have F_15 : zk_fr fr_M_keepsAhead g g8 := by rw [e_13]; exact zk_fu F_11 (Or.inr ⟨rfl, rfl⟩)
    have n3 : g8 214 3 = g 214 3 + 1 := by rw [e_13, zi_u_eq, b1]
    have n216 : ∀ i : Int, g8 216 i = g7 216 i := fun i => by rw [e_13, zi_u_ne (by decide)]
    refine hQ _ I_14 F_15 ⟨by omega, fun e k e0 e1 k0 k1 => ?_, fun k k0 k1 => ?_⟩
    · rw [n216, b4 _ (by omega), n3, show e + (g 214 3 + 1 - (g 214 3 + 1)) = e by omega]
    · rw [n216, n3, b3 _ (by omega) (by omega), show 264 * (g 214 3 + 1 - 1) + k - 264 * g 214 3 = k by omega]
  · intro g10 e_17
    have I_18 : zk_I g10 := by rw [e_17]; exact zk_upd (L := 0) (H := 6) rfl rfl I ⟨by omega, by omega⟩
    have F_19 : zk_fr fr_M_keepsAhead g g10 := by rw [e_17]; exact zk_fu (zk_f0 _) (Or.inr ⟨rfl, rfl⟩)
    have m_39 : g10 214 3 = 5 := by rw [e_17, zi_u_eq]; omega
    have u10 : ∀ (a : Nat) (i : Int), ¬ a = 214 → g10 a i = g a i := fun a i h => by rw [e_17, zi_u_ne h]
    refine ⟨1321, k_M_keepsAhead_l21 (s := g10) (fun g17 I_27 F_28 d1 d2 d3 => ?_) 1321 I_18 F_19 ⟨by omega, by omega⟩ m_39 (fun _ => rfl) (fun i i0 i1 => by exfalso; omega) (fun i _ => rfl) (by decide)⟩
    refine ⟨265, k_M_keepsAhead_l57 (s := g17) (c := 5) ⟨by decide, by decide⟩ (fun g18 I_30 F_31 b1 b3 b4 => ?_) 265 I_27 F_28 ⟨by omega, by omega⟩ d1 (fun _ => rfl) (fun i i0 i1 => by exfalso; omega) (fun i _ => rfl) (by decide)⟩
    intro g19 e_33
    have I_34 : zk_I g19 := by rw [e_33]; exact zk_upd (L := 0) (H := 6) rfl rfl I_30 ⟨by omega, by omega⟩
    have F_35 : zk_fr fr_M_keepsAhead g g19 := by rw [e_33]; exact zk_fu F_31 (Or.inr ⟨rfl, rfl⟩)
    have n3 : g19 214 3 = 6 := by rw [e_33, zi_u_eq, b1]; rfl
    have n216 : ∀ i : Int, g19 216 i = g18 216 i := fun i => by rw [e_33, zi_u_ne (by decide)]
    refine hQ _ I_34 F_35 ⟨by omega, fun e k e0 e1 k0 k1 => ?_, fun k k0 k1 => ?_⟩
    · rw [n216, b4 _ (by omega), d3 _ (by omega) (by omega), u10 _ _ (by decide), n3, c22, show 264 * (e + (6 + 1 - 6)) + k = 264 * e + k + 264 by omega]
    · rw [n216, n3, b3 _ (by omega) (by omega), show 264 * (6 - 1) + k - 264 * 5 = k by omega, d2, u10 _ _ (by decide)]

-- SpoutNewsModel.acts(III)V
theorem k_M_acts {l1 : Int} {l2 : Int} {l3 : Int} {g : zi_M} {Q : Int → zi_M → Prop} (I : zk_I g) (p1 : (-2147483648) ≤ l1 ∧ l1 ≤ 2147483647) (p2 : (-2147483648) ≤ l2 ∧ l2 ≤ 2147483647) (p3 : (-2147483648) ≤ l3 ∧ l3 ≤ 2147483647) (px0 : l1 = 0 → 0 ≤ l2 ∧ l2 ≤ 7 ∧ 0 ≤ l3 ∧ l3 ≤ 9) (px1 : l1 = 1 → 0 ≤ l2 ∧ l2 ≤ 7) (px2 : l1 = 2 → 0 ≤ l2 ∧ l2 ≤ 5 ∧ 0 ≤ l3 ∧ l3 ≤ 9) (px3 : 3 ≤ l1 ∧ l1 ≤ 5 → 0 ≤ l2 ∧ l2 ≤ 9) (px4 : l1 = 6 → 0 ≤ l2 ∧ l2 ≤ 7) (px5 : l1 = 7 → 0 ≤ l2 ∧ l2 ≤ 5) (hQ : ∀ g' : zi_M, zk_I g' → zk_fr fr_M_acts g g' → (g' 215 = zAc (g 215) l1 l2 l3) → Q 0 g') : w_M_acts l1 l2 l3 g Q := by
  have R : zi_r l1 := ⟨by omega, by omega⟩
  have b114 : ∀ x : zi_M, ¬ l1 = 7 → Q 0 x → w_M_acts_b114 l1 l2 x Q := fun x n q => by
    unfold w_M_acts_b114
    exact ⟨R, fun _ => q, fun e => absurd e n⟩
  have b84 : ∀ x : zi_M, ¬ l1 = 6 → (w_M_acts_b114 l1 l2 x Q) → w_M_acts_b84 l1 l2 l3 x Q := fun x n q => by
    unfold w_M_acts_b84
    exact ⟨R, fun _ => q, fun e => absurd e n⟩
  have b51 : ∀ x : zi_M, ¬ (3 ≤ l1 ∧ l1 ≤ 5) → w_M_acts_b84 l1 l2 l3 x Q → w_M_acts_b51 l1 l2 l3 x Q := fun x n q => by
    unfold w_M_acts_b51
    exact ⟨R, fun _ => q, fun c => ⟨fun _ => q, fun d => absurd ⟨c, d⟩ n⟩⟩
  have b33 : ∀ x : zi_M, ¬ l1 = 2 → w_M_acts_b51 l1 l2 l3 x Q → w_M_acts_b33 l1 l2 l3 x Q := fun x n q => by
    unfold w_M_acts_b33
    exact ⟨R, fun _ => q, fun e => absurd e n⟩
  have b17 : ∀ x : zi_M, ¬ l1 = 1 → w_M_acts_b33 l1 l2 l3 x Q → w_M_acts_b17 l1 l2 l3 x Q := fun x n q => by
    unfold w_M_acts_b17
    exact ⟨R, fun _ => q, fun e => absurd e n⟩
  have w : ∀ i : Int, (6 ≤ i ∧ i < 16) ∨ (236 ≤ i ∧ i < 264) → fr_M_acts 215 i := fun i h => by unfold fr_M_acts; omega
  unfold w_M_acts
  refine ⟨R, fun n0 => ?_, fun e0 => ⟨by omega, ?_⟩⟩
  · by_cases c1 : l1 = 1
    · unfold w_M_acts_b17
      refine ⟨R, fun n => absurd c1 n, fun _ => ⟨by omega, ?_⟩⟩
      intro y e
      refine b33 y (by omega) (b51 y (by omega) (b84 y (by omega) (b114 y (by omega) (hQ y ?_ ?_ ?_))))
      · rw [e]; exact zk_upd (zk_nl244 (i := 244 + l2) (by omega)).1 (zk_nl244 (i := 244 + l2) (by omega)).2 I ⟨by omega, by omega⟩
      · rw [e]; exact zk_fu (zk_f0 _) (w _ (by omega))
      · unfold zAc
        rw [if_neg n0, if_pos c1, e, zup_u]
    · refine b17 g c1 ?_
      by_cases c2 : l1 = 2
      · unfold w_M_acts_b33
        refine ⟨R, fun n => absurd c2 n, fun _ => ⟨by omega, ?_⟩⟩
        intro y e
        refine b51 y (by omega) (b84 y (by omega) (b114 y (by omega) (hQ y ?_ ?_ ?_)))
        · rw [e]; exact zk_upd (zk_nl252 (i := 252 + l2) (by omega)).1 (zk_nl252 (i := 252 + l2) (by omega)).2 I ⟨by omega, by omega⟩
        · rw [e]; exact zk_fu (zk_f0 _) (w _ (by omega))
        · unfold zAc
          rw [if_neg n0, if_neg c1, if_pos c2, e, zup_u]
      · refine b33 g c2 ?_
        by_cases c3 : 3 ≤ l1 ∧ l1 ≤ 5
        · unfold w_M_acts_b51
          refine ⟨R, fun n => by exfalso; omega, fun _ => ⟨fun n => by exfalso; omega, fun _ => ⟨fun n5 => ⟨by omega, ?_⟩, fun e5 => ⟨by omega, ?_⟩⟩⟩⟩
          · intro y e
            refine b84 y (by omega) (b114 y (by omega) (hQ y ?_ ?_ ?_))
            · rw [e]; exact zk_upd (zk_nl6 (i := 6 + l2) (by omega)).1 (zk_nl6 (i := 6 + l2) (by omega)).2 I ⟨by omega, by omega⟩
            · rw [e]; exact zk_fu (zk_f0 _) (w _ (by omega))
            · unfold zAc
              by_cases q : l1 = 3
              · rw [if_neg n0, if_neg c1, if_neg c2, if_pos q, e, zup_u, show l1 - 3 + 1 = 1 by omega]
              · rw [if_neg n0, if_neg c1, if_neg c2, if_neg q, if_pos (by omega), e, zup_u, show l1 - 3 + 1 = 2 by omega]
          · intro y e
            refine b84 y (by omega) (b114 y (by omega) (hQ y ?_ ?_ ?_))
            · rw [e]; exact zk_upd (zk_nl6 (i := 6 + l2) (by omega)).1 (zk_nl6 (i := 6 + l2) (by omega)).2 I ⟨by omega, by omega⟩
            · rw [e]; exact zk_fu (zk_f0 _) (w _ (by omega))
            · unfold zAc
              rw [if_neg n0, if_neg c1, if_neg c2, if_neg (by omega), if_neg (by omega), if_pos e5, e, zup_u]
        · refine b51 g c3 ?_
          by_cases c6 : l1 = 6
          · unfold w_M_acts_b84
            refine ⟨R, fun n => absurd c6 n, fun _ => ⟨by omega, ?_⟩⟩
            intro y e
            refine b114 y (by omega) (hQ y ?_ ?_ ?_)
            · have r := zi_r_or (g 215 (236 + l2)) (zi_shl 1 l3)
              rw [e]; exact zk_upd (zk_nl236 (i := 236 + l2) (by omega)).1 (zk_nl236 (i := 236 + l2) (by omega)).2 I ⟨by omega, by omega⟩
            · rw [e]; exact zk_fu (zk_f0 _) (w _ (by omega))
            · unfold zAc
              rw [if_neg n0, if_neg c1, if_neg c2, if_neg (by omega), if_neg (by omega), if_neg (by omega), if_pos c6, e, zup_u]
          · refine b84 g c6 ?_
            by_cases c7 : l1 = 7
            · unfold w_M_acts_b114
              refine ⟨R, fun n => absurd c7 n, fun _ => ⟨by omega, ?_⟩⟩
              intro y e
              refine hQ y ?_ ?_ ?_
              · rw [e]; exact zk_upd (zk_nl258 (i := 258 + l2) (by omega)).1 (zk_nl258 (i := 258 + l2) (by omega)).2 I ⟨by omega, by omega⟩
              · rw [e]; exact zk_fu (zk_f0 _) (w _ (by omega))
              · unfold zAc
                rw [if_neg n0, if_neg c1, if_neg c2, if_neg (by omega), if_neg (by omega), if_neg (by omega), if_neg c6, if_pos c7, e, zup_u]
            · refine b114 g c7 (hQ g I (zk_f0 _) ?_)
              unfold zAc
              rw [if_neg n0, if_neg c1, if_neg c2, if_neg (by omega), if_neg (by omega), if_neg (by omega), if_neg c6, if_neg c7]
  · intro y e
    refine b17 y (by omega) (b33 y (by omega) (b51 y (by omega) (b84 y (by omega) (b114 y (by omega) (hQ y ?_ ?_ ?_)))))
    · rw [e]; exact zk_upd (zk_nl244 (i := 244 + l2) (by omega)).1 (zk_nl244 (i := 244 + l2) (by omega)).2 I ⟨by omega, by omega⟩
    · rw [e]; exact zk_fu (zk_f0 _) (w _ (by omega))
    · unfold zAc
      rw [if_pos e0, e, zup_u]

-- SpoutNewsModel.act(III)Z
set_option maxRecDepth 100000 in
set_option maxHeartbeats 4000000 in
theorem k_M_act {l1 : Int} {l2 : Int} {l3 : Int} {g : zi_M} {Q : Int → zi_M → Prop} (I : zk_I g) (p1 : (-2147483648) ≤ l1 ∧ l1 ≤ 2147483647) (p2 : (-2147483648) ≤ l2 ∧ l2 ≤ 2147483647) (p3 : (-2147483648) ≤ l3 ∧ l3 ≤ 2147483647) (hQ : ∀ (v : Int) (g' : zi_M), zk_I g' → zk_fr fr_M_act g g' → (0 ≤ v ∧ v ≤ 1) → (zPa (g 214 6) (g 214 7) l1 l2 l3 → v = 1) → (¬ zPa (g 214 6) (g 214 7) l1 l2 l3 → v = 0) → (zPa (g 214 6) (g 214 7) l1 l2 l3 → zAm l1 l2 l3 g g') → (¬ zPa (g 214 6) (g 214 7) l1 l2 l3 → ∃ x : Int, g' = zi_u g 214 0 x) → Q v g') : w_M_act l1 l2 l3 g Q := by
  unfold w_M_act
  intro g1 e_1
  have I_2 : zk_I g1 := by rw [e_1]; exact zk_upd (L := (-2147483648)) (H := 2147483647) rfl rfl I ⟨by omega, by omega⟩
  have F_3 : zk_fr fr_M_act g g1 := by rw [e_1]; exact zk_fu (zk_f0 _) (Or.inr (Or.inl ⟨rfl, rfl⟩))
  have m_4 : 0 ≤ (g1 214 6) ∧ (g1 214 6) ≤ 10 := I_2.1 214 6
  have m_5 : g1 214 6 = g 214 6 := by rw [e_1]; exact zi_u_ni (by decide)
  have m_6 : 0 ≤ (g 214 6) ∧ (g 214 6) ≤ 10 := I.1 214 6
  have m_7 : 0 ≤ (g1 214 7) ∧ (g1 214 7) ≤ 8 := I_2.1 214 7
  have m_8 : g1 214 7 = g 214 7 := by rw [e_1]; exact zi_u_ni (by decide)
  have m_9 : 0 ≤ (g 214 7) ∧ (g 214 7) ≤ 8 := I.1 214 7
  refine k_M_canAct I_2 ⟨by omega, by omega⟩ ⟨by omega, by omega⟩ ⟨by omega, by omega⟩ (fun v2 b_10 b_11 b_12 b_13 b_14 b_15 b_16 b_17 b_18 => ?_)
  refine ⟨fun c11 => ?_, fun c11 => ?_⟩
  · refine k_M_keepsAhead I_2 (fun g6 I_20 F_21 b_19 => ?_)
    have F_22 : zk_fr fr_M_act g g6 := zk_ft F_3 F_21 (fun a i => (fun h => Or.elim h (fun h => (Or.inl h)) (fun h => (Or.inr (Or.inr (Or.inl h))))))
    refine k_M_acts I_20 ⟨by omega, by omega⟩ ⟨by omega, by omega⟩ ⟨by omega, by omega⟩ (by omega) (by omega) (by omega) (by omega) (by omega) (by omega) (fun g9 I_24 F_25 b_23 => ?_)
    have F_26 : zk_fr fr_M_act g g9 := zk_ft F_22 F_25 (fun a i => (fun h => Or.elim h (fun h => (Or.inr (Or.inr (Or.inr (Or.inl h))))) (fun h => Or.elim h (fun h => (Or.inr (Or.inr (Or.inr (Or.inr (Or.inl h)))))) (fun h => Or.elim h (fun h => (Or.inr (Or.inr (Or.inr (Or.inr (Or.inr (Or.inl h))))))) (fun h => Or.elim h (fun h => (Or.inr (Or.inr (Or.inr (Or.inr (Or.inr (Or.inr (Or.inl h)))))))) (fun h => (Or.inr (Or.inr (Or.inr (Or.inr (Or.inr (Or.inr (Or.inr h)))))))))))))
    exact hQ _ _ I_24 F_26 ⟨by omega, by omega⟩ (by intro hv; first | rfl | exact absurd (by assumption) hv | exact zP_1 (by assumption) (by omega) (by omega) (by omega) hv | exact zP_2 (by assumption) (by omega) (by omega) (by omega) hv) (by intro hv; first | rfl | exact absurd (by assumption) hv | exact zP_1 (by assumption) (by omega) (by omega) (by omega) hv | exact zP_2 (by assumption) (by omega) (by omega) (by omega) hv) (by first | exact fun hv => zAm_of I (by assumption) (by assumption) (by assumption) (by assumption) (by assumption) hv | exact fun hv => zP_1 (by assumption) (by omega) (by omega) (by omega) hv) (by first | exact fun _ => ⟨_, by assumption⟩ | exact fun hv => zP_2 (by assumption) (by omega) (by omega) (by omega) hv)
  · exact hQ _ _ I_2 F_3 ⟨by omega, by omega⟩ (by intro hv; first | rfl | exact absurd (by assumption) hv | exact zP_1 (by assumption) (by omega) (by omega) (by omega) hv | exact zP_2 (by assumption) (by omega) (by omega) (by omega) hv) (by intro hv; first | rfl | exact absurd (by assumption) hv | exact zP_1 (by assumption) (by omega) (by omega) (by omega) hv | exact zP_2 (by assumption) (by omega) (by omega) (by omega) hv) (by first | exact fun hv => zAm_of I (by assumption) (by assumption) (by assumption) (by assumption) (by assumption) hv | exact fun hv => zP_1 (by assumption) (by omega) (by omega) (by omega) hv) (by first | exact fun _ => ⟨_, by assumption⟩ | exact fun hv => zP_2 (by assumption) (by omega) (by omega) (by omega) hv)
-- SpoutNews$Texts.rainOn(I)I
set_option maxRecDepth 100000 in
set_option maxHeartbeats 4000000 in
theorem k_Texts_rainOn_l2 {g : zi_M} (I : zk_I g) {l1 : Int} {K20 : Int → zi_M → Prop} {K33 : zi_M → Prop} {Q : Int → zi_M → Prop} (q1 : (-2147483648) ≤ l1 ∧ l1 ≤ 2147483647) (hK20 : ∀ (k2 : Int), (0 ≤ k2 ∧ k2 ≤ 15) → (k2 < g 19 5) → (g 30 k2 = l1) → (∀ k : Int, 0 ≤ k → k < k2 → ¬ g 30 k = l1) → K20 k2 g) (hK33 : (∀ k : Int, 0 ≤ k → k < g 19 5 → ¬ g 30 k = l1) → K33 g) (hQ : ∀ v : Int, ((-1) ≤ v ∧ v ≤ 9) → (zWo (g 30) (g 31) (g 19 5) l1 v) → Q v g) : ∀ (n : Nat) {l2 : Int}, (0 ≤ l2 ∧ l2 ≤ 16) → (∀ k : Int, 0 ≤ k → k < l2 → ¬ g 30 k = l1) → 16 - l2 < (n : Int) → w_Texts_rainOn_l2 l1 K20 K33 Q n l2 g
  | 0, l2, b0, b1, hm => by exfalso; omega
  | n + 1, l2, b0, b1, hm => by
    unfold w_Texts_rainOn_l2
    have m_1 : 0 ≤ (g 19 5) ∧ (g 19 5) ≤ 16 := I.1 19 5
    refine ⟨⟨by omega, by omega⟩, ⟨by omega, by omega⟩, ?_⟩
    refine ⟨fun c7 => ?_, fun c7 => ?_⟩
    · exact hK33 (by exact fun k h0 h1 => b1 k h0 (by omega))
    · refine ⟨⟨by omega, by omega⟩, ?_⟩
      have m_2 : (-2147483648) ≤ (g 30 l2) ∧ (g 30 l2) ≤ 2147483647 := I.1 30 l2
      refine ⟨⟨by omega, by omega⟩, ⟨by omega, by omega⟩, ?_⟩
      refine ⟨fun c6 => ?_, fun c6 => ?_⟩
      · exact k_Texts_rainOn_l2 I q1 hK20 hK33 hQ n ⟨by omega, by omega⟩ (by first | (intro k h0 h1; exfalso; omega) | exact zal_n b1 (by omega)) (by omega)
      · exact hK20 _ ⟨by omega, by omega⟩ (by omega) (by omega) (by assumption)
set_option maxRecDepth 100000 in
set_option maxHeartbeats 4000000 in
theorem k_Texts_rainOn {l1 : Int} {g : zi_M} {Q : Int → zi_M → Prop} (I : zk_I g) (p1 : (-2147483648) ≤ l1 ∧ l1 ≤ 2147483647) (hQ : ∀ v : Int, ((-1) ≤ v ∧ v ≤ 9) → (zWo (g 30) (g 31) (g 19 5) l1 v) → Q v g) : w_Texts_rainOn l1 g Q := by
  unfold w_Texts_rainOn
  refine ⟨((16 - 0 : Int).toNat + 1), k_Texts_rainOn_l2 (l1 := l1) I ⟨by omega, by omega⟩ (fun k8 b_3 b_4 b_5 b_6 => ?_) (fun b_8 => ?_) hQ ((16 - 0 : Int).toNat + 1) ⟨by omega, by omega⟩ (by first | (intro k h0 h1; exfalso; omega) | exact zal_n b1 (by omega)) (by omega)⟩
  · refine ⟨⟨by omega, by omega⟩, ?_⟩
    have m_7 : 0 ≤ (g 31 k8) ∧ (g 31 k8) ≤ 9 := I.1 31 k8
    exact hQ _ ⟨by omega, by omega⟩ (by first | exact zWo_a (by omega) (by omega) (by assumption) (by assumption) | exact zWo_b (by assumption) | assumption)
  · exact hQ _ ⟨by omega, by omega⟩ (by first | exact zWo_a (by omega) (by omega) (by assumption) (by assumption) | exact zWo_b (by assumption) | assumption)
-- SpoutNews$World.speaks(I)Z
set_option maxRecDepth 100000 in
set_option maxHeartbeats 4000000 in
theorem k_World_speaks {r0 : Nat} (hr0 : zs_sh r0 = some (10, 20)) {l1 : Int} {g : zi_M} {Q : Int → zi_M → Prop} (I : zk_I g) (p1 : 0 ≤ l1 ∧ l1 ≤ 9) (hQ : ∀ v : Int, ((g (r0 + 4) l1) = 0 → v = 1) → (¬ (g (r0 + 4) l1) = 0 → ¬ (g (r0 + 4) l1) = 1 → v = 0) → (¬ (g (r0 + 4) l1) = 0 → (g (r0 + 4) l1) = 1 → (g r0 14) < 5 → v = 0) → (¬ (g (r0 + 4) l1) = 0 → (g (r0 + 4) l1) = 1 → 5 ≤ (g r0 14) → v = 1) → Q v g) : w_World_speaks r0 l1 g Q := by
  unfold w_World_speaks
  refine ⟨⟨by omega, by omega⟩, ?_⟩
  have m_1 := zk_a10_4 hr0 I l1
  refine ⟨⟨by omega, by omega⟩, ?_⟩
  refine ⟨fun c6 => ?_, fun c6 => ?_⟩
  · have m_2 := zk_c10_14 hr0 I
    exact hQ _ (by intros; omega) (by intros; omega) (by intros; omega) (by intros; omega)
  · refine ⟨fun c5 => ?_, fun c5 => ?_⟩
    · have m_3 := zk_c10_14 hr0 I
      exact hQ _ (by intros; omega) (by intros; omega) (by intros; omega) (by intros; omega)
    · have m_4 := zk_c10_14 hr0 I
      refine ⟨⟨by omega, by omega⟩, ?_⟩
      refine ⟨fun c4 => ?_, fun c4 => ?_⟩
      · exact hQ _ (by intros; omega) (by intros; omega) (by intros; omega) (by intros; omega)
      · exact hQ _ (by intros; omega) (by intros; omega) (by intros; omega) (by intros; omega)
-- SpoutNews$Law.gatherFacts(LSpoutNews$World;II)V
set_option maxRecDepth 100000 in
set_option maxHeartbeats 4000000 in
theorem k_Law_gatherFacts {r1 : Nat} (hr1 : zs_sh r1 = some (10, 20)) {l2 : Int} {l3 : Int} {g : zi_M} {Q : Int → zi_M → Prop} (I : zk_I g) (p2 : 0 ≤ l2 ∧ l2 ≤ 9) (p3 : 0 ≤ l3 ∧ l3 ≤ 15) (hQ : ∀ g' : zi_M, zk_I g' → zk_fr (fr_Law_gatherFacts r1) g g' → (∀ T n : Int, 0 ≤ n → n < 9 → g' 28 n = zfct (g (r1 + 1)) (g (r1 + 2)) (g (r1 + 3)) (zVC T r1 g) l2 l3 n) → Q 0 g') : w_Law_gatherFacts r1 l2 l3 g Q := by
  unfold w_Law_gatherFacts
  refine ⟨⟨by omega, by omega⟩, ?_⟩
  have m_4 := zk_a10_1 hr1 I l2
  intro g2 e_1
  have I_2 : zk_I g2 := by rw [e_1]; exact zk_upd (L := (-2147483648)) (H := 2147483647) rfl rfl I ⟨by omega, by omega⟩
  have F_3 : zk_fr (fr_Law_gatherFacts r1) g g2 := by rw [e_1]; exact zk_fu (zk_f0 _) rfl
  have m_8 := zk_a10_2 hr1 I_2 l2
  intro g3 e_5
  have I_6 : zk_I g3 := by rw [e_5]; exact zk_upd (L := (-2147483648)) (H := 2147483647) rfl rfl I_2 ⟨by omega, by omega⟩
  have F_7 : zk_fr (fr_Law_gatherFacts r1) g g3 := by rw [e_5]; exact zk_fu F_3 rfl
  have m_12 := zk_a10_3 hr1 I_6 l2
  intro g4 e_9
  have I_10 : zk_I g4 := by rw [e_9]; exact zk_upd (L := (-2147483648)) (H := 2147483647) rfl rfl I_6 ⟨by omega, by omega⟩
  have F_11 : zk_fr (fr_Law_gatherFacts r1) g g4 := by rw [e_9]; exact zk_fu F_7 rfl
  have m_16 := zk_a10_4 hr1 I_10 l2
  intro g5 e_13
  have I_14 : zk_I g5 := by rw [e_13]; exact zk_upd (L := (-2147483648)) (H := 2147483647) rfl rfl I_10 ⟨by omega, by omega⟩
  have F_15 : zk_fr (fr_Law_gatherFacts r1) g g5 := by rw [e_13]; exact zk_fu F_11 rfl
  have m_20 := zk_c10_14 hr1 I_14
  intro g6 e_17
  have I_18 : zk_I g6 := by rw [e_17]; exact zk_upd (L := (-2147483648)) (H := 2147483647) rfl rfl I_14 ⟨by omega, by omega⟩
  have F_19 : zk_fr (fr_Law_gatherFacts r1) g g6 := by rw [e_17]; exact zk_fu F_15 rfl
  have m_24 := zk_a10_6 hr1 I_18 l2
  intro g7 e_21
  have I_22 : zk_I g7 := by rw [e_21]; exact zk_upd (L := (-2147483648)) (H := 2147483647) rfl rfl I_18 ⟨by omega, by omega⟩
  have F_23 : zk_fr (fr_Law_gatherFacts r1) g g7 := by rw [e_21]; exact zk_fu F_19 rfl
  have m_28 := zk_a10_5 hr1 I_22 l2
  intro g8 e_25
  have I_26 : zk_I g8 := by rw [e_25]; exact zk_upd (L := (-2147483648)) (H := 2147483647) rfl rfl I_22 ⟨by omega, by omega⟩
  have F_27 : zk_fr (fr_Law_gatherFacts r1) g g8 := by rw [e_25]; exact zk_fu F_23 rfl
  intro g9 e_29
  have I_30 : zk_I g9 := by rw [e_29]; exact zk_upd (L := (-2147483648)) (H := 2147483647) rfl rfl I_26 ⟨by omega, by omega⟩
  have F_31 : zk_fr (fr_Law_gatherFacts r1) g g9 := by rw [e_29]; exact zk_fu F_27 rfl
  have m_35 := zk_c10_17 hr1 I_30
  intro g10 e_32
  have I_33 : zk_I g10 := by rw [e_32]; exact zk_upd (L := (-2147483648)) (H := 2147483647) rfl rfl I_30 ⟨by omega, by omega⟩
  have F_34 : zk_fr (fr_Law_gatherFacts r1) g g10 := by rw [e_32]; exact zk_fu F_31 rfl
  exact hQ _ I_33 F_34 (by exact zfc_of hr1 ⟨by omega, by omega⟩ (by assumption) (by assumption) (by assumption) (by assumption) (by assumption) (by assumption) (by assumption) (by assumption) (by assumption))
