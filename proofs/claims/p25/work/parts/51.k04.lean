-- by program (wip/gen/mkz.py)
-- SpoutNews$World.canDo(III)Z
set_option maxRecDepth 100000 in
set_option maxHeartbeats 4000000 in
theorem k_World_canDo {r0 : Nat} (hr0 : zs_sh r0 = some (10, 20)) {l1 : Int} {l2 : Int} {l3 : Int} {g : zi_M} {Q : Int → zi_M → Prop} (I : zk_I g) (p1 : (-2147483648) ≤ l1 ∧ l1 ≤ 2147483647) (p2 : (-2147483648) ≤ l2 ∧ l2 ≤ 2147483647) (p3 : (-2147483648) ≤ l3 ∧ l3 ≤ 2147483647) (hQ : ∀ v : Int, (0 ≤ v ∧ v ≤ 1) → (¬ v = 0 ∧ (l1 = 0) → 0 ≤ l2 ∧ l2 ≤ 7 ∧ 0 ≤ l3 ∧ l3 ≤ 9) → (¬ v = 0 ∧ (l1 = 1) → 0 ≤ l2 ∧ l2 ≤ 7) → (¬ v = 0 ∧ (l1 = 2) → 0 ≤ l2 ∧ l2 < 6 ∧ 0 ≤ l3 ∧ l3 ≤ 9) → (¬ v = 0 ∧ (3 ≤ l1 ∧ l1 ≤ 5) → 0 ≤ l2 ∧ l2 ≤ 9) → (¬ v = 0 ∧ (l1 = 6) → 0 ≤ l2 ∧ l2 ≤ 7 ∧ 0 ≤ l3 ∧ l3 < 16) → (¬ v = 0 ∧ (l1 < 0 ∨ 6 < l1) → 0 ≤ l2 ∧ l2 < 6) → (zPa (g r0 8) (g r0 11) l1 l2 l3 → ¬ v = 0) → (¬ zPa (g r0 8) (g r0 11) l1 l2 l3 → v = 0) → Q v g) : w_World_canDo r0 l1 l2 l3 g Q := by
  unfold w_World_canDo
  refine ⟨⟨by omega, by omega⟩, ?_⟩
  refine ⟨fun c15 => ?_, fun c15 => ?_⟩
  · exact hQ _ ⟨by omega, by omega⟩ (by omega) (by omega) (by omega) (by omega) (by omega) (by omega) (by intro hv; first | decide | exact absurd hv (zPa_n1 (by assumption)) | exact absurd hv (zPa_n2 (by assumption) (by assumption)) | exact absurd hv (zPa_n3 (by assumption) (by assumption) (by assumption)) | exact absurd hv (zPa_n4 (by assumption) (by assumption) (by assumption))) (by intro hv; first | rfl | exact absurd (zPa_y1 (by assumption) (by assumption) (by assumption) (by assumption) (by assumption)) hv | exact absurd (zPa_y2 (by assumption) (by assumption) (by assumption) (by assumption) (by assumption) (by assumption)) hv)
  · have m_6 := zk_c10_11 hr0 I
    have m_7 := zk_c10_8 hr0 I
    refine k_World_countOfWho hr0 I ⟨by omega, by omega⟩ (fun v2 b_1 b_2 b_3 b_4 b_5 => ?_)
    try simp only [Nat.reduceAdd] at b_1 b_2 b_3 b_4 b_5
    refine ⟨⟨by omega, by omega⟩, ?_⟩
    refine ⟨fun c14 => ?_, fun c14 => ?_⟩
    · refine k_World_countOfWhat hr0 I ⟨by omega, by omega⟩ (fun v6 b_8 b_9 b_10 b_11 => ?_)
      try simp only [Nat.reduceAdd] at b_8 b_9 b_10 b_11
      refine ⟨⟨by omega, by omega⟩, ?_⟩
      refine ⟨fun c13 => ?_, fun c13 => ?_⟩
      · exact hQ _ ⟨by omega, by omega⟩ (by omega) (by omega) (by omega) (by omega) (by omega) (by omega) (by intro hv; first | decide | exact absurd hv (zPa_n1 (by assumption)) | exact absurd hv (zPa_n2 (by assumption) (by assumption)) | exact absurd hv (zPa_n3 (by assumption) (by assumption) (by assumption)) | exact absurd hv (zPa_n4 (by assumption) (by assumption) (by assumption))) (by intro hv; first | rfl | exact absurd (zPa_y1 (by assumption) (by assumption) (by assumption) (by assumption) (by assumption)) hv | exact absurd (zPa_y2 (by assumption) (by assumption) (by assumption) (by assumption) (by assumption) (by assumption)) hv)
      · refine ⟨⟨by omega, by omega⟩, ?_⟩
        refine ⟨fun c12 => ?_, fun c12 => ?_⟩
        · exact hQ _ ⟨by omega, by omega⟩ (by omega) (by omega) (by omega) (by omega) (by omega) (by omega) (by intro hv; first | decide | exact absurd hv (zPa_n1 (by assumption)) | exact absurd hv (zPa_n2 (by assumption) (by assumption)) | exact absurd hv (zPa_n3 (by assumption) (by assumption) (by assumption)) | exact absurd hv (zPa_n4 (by assumption) (by assumption) (by assumption))) (by intro hv; first | rfl | exact absurd (zPa_y1 (by assumption) (by assumption) (by assumption) (by assumption) (by assumption)) hv | exact absurd (zPa_y2 (by assumption) (by assumption) (by assumption) (by assumption) (by assumption) (by assumption)) hv)
        · refine ⟨fun c11 => ?_, fun c11 => ?_⟩
          · exact hQ _ ⟨by omega, by omega⟩ (by omega) (by omega) (by omega) (by omega) (by omega) (by omega) (by intro hv; first | decide | exact absurd hv (zPa_n1 (by assumption)) | exact absurd hv (zPa_n2 (by assumption) (by assumption)) | exact absurd hv (zPa_n3 (by assumption) (by assumption) (by assumption)) | exact absurd hv (zPa_n4 (by assumption) (by assumption) (by assumption))) (by intro hv; first | rfl | exact absurd (zPa_y1 (by assumption) (by assumption) (by assumption) (by assumption) (by assumption)) hv | exact absurd (zPa_y2 (by assumption) (by assumption) (by assumption) (by assumption) (by assumption) (by assumption)) hv)
          · exact hQ _ ⟨by omega, by omega⟩ (by omega) (by omega) (by omega) (by omega) (by omega) (by omega) (by intro hv; first | decide | exact absurd hv (zPa_n1 (by assumption)) | exact absurd hv (zPa_n2 (by assumption) (by assumption)) | exact absurd hv (zPa_n3 (by assumption) (by assumption) (by assumption)) | exact absurd hv (zPa_n4 (by assumption) (by assumption) (by assumption))) (by intro hv; first | rfl | exact absurd (zPa_y1 (by assumption) (by assumption) (by assumption) (by assumption) (by assumption)) hv | exact absurd (zPa_y2 (by assumption) (by assumption) (by assumption) (by assumption) (by assumption) (by assumption)) hv)
    · exact hQ _ ⟨by omega, by omega⟩ (by omega) (by omega) (by omega) (by omega) (by omega) (by omega) (by intro hv; first | decide | exact absurd hv (zPa_n1 (by assumption)) | exact absurd hv (zPa_n2 (by assumption) (by assumption)) | exact absurd hv (zPa_n3 (by assumption) (by assumption) (by assumption)) | exact absurd hv (zPa_n4 (by assumption) (by assumption) (by assumption))) (by intro hv; first | rfl | exact absurd (zPa_y1 (by assumption) (by assumption) (by assumption) (by assumption) (by assumption)) hv | exact absurd (zPa_y2 (by assumption) (by assumption) (by assumption) (by assumption) (by assumption) (by assumption)) hv)
-- SpoutNews$World.copyFrom(LSpoutNews$World;)V
set_option maxRecDepth 100000 in
set_option maxHeartbeats 4000000 in
theorem k_World_copyFrom {r0 : Nat} (hr0 : zs_sh r0 = some (10, 20)) {r1 : Nat} (hr1 : zs_sh r1 = some (10, 20)) {g : zi_M} {Q : Int → zi_M → Prop} (I : zk_I g) (hQ : ∀ g' : zi_M, zk_I g' → zk_fr (fr_World_copyFrom r0 r1) g g' → (zWc r0 r1 g g') → Q 0 g') : w_World_copyFrom r0 r1 g Q := by
  unfold w_World_copyFrom
  intro g2 e_1
  have I_2 : zk_I g2 := by rw [e_1]; exact zk_cp (L := 0) (H := 5) (fun i => zk_la10_1 hr1 (i := i)) (fun i => zk_la10_1 hr0 (i := i)) I (zj_a10_1 hr0)
  have F_3 : zk_fr (fr_World_copyFrom r0 r1) g g2 := by rw [e_1]; exact zk_fc (zk_f0 _) (fun i => (Or.inl rfl))
  intro g4 e_4
  have I_5 : zk_I g4 := by rw [e_4]; exact zk_cp (L := 0) (H := 3) (fun i => zk_la10_2 hr1 (i := i)) (fun i => zk_la10_2 hr0 (i := i)) I_2 (zj_a10_2 hr0)
  have F_6 : zk_fr (fr_World_copyFrom r0 r1) g g4 := by rw [e_4]; exact zk_fc F_3 (fun i => (Or.inr (Or.inr (Or.inr (Or.inl rfl)))))
  intro g6 e_7
  have I_8 : zk_I g6 := by rw [e_7]; exact zk_cp (L := 0) (H := 99) (fun i => zk_la10_3 hr1 (i := i)) (fun i => zk_la10_3 hr0 (i := i)) I_5 (zj_a10_3 hr0)
  have F_9 : zk_fr (fr_World_copyFrom r0 r1) g g6 := by rw [e_7]; exact zk_fc F_6 (fun i => (Or.inr (Or.inr (Or.inr (Or.inr (Or.inl rfl))))))
  intro g8 e_10
  have I_11 : zk_I g8 := by rw [e_10]; exact zk_cp (L := 0) (H := 2) (fun i => zk_la10_4 hr1 (i := i)) (fun i => zk_la10_4 hr0 (i := i)) I_8 (zj_a10_4 hr0)
  have F_12 : zk_fr (fr_World_copyFrom r0 r1) g g8 := by rw [e_10]; exact zk_fc F_9 (fun i => (Or.inr (Or.inr (Or.inr (Or.inr (Or.inr (Or.inl rfl)))))))
  intro g10 e_13
  have I_14 : zk_I g10 := by rw [e_13]; exact zk_cp (L := 0) (H := 999) (fun i => zk_la10_5 hr1 (i := i)) (fun i => zk_la10_5 hr0 (i := i)) I_11 (zj_a10_5 hr0)
  have F_15 : zk_fr (fr_World_copyFrom r0 r1) g g10 := by rw [e_13]; exact zk_fc F_12 (fun i => (Or.inr (Or.inr (Or.inr (Or.inr (Or.inr (Or.inr (Or.inl rfl))))))))
  intro g12 e_16
  have I_17 : zk_I g12 := by rw [e_16]; exact zk_cp (L := 0) (H := 20) (fun i => zk_la10_6 hr1 (i := i)) (fun i => zk_la10_6 hr0 (i := i)) I_14 (zj_a10_6 hr0)
  have F_18 : zk_fr (fr_World_copyFrom r0 r1) g g12 := by rw [e_16]; exact zk_fc F_15 (fun i => (Or.inr (Or.inr (Or.inr (Or.inr (Or.inr (Or.inr (Or.inr (Or.inl rfl)))))))))
  intro g14 e_19
  have I_20 : zk_I g14 := by rw [e_19]; exact zk_cp (L := 0) (H := 15) (fun i => zk_la10_7 hr1 (i := i)) (fun i => zk_la10_7 hr0 (i := i)) I_17 (zj_a10_7 hr0)
  have F_21 : zk_fr (fr_World_copyFrom r0 r1) g g14 := by rw [e_19]; exact zk_fc F_18 (fun i => (Or.inr (Or.inr (Or.inr (Or.inr (Or.inr (Or.inr (Or.inr (Or.inr (Or.inl rfl))))))))))
  have m_25 := zk_c10_8 hr1 I_20
  intro g15 e_22
  have I_23 : zk_I g15 := by rw [e_22]; exact zk_upd (zk_lc10_8 hr0).1 (zk_lc10_8 hr0).2 I_20 ⟨by omega, by omega⟩ (zj_w10 hr0)
  have F_24 : zk_fr (fr_World_copyFrom r0 r1) g g15 := by rw [e_22]; exact zk_fu F_21 (Or.inr (Or.inr (Or.inr (Or.inr (Or.inr (Or.inr (Or.inr (Or.inr (Or.inr (Or.inr (Or.inr (Or.inr (Or.inr (Or.inr (Or.inr (Or.inr (Or.inr (Or.inr ⟨rfl, rfl⟩))))))))))))))))))
  intro g17 e_26
  have I_27 : zk_I g17 := by rw [e_26]; exact zk_cp (L := (-2147483648)) (H := 2147483647) (fun i => zk_la10_8 hr1 (i := i)) (fun i => zk_la10_8 hr0 (i := i)) I_23 (zj_a10_8 hr0)
  have F_28 : zk_fr (fr_World_copyFrom r0 r1) g g17 := by rw [e_26]; exact zk_fc F_24 (fun i => (Or.inr (Or.inr (Or.inr (Or.inr (Or.inr (Or.inr (Or.inr (Or.inr (Or.inr (Or.inl rfl)))))))))))
  intro g19 e_29
  have I_30 : zk_I g19 := by rw [e_29]; exact zk_cp (L := (-1)) (H := 9) (fun i => zk_la10_9 hr1 (i := i)) (fun i => zk_la10_9 hr0 (i := i)) I_27 (zj_a10_9 hr0)
  have F_31 : zk_fr (fr_World_copyFrom r0 r1) g g19 := by rw [e_29]; exact zk_fc F_28 (fun i => (Or.inr (Or.inr (Or.inr (Or.inr (Or.inr (Or.inr (Or.inr (Or.inr (Or.inr (Or.inr (Or.inl rfl))))))))))))
  have m_35 := zk_c10_11 hr1 I_30
  intro g20 e_32
  have I_33 : zk_I g20 := by rw [e_32]; exact zk_upd (zk_lc10_11 hr0).1 (zk_lc10_11 hr0).2 I_30 ⟨by omega, by omega⟩ (zj_w10 hr0)
  have F_34 : zk_fr (fr_World_copyFrom r0 r1) g g20 := by rw [e_32]; exact zk_fu F_31 (Or.inr (Or.inr (Or.inr (Or.inr (Or.inr (Or.inr (Or.inr (Or.inr (Or.inr (Or.inr (Or.inr (Or.inl ⟨rfl, rfl⟩))))))))))))
  intro g22 e_36
  have I_37 : zk_I g22 := by rw [e_36]; exact zk_cp (L := (-1)) (H := 9) (fun i => zk_la10_10 hr1 (i := i)) (fun i => zk_la10_10 hr0 (i := i)) I_33 (zj_a10_10 hr0)
  have F_38 : zk_fr (fr_World_copyFrom r0 r1) g g22 := by rw [e_36]; exact zk_fc F_34 (fun i => (Or.inr (Or.inl rfl)))
  intro g24 e_39
  have I_40 : zk_I g24 := by rw [e_39]; exact zk_cp (L := (-2147483648)) (H := 2147483647) (fun i => zk_la10_11 hr1 (i := i)) (fun i => zk_la10_11 hr0 (i := i)) I_37 (zj_a10_11 hr0)
  have F_41 : zk_fr (fr_World_copyFrom r0 r1) g g24 := by rw [e_39]; exact zk_fc F_38 (fun i => (Or.inr (Or.inr (Or.inl rfl))))
  have m_45 := zk_c10_14 hr1 I_40
  intro g25 e_42
  have I_43 : zk_I g25 := by rw [e_42]; exact zk_upd (zk_lc10_14 hr0).1 (zk_lc10_14 hr0).2 I_40 ⟨by omega, by omega⟩ (zj_w10 hr0)
  have F_44 : zk_fr (fr_World_copyFrom r0 r1) g g25 := by rw [e_42]; exact zk_fu F_41 (Or.inr (Or.inr (Or.inr (Or.inr (Or.inr (Or.inr (Or.inr (Or.inr (Or.inr (Or.inr (Or.inr (Or.inr (Or.inl ⟨rfl, rfl⟩)))))))))))))
  have m_49 := zk_c10_15 hr1 I_43
  intro g26 e_46
  have I_47 : zk_I g26 := by rw [e_46]; exact zk_upd (zk_lc10_15 hr0).1 (zk_lc10_15 hr0).2 I_43 ⟨by omega, by omega⟩ (zj_w10 hr0)
  have F_48 : zk_fr (fr_World_copyFrom r0 r1) g g26 := by rw [e_46]; exact zk_fu F_44 (Or.inr (Or.inr (Or.inr (Or.inr (Or.inr (Or.inr (Or.inr (Or.inr (Or.inr (Or.inr (Or.inr (Or.inr (Or.inr (Or.inl ⟨rfl, rfl⟩))))))))))))))
  have m_53 := zk_c10_16 hr1 I_47
  intro g27 e_50
  have I_51 : zk_I g27 := by rw [e_50]; exact zk_upd (zk_lc10_16 hr0).1 (zk_lc10_16 hr0).2 I_47 ⟨by omega, by omega⟩ (zj_w10 hr0)
  have F_52 : zk_fr (fr_World_copyFrom r0 r1) g g27 := by rw [e_50]; exact zk_fu F_48 (Or.inr (Or.inr (Or.inr (Or.inr (Or.inr (Or.inr (Or.inr (Or.inr (Or.inr (Or.inr (Or.inr (Or.inr (Or.inr (Or.inr (Or.inl ⟨rfl, rfl⟩)))))))))))))))
  have m_57 := zk_c10_17 hr1 I_51
  intro g28 e_54
  have I_55 : zk_I g28 := by rw [e_54]; exact zk_upd (zk_lc10_17 hr0).1 (zk_lc10_17 hr0).2 I_51 ⟨by omega, by omega⟩ (zj_w10 hr0)
  have F_56 : zk_fr (fr_World_copyFrom r0 r1) g g28 := by rw [e_54]; exact zk_fu F_52 (Or.inr (Or.inr (Or.inr (Or.inr (Or.inr (Or.inr (Or.inr (Or.inr (Or.inr (Or.inr (Or.inr (Or.inr (Or.inr (Or.inr (Or.inr (Or.inl ⟨rfl, rfl⟩))))))))))))))))
  have m_61 := zk_c10_18 hr1 I_55
  intro g29 e_58
  have I_59 : zk_I g29 := by rw [e_58]; exact zk_upd (zk_lc10_18 hr0).1 (zk_lc10_18 hr0).2 I_55 ⟨by omega, by omega⟩ (zj_w10 hr0)
  have F_60 : zk_fr (fr_World_copyFrom r0 r1) g g29 := by rw [e_58]; exact zk_fu F_56 (Or.inr (Or.inr (Or.inr (Or.inr (Or.inr (Or.inr (Or.inr (Or.inr (Or.inr (Or.inr (Or.inr (Or.inr (Or.inr (Or.inr (Or.inr (Or.inr (Or.inl ⟨rfl, rfl⟩)))))))))))))))))
  have m_65 := zk_c10_19 hr1 I_59
  intro g30 e_62
  have I_63 : zk_I g30 := by rw [e_62]; exact zk_upd (zk_lc10_19 hr0).1 (zk_lc10_19 hr0).2 I_59 ⟨by omega, by omega⟩ (zj_w10 hr0)
  have F_64 : zk_fr (fr_World_copyFrom r0 r1) g g30 := by rw [e_62]; exact zk_fu F_60 (Or.inr (Or.inr (Or.inr (Or.inr (Or.inr (Or.inr (Or.inr (Or.inr (Or.inr (Or.inr (Or.inr (Or.inr (Or.inr (Or.inr (Or.inr (Or.inr (Or.inr (Or.inl ⟨rfl, rfl⟩))))))))))))))))))
  exact hQ _ I_63 F_64 (by exact zWc_all hr0 hr1 (by assumption) (by assumption) (by assumption) (by assumption) (by assumption) (by assumption) (by assumption) (by assumption) (by assumption) (by assumption) (by assumption) (by assumption) (by assumption) (by assumption) (by assumption) (by assumption) (by assumption) (by assumption) (by assumption))
-- SpoutNews$Past.keep(LSpoutNews$World;)V
theorem zP_keep {g g3 g6 g8 : zi_M} (I : zk_I g) (F : zk_fr (fr_World_copyFrom (93 + 12 * (g 91 2).toNat) 2) g g3) (W : zWc (93 + 12 * (g 91 2).toNat) 2 g g3) (e1 : g6 = zi_u g3 91 2 (Int.tmod ((g3 91 2) + 1) 6)) (e2 : g8 = zi_u g6 91 1 (min ((g6 91 1) + 1) 6)) (h : zP g) : zP g8 := by
  have b : (0 : Int) ≤ g 91 2 ∧ g 91 2 ≤ 5 := I.1 91 2
  have c : (0 : Int) ≤ g 91 1 ∧ g 91 1 ≤ 6 := I.1 91 1
  have f : ∀ (a : Nat) (i : Int), (a < 93 + 12 * (g 91 2).toNat ∨ 93 + 12 * (g 91 2).toNat + 11 < a) → g3 a i = g a i := fun a i q => F a i (fun w => by unfold fr_World_copyFrom at w; omega)
  have u : ∀ (a : Nat) (i : Int), a ≠ 91 → g8 a i = g3 a i := fun a i q => by rw [e2, zi_u_ne q, e1, zi_u_ne q]
  have n2 : g8 91 2 = (g 91 2 + 1) % 6 := by
    rw [e2, zi_u_ni (by decide), e1, zi_u_eq, f 91 2 (Or.inl (by omega)), Int.tmod_eq_emod_of_nonneg (by omega)]
  have n1 : g8 91 1 = min (g 91 1 + 1) 6 := by
    rw [e2, zi_u_eq, e1, zi_u_ni (by decide), f 91 1 (Or.inl (by omega))]
  intro i i0 i6 hl
  rw [n1, n2] at hl
  by_cases q : i = g 91 2
  · obtain ⟨⟨a1, a2, -⟩, b1, b2, b3, -⟩ := W
    subst q
    refine ⟨⟨?_, ?_⟩, fun k k0 k1 => ?_, fun k k0 k1 => ?_, fun k k0 k1 => ?_⟩
    · rw [u _ _ (by omega), u _ _ (by omega), a1, f 2 8 (Or.inl (by omega))]
    · rw [u _ _ (by omega), u _ _ (by omega), a2, f 2 11 (Or.inl (by omega))]
    · rw [u _ _ (by omega), u _ _ (by omega), b1 k k0 k1, f 3 k (Or.inl (by omega))]
    · rw [u _ _ (by omega), u _ _ (by omega), b2 k k0 k1, f 4 k (Or.inl (by omega))]
    · rw [u _ _ (by omega), u _ _ (by omega), b3 k k0 k1, f 5 k (Or.inl (by omega))]
  · have old := h i i0 i6 (by omega)
    obtain ⟨⟨a1, a2⟩, b1, b2, b3⟩ := old
    have t : i.toNat ≠ (g 91 2).toNat := by omega
    refine ⟨⟨?_, ?_⟩, fun k k0 k1 => ?_, fun k k0 k1 => ?_, fun k k0 k1 => ?_⟩
    · rw [u _ _ (by omega), u _ _ (by omega), f _ _ (by omega), f 2 8 (Or.inl (by omega)), a1]
    · rw [u _ _ (by omega), u _ _ (by omega), f _ _ (by omega), f 2 11 (Or.inl (by omega)), a2]
    · rw [u _ _ (by omega), u _ _ (by omega), f _ _ (by omega), f 3 k (Or.inl (by omega)), b1 k k0 k1]
    · rw [u _ _ (by omega), u _ _ (by omega), f _ _ (by omega), f 4 k (Or.inl (by omega)), b2 k k0 k1]
    · rw [u _ _ (by omega), u _ _ (by omega), f _ _ (by omega), f 5 k (Or.inl (by omega)), b3 k k0 k1]

set_option maxRecDepth 100000 in
set_option maxHeartbeats 4000000 in
theorem k_Past_keep {g : zi_M} {Q : Int → zi_M → Prop} (I : zk_I g) (hQ : ∀ g' : zi_M, zk_I g' → zk_fr fr_Past_keep g g' → (zP g → zP g') → (zKe g g') → (zKq g g') → Q 0 g') : w_Past_keep g Q := by
  unfold w_Past_keep
  have m_1 : 0 ≤ (g 91 2) ∧ (g 91 2) ≤ 5 := I.1 91 2
  refine ⟨⟨by omega, by omega⟩, ?_⟩
  refine k_World_copyFrom (zs_ring ⟨by omega, by omega⟩).2 rfl I (fun g3 I_3 F_4 b_2 => ?_)
  have F_5 : zk_fr fr_Past_keep g g3 := zk_ft (zk_f0 _) F_4 (fun a i => (fun h => Or.elim h (fun h => (Or.inr (Or.inr ⟨by omega, by omega⟩))) (fun h => Or.elim h (fun h => (Or.inr (Or.inr ⟨by omega, by omega⟩))) (fun h => Or.elim h (fun h => (Or.inr (Or.inr ⟨by omega, by omega⟩))) (fun h => Or.elim h (fun h => (Or.inr (Or.inr ⟨by omega, by omega⟩))) (fun h => Or.elim h (fun h => (Or.inr (Or.inr ⟨by omega, by omega⟩))) (fun h => Or.elim h (fun h => (Or.inr (Or.inr ⟨by omega, by omega⟩))) (fun h => Or.elim h (fun h => (Or.inr (Or.inr ⟨by omega, by omega⟩))) (fun h => Or.elim h (fun h => (Or.inr (Or.inr ⟨by omega, by omega⟩))) (fun h => Or.elim h (fun h => (Or.inr (Or.inr ⟨by omega, by omega⟩))) (fun h => Or.elim h (fun h => (Or.inr (Or.inr ⟨by omega, by omega⟩))) (fun h => Or.elim h (fun h => (Or.inr (Or.inr ⟨by omega, by omega⟩))) (fun h => Or.elim h (fun h => (Or.inr (Or.inr ⟨by omega, by omega⟩))) (fun h => Or.elim h (fun h => (Or.inr (Or.inr ⟨by omega, by omega⟩))) (fun h => Or.elim h (fun h => (Or.inr (Or.inr ⟨by omega, by omega⟩))) (fun h => Or.elim h (fun h => (Or.inr (Or.inr ⟨by omega, by omega⟩))) (fun h => Or.elim h (fun h => (Or.inr (Or.inr ⟨by omega, by omega⟩))) (fun h => Or.elim h (fun h => (Or.inr (Or.inr ⟨by omega, by omega⟩))) (fun h => Or.elim h (fun h => (Or.inr (Or.inr ⟨by omega, by omega⟩))) (fun h => (Or.inr (Or.inr ⟨by omega, by omega⟩))))))))))))))))))))))
  have m_6 : 0 ≤ (g3 91 2) ∧ (g3 91 2) ≤ 5 := I_3.1 91 2
  have m_7 : g3 91 2 = g 91 2 := F_4 _ _ (by unfold fr_World_copyFrom; omega)
  refine ⟨⟨by omega, by omega⟩, ?_⟩
  have m_11 := zi_tmod_f ((g3 91 2) + 1) 6
  have m_12 := zi_tmod_c ((g3 91 2) + 1) 6 (by decide)
  intro g6 e_8
  have I_9 : zk_I g6 := by rw [e_8]; exact zk_upd (L := 0) (H := 5) rfl rfl I_3 ⟨by omega, by omega⟩
  have F_10 : zk_fr fr_Past_keep g g6 := by rw [e_8]; exact zk_fu F_5 (Or.inr (Or.inl ⟨rfl, rfl⟩))
  have m_13 : 0 ≤ (g6 91 1) ∧ (g6 91 1) ≤ 6 := I_9.1 91 1
  have m_14 : g6 91 1 = g3 91 1 := by rw [e_8]; exact zi_u_ni (by decide)
  have m_15 : 0 ≤ (g3 91 1) ∧ (g3 91 1) ≤ 6 := I_3.1 91 1
  have m_16 : g3 91 1 = g 91 1 := F_4 _ _ (by unfold fr_World_copyFrom; omega)
  have m_17 : 0 ≤ (g 91 1) ∧ (g 91 1) ≤ 6 := I.1 91 1
  refine ⟨⟨by omega, by omega⟩, ?_⟩
  intro g8 e_18
  have I_19 : zk_I g8 := by rw [e_18]; exact zk_upd (L := 0) (H := 6) rfl rfl I_9 ⟨by omega, by omega⟩
  have F_20 : zk_fr fr_Past_keep g g8 := by rw [e_18]; exact zk_fu F_10 (Or.inl ⟨rfl, rfl⟩)
  exact hQ _ I_19 F_20 (by intro hz; exact zP_keep I (by assumption) (by assumption) (by assumption) (by assumption) hz) (by exact zKe_of I (by assumption) (by assumption) (by assumption) (by assumption)) (by exact zKq_of I (by assumption) (by assumption) (by assumption) (by assumption))
-- SpoutNews$World.carryOut(III)V
theorem k_World_carryOut {r0 : Nat} (hr0 : zs_sh r0 = some (10, 20)) {l1 : Int} {l2 : Int} {l3 : Int} {g : zi_M} {Q : Int → zi_M → Prop} (I : zk_I g) (p1 : (-2147483648) ≤ l1 ∧ l1 ≤ 2147483647) (p2 : (-2147483648) ≤ l2 ∧ l2 ≤ 2147483647) (p3 : (-2147483648) ≤ l3 ∧ l3 ≤ 2147483647) (hQ : ∀ g' : zi_M, zk_I g' → zk_fr (fr_World_carryOut r0) g g' → (zPa (g r0 8) (g r0 11) l1 l2 l3 → zCo r0 g g' l1 l2 l3) → (¬ zPa (g r0 8) (g r0 11) l1 l2 l3 → g' = g) → Q 0 g') : w_World_carryOut r0 l1 l2 l3 g Q := by
  unfold w_World_carryOut
  have w : ∀ (a : Nat) (i : Int), (a = r0 + 4 ∨ (r0 + 8 ≤ a ∧ a ≤ r0 + 11)) → fr_World_carryOut r0 a i := fun a i h => by unfold fr_World_carryOut; omega
  refine k_World_canDo hr0 I ⟨by omega, by omega⟩ ⟨by omega, by omega⟩ ⟨by omega, by omega⟩ (fun v1 b1 b2 b3 b4 b5 b6 b7 b8 b9 => ⟨fun ne => ⟨⟨by omega, by omega⟩, fun c => ⟨by omega, ?_⟩, fun c => ⟨by omega, ?_⟩, fun c => ⟨by omega, ?_⟩, fun c => ⟨by omega, ?_⟩, fun c => ⟨by omega, ?_⟩, fun c => ⟨by omega, ?_⟩, fun c => ⟨by omega, ?_⟩, fun c => ⟨by omega, ?_⟩⟩, fun e => ?_⟩)
  · intro y e
    refine hQ y (by rw [e]; exact zk_upd (zk_la10_11 hr0).1 (zk_la10_11 hr0).2 I ⟨by omega, by omega⟩ (zj_a10_11 hr0)) (by rw [e]; exact zk_fu (zk_f0 _) (w _ _ (by omega))) (fun _ => ⟨?_, ?_, ?_, ?_, ?_⟩) (fun n => absurd (b9 n) ne)
    · rw [if_neg (by omega), if_neg (by omega), if_neg (by omega)]; exact zCo_r e 4 (by decide)
    · rw [if_neg (by omega)]; exact zCo_r e 8 (by decide)
    · rw [if_neg (by omega), if_neg (by omega)]; exact zCo_r e 9 (by decide)
    · rw [if_neg (by omega)]; exact zCo_r e 10 (by decide)
    · rw [if_pos c, e, zup_u]
  · intro y e
    refine hQ y (by rw [e]; exact zk_upd (zk_la10_9 hr0).1 (zk_la10_9 hr0).2 I ⟨by omega, by omega⟩ (zj_a10_9 hr0)) (by rw [e]; exact zk_fu (zk_f0 _) (w _ _ (by omega))) (fun _ => ⟨?_, ?_, ?_, ?_, ?_⟩) (fun n => absurd (b9 n) ne)
    · rw [if_neg (by omega), if_neg (by omega), if_neg (by omega)]; exact zCo_r e 4 (by decide)
    · rw [if_neg (by omega)]; exact zCo_r e 8 (by decide)
    · rw [if_pos c, e, zup_u]
    · rw [if_neg (by omega)]; exact zCo_r e 10 (by decide)
    · rw [if_neg (by omega)]; exact zCo_r e 11 (by decide)
  · intro y e
    refine hQ y (by rw [e]; exact zk_upd (zk_la10_9 hr0).1 (zk_la10_9 hr0).2 I ⟨by omega, by omega⟩ (zj_a10_9 hr0)) (by rw [e]; exact zk_fu (zk_f0 _) (w _ _ (by omega))) (fun _ => ⟨?_, ?_, ?_, ?_, ?_⟩) (fun n => absurd (b9 n) ne)
    · rw [if_neg (by omega), if_neg (by omega), if_neg (by omega)]; exact zCo_r e 4 (by decide)
    · rw [if_neg (by omega)]; exact zCo_r e 8 (by decide)
    · rw [if_neg (by omega), if_pos c, e, zup_u]
    · rw [if_neg (by omega)]; exact zCo_r e 10 (by decide)
    · rw [if_neg (by omega)]; exact zCo_r e 11 (by decide)
  · intro y e
    refine hQ y (by rw [e]; exact zk_upd (zk_la10_10 hr0).1 (zk_la10_10 hr0).2 I ⟨by omega, by omega⟩ (zj_a10_10 hr0)) (by rw [e]; exact zk_fu (zk_f0 _) (w _ _ (by omega))) (fun _ => ⟨?_, ?_, ?_, ?_, ?_⟩) (fun n => absurd (b9 n) ne)
    · rw [if_neg (by omega), if_neg (by omega), if_neg (by omega)]; exact zCo_r e 4 (by decide)
    · rw [if_neg (by omega)]; exact zCo_r e 8 (by decide)
    · rw [if_neg (by omega), if_neg (by omega)]; exact zCo_r e 9 (by decide)
    · rw [if_pos c, e, zup_u]
    · rw [if_neg (by omega)]; exact zCo_r e 11 (by decide)
  · intro y e
    refine hQ y (by rw [e]; exact zk_upd (zk_la10_4 hr0).1 (zk_la10_4 hr0).2 I ⟨by omega, by omega⟩ (zj_a10_4 hr0)) (by rw [e]; exact zk_fu (zk_f0 _) (w _ _ (by omega))) (fun _ => ⟨?_, ?_, ?_, ?_, ?_⟩) (fun n => absurd (b9 n) ne)
    · rw [if_pos c, e, zup_u]
    · rw [if_neg (by omega)]; exact zCo_r e 8 (by decide)
    · rw [if_neg (by omega), if_neg (by omega)]; exact zCo_r e 9 (by decide)
    · rw [if_neg (by omega)]; exact zCo_r e 10 (by decide)
    · rw [if_neg (by omega)]; exact zCo_r e 11 (by decide)
  · intro y e
    refine hQ y (by rw [e]; exact zk_upd (zk_la10_4 hr0).1 (zk_la10_4 hr0).2 I ⟨by omega, by omega⟩ (zj_a10_4 hr0)) (by rw [e]; exact zk_fu (zk_f0 _) (w _ _ (by omega))) (fun _ => ⟨?_, ?_, ?_, ?_, ?_⟩) (fun n => absurd (b9 n) ne)
    · rw [if_neg (by omega), if_pos c, e, zup_u]
    · rw [if_neg (by omega)]; exact zCo_r e 8 (by decide)
    · rw [if_neg (by omega), if_neg (by omega)]; exact zCo_r e 9 (by decide)
    · rw [if_neg (by omega)]; exact zCo_r e 10 (by decide)
    · rw [if_neg (by omega)]; exact zCo_r e 11 (by decide)
  · intro y e
    refine hQ y (by rw [e]; exact zk_upd (zk_la10_4 hr0).1 (zk_la10_4 hr0).2 I ⟨by omega, by omega⟩ (zj_a10_4 hr0)) (by rw [e]; exact zk_fu (zk_f0 _) (w _ _ (by omega))) (fun _ => ⟨?_, ?_, ?_, ?_, ?_⟩) (fun n => absurd (b9 n) ne)
    · rw [if_neg (by omega), if_neg (by omega), if_pos c, e, zup_u]
    · rw [if_neg (by omega)]; exact zCo_r e 8 (by decide)
    · rw [if_neg (by omega), if_neg (by omega)]; exact zCo_r e 9 (by decide)
    · rw [if_neg (by omega)]; exact zCo_r e 10 (by decide)
    · rw [if_neg (by omega)]; exact zCo_r e 11 (by decide)
  · intro y e
    have r := zi_r_or (g (r0 + 8) l2) (zi_shl 1 l3)
    refine hQ y (by rw [e]; exact zk_upd (zk_la10_8 hr0).1 (zk_la10_8 hr0).2 I ⟨by omega, by omega⟩ (zj_a10_8 hr0)) (by rw [e]; exact zk_fu (zk_f0 _) (w _ _ (by omega))) (fun _ => ⟨?_, ?_, ?_, ?_, ?_⟩) (fun n => absurd (b9 n) ne)
    · rw [if_neg (by omega), if_neg (by omega), if_neg (by omega)]; exact zCo_r e 4 (by decide)
    · rw [if_pos c, e, zup_u]
    · rw [if_neg (by omega), if_neg (by omega)]; exact zCo_r e 9 (by decide)
    · rw [if_neg (by omega)]; exact zCo_r e 10 (by decide)
    · rw [if_neg (by omega)]; exact zCo_r e 11 (by decide)
  · exact hQ g I (zk_f0 _) (fun h => absurd e (b8 h)) (fun _ => rfl)

-- SpoutNews.act(III)Z
theorem zP_act {g g' : zi_M} (F : zk_fr (fr_World_carryOut 2) g g') (h : zP g) : zP g' := zP_eq (fun a i q => F a i (fun w => by unfold fr_World_carryOut at w; unfold zPc at q; omega)) h

set_option maxRecDepth 100000 in
set_option maxHeartbeats 4000000 in
theorem k_S_act {l1 : Int} {l2 : Int} {l3 : Int} {g : zi_M} {Q : Int → zi_M → Prop} (I : zk_I g) (p1 : (-2147483648) ≤ l1 ∧ l1 ≤ 2147483647) (p2 : (-2147483648) ≤ l2 ∧ l2 ≤ 2147483647) (p3 : (-2147483648) ≤ l3 ∧ l3 ≤ 2147483647) (hQ : ∀ (v : Int) (g' : zi_M), zk_I g' → zk_fr fr_S_act g g' → (0 ≤ v ∧ v ≤ 1) → (zPa (g 2 8) (g 2 11) l1 l2 l3 → v = 1) → (¬ zPa (g 2 8) (g 2 11) l1 l2 l3 → v = 0) → (zP g → zP g') → (zPa (g 2 8) (g 2 11) l1 l2 l3 → zAk l1 l2 l3 g g') → (¬ zPa (g 2 8) (g 2 11) l1 l2 l3 → g' = g) → Q v g') : w_S_act l1 l2 l3 g Q := by
  unfold w_S_act
  refine k_World_canDo rfl I ⟨by omega, by omega⟩ ⟨by omega, by omega⟩ ⟨by omega, by omega⟩ (fun v1 b_1 b_2 b_3 b_4 b_5 b_6 b_7 b_8 b_9 => ?_)
  refine ⟨fun c10 => ?_, fun c10 => ?_⟩
  · refine k_Past_keep I (fun g5 I_13 F_14 b_10 b_11 b_12 => ?_)
    have F_15 : zk_fr fr_S_act g g5 := zk_ft (zk_f0 _) F_14 (fun a i => (fun h => Or.elim h (fun h => (Or.inr (Or.inr (Or.inr (Or.inr (Or.inr (Or.inl h))))))) (fun h => Or.elim h (fun h => (Or.inr (Or.inr (Or.inr (Or.inr (Or.inr (Or.inr (Or.inl h)))))))) (fun h => (Or.inr (Or.inr (Or.inr (Or.inr (Or.inr (Or.inr (Or.inr h)))))))))))
    refine k_World_carryOut rfl I_13 ⟨by omega, by omega⟩ ⟨by omega, by omega⟩ ⟨by omega, by omega⟩ (fun g8 I_18 F_19 b_16 b_17 => ?_)
    have F_20 : zk_fr fr_S_act g g8 := zk_ft F_15 F_19 (fun a i => (fun h => Or.elim h (fun h => (Or.inr (Or.inr (Or.inl h)))) (fun h => Or.elim h (fun h => (Or.inr (Or.inr (Or.inr (Or.inl h))))) (fun h => Or.elim h (fun h => (Or.inr (Or.inr (Or.inr (Or.inr (Or.inl h)))))) (fun h => Or.elim h (fun h => (Or.inl h)) (fun h => (Or.inr (Or.inl h))))))))
    exact hQ _ _ I_18 F_20 ⟨by omega, by omega⟩ (by intro hv; first | rfl | exact absurd (by assumption) hv | exact zP_1 (by assumption) (by omega) (by omega) (by omega) hv | exact zP_2 (by assumption) (by omega) (by omega) (by omega) hv) (by intro hv; first | rfl | exact absurd (by assumption) hv | exact zP_1 (by assumption) (by omega) (by omega) (by omega) hv | exact zP_2 (by assumption) (by omega) (by omega) (by omega) hv) (by intro hz; repeat first | exact hz | refine zP_act (by assumption) ?_ | refine zP_mp (by assumption) ?_) (by first | exact fun hv => zAk_of I (by assumption) (by assumption) (by assumption) (by assumption) hv | exact fun hv => zP_1 (by assumption) (by omega) (by omega) (by omega) hv) (by first | exact fun _ => rfl | exact fun hv => zP_2 (by assumption) (by omega) (by omega) (by omega) hv)
  · exact hQ _ _ I (zk_f0 _) ⟨by omega, by omega⟩ (by intro hv; first | rfl | exact absurd (by assumption) hv | exact zP_1 (by assumption) (by omega) (by omega) (by omega) hv | exact zP_2 (by assumption) (by omega) (by omega) (by omega) hv) (by intro hv; first | rfl | exact absurd (by assumption) hv | exact zP_1 (by assumption) (by omega) (by omega) (by omega) hv | exact zP_2 (by assumption) (by omega) (by omega) (by omega) hv) (by intro hz; repeat first | exact hz | refine zP_act (by assumption) ?_ | refine zP_mp (by assumption) ?_) (by first | exact fun hv => zAk_of I (by assumption) (by assumption) (by assumption) (by assumption) hv | exact fun hv => zP_1 (by assumption) (by omega) (by omega) (by omega) hv) (by first | exact fun _ => rfl | exact fun hv => zP_2 (by assumption) (by omega) (by omega) (by omega) hv)
