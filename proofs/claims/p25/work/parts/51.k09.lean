-- by program (wip/gen/mkz.py)
-- SpoutNews$DayRun.passDry(LSpoutNews$World;LSpoutNews$Texts;LSpoutNews$Book;)V
set_option maxRecDepth 100000 in
set_option maxHeartbeats 4000000 in
theorem k_DayRun_passDry_l15 {r1 : Nat} (hr1 : zs_sh r1 = some (10, 20)) {l4 : Int} {K69 : zi_M → Prop} {Q : Int → zi_M → Prop} {g0 : zi_M} (q4 : 0 ≤ l4 ∧ l4 ≤ 9) (hK69 : ∀ (g : zi_M), zk_I g → zk_fr (fr_DayRun_passDry r1) g0 g → (l4 < g0 r1 8) → (zDB r1 g0 g l4) → K69 g) (hQ : ∀ g' : zi_M, zk_I g' → zk_fr (fr_DayRun_passDry r1) g0 g' → (zDF r1 g0 g') → Q 0 g') : ∀ (n : Nat) {l5 : Int} {g : zi_M}, zk_I g → zk_fr (fr_DayRun_passDry r1) g0 g → (0 ≤ l5 ∧ l5 ≤ 8) → (l5 ≤ g0 r1 11) → (l4 < g0 r1 8) → (zDI r1 g0 g l4 l5) → 8 - l5 < (n : Int) → w_DayRun_passDry_l15 r1 l4 K69 Q n l5 g
  | 0, l5, g, I, F, b0, b1, b2, b3, hm => by exfalso; omega
  | n + 1, l5, g, I, F, b0, b1, b2, b3, hm => by
    unfold w_DayRun_passDry_l15
    have m_2 := zk_c10_11 hr1 I
    refine ⟨⟨by omega, by omega⟩, ⟨by omega, by omega⟩, ?_⟩
    refine ⟨fun c14 => ?_, fun c14 => ?_⟩
    · exact hK69 _ I F (by assumption) (by first | exact zDI_x (by assumption) (zDfr_d hr1 F) (by assumption) (by assumption) | exact zDI_l (by assumption) (zDfr_d hr1 F) (by assumption) (by omega) (by assumption) (by assumption))
    · refine ⟨⟨by omega, by omega⟩, ?_⟩
      have m_3 := zk_a10_4 hr1 I l4
      refine ⟨⟨by omega, by omega⟩, ?_⟩
      refine ⟨fun c13 => ?_, fun c13 => ?_⟩
      · exact hK69 _ I F (by assumption) (by first | exact zDI_x (by assumption) (zDfr_d hr1 F) (by assumption) (by assumption) | exact zDI_l (by assumption) (zDfr_d hr1 F) (by assumption) (by omega) (by assumption) (by assumption))
      · refine ⟨⟨by omega, by omega⟩, ?_⟩
        have m_4 := zk_a10_9 hr1 I l5
        refine ⟨⟨by omega, by omega⟩, ?_⟩
        refine ⟨fun c12 => ?_, fun c12 => ?_⟩
        · exact k_DayRun_passDry_l15 hr1 q4 hK69 hQ n I F ⟨by omega, by omega⟩ (by have hz := zk_c10_11 hr1 I; have hf := (zDf_8 hr1 F).2; omega) (by first | assumption | (have hf := (zDf_8 hr1 F).1; omega)) (by first | exact zDI_0 (by assumption) | exact zDI_n hr1 (by assumption) (zDfr_d hr1 F) (by assumption) (by omega) (by assumption) (by omega) (by assumption) | exact zDI_y hr1 (by assumption) (zDfr_d hr1 F) (by assumption) (by assumption) (by omega) (by assumption) (by omega) (by assumption) (by assumption) (by assumption)) (by omega)
        · have m_5 := zk_a10_8 hr1 I l5
          refine k_DayRun_listen hr1 I ⟨by omega, by omega⟩ ⟨by omega, by omega⟩ (fun g10 I_7 F_8 b_6 => ?_)
          have F_9 : zk_fr (fr_DayRun_passDry r1) g0 g10 := zk_ft F F_8 (fun a i => (fun h => Or.elim h (fun h => (Or.inr (Or.inl h))) (fun h => Or.elim h (fun h => (Or.inr (Or.inr (Or.inl h)))) (fun h => Or.elim h (fun h => (Or.inr (Or.inr (Or.inr (Or.inl h))))) (fun h => Or.elim h (fun h => (Or.inr (Or.inr (Or.inr (Or.inr (Or.inl h)))))) (fun h => Or.elim h (fun h => (Or.inr (Or.inr (Or.inr (Or.inr (Or.inr (Or.inl h))))))) (fun h => Or.elim h (fun h => (Or.inr (Or.inr (Or.inr (Or.inr (Or.inr (Or.inr (Or.inl h)))))))) (fun h => Or.elim h (fun h => (Or.inr (Or.inr (Or.inr (Or.inr (Or.inr (Or.inr (Or.inr (Or.inl h))))))))) (fun h => Or.elim h (fun h => (Or.inr (Or.inr (Or.inr (Or.inr (Or.inr (Or.inr (Or.inr (Or.inr (Or.inl h)))))))))) (fun h => (Or.inr (Or.inr (Or.inr (Or.inr (Or.inr (Or.inr (Or.inr (Or.inr (Or.inr h)))))))))))))))))))
          exact k_DayRun_passDry_l15 hr1 q4 hK69 hQ n I_7 F_9 ⟨by omega, by omega⟩ (by have hz := zk_c10_11 hr1 I; have hf := (zDf_8 hr1 F).2; omega) (by first | assumption | (have hf := (zDf_8 hr1 F).1; omega)) (by first | exact zDI_0 (by assumption) | exact zDI_n hr1 (by assumption) (zDfr_d hr1 F) (by assumption) (by omega) (by assumption) (by omega) (by assumption) | exact zDI_y hr1 (by assumption) (zDfr_d hr1 F) (by assumption) (by assumption) (by omega) (by assumption) (by omega) (by assumption) (by assumption) (by assumption)) (by omega)
set_option maxRecDepth 100000 in
set_option maxHeartbeats 4000000 in
theorem k_DayRun_passDry_b69 {r1 : Nat} (hr1 : zs_sh r1 = some (10, 20)) {l4 : Int} {H : Int → zi_M → Prop} {K97 : zi_M → Prop} {Q : Int → zi_M → Prop} {g : zi_M} {g0 : zi_M} (I : zk_I g) (F : zk_fr (fr_DayRun_passDry r1) g0 g) (p4 : 0 ≤ l4 ∧ l4 ≤ 9) (ix0 : l4 < g0 r1 8) (ix1 : zDB r1 g0 g l4) (M : Int) (hM : 10 - l4 ≤ M) (hH : ∀ (m4 : Int) (g : zi_M), zk_I g → zk_fr (fr_DayRun_passDry r1) g0 g → (0 ≤ m4 ∧ m4 ≤ 10) → (m4 ≤ g0 r1 8) → (zDO r1 g0 g m4) → 10 - m4 < M → H m4 g) (hK97 : ∀ (g : zi_M), zk_I g → zk_fr (fr_DayRun_passDry r1) g0 g → (zDF r1 g0 g) → K97 g) (hQ : ∀ g' : zi_M, zk_I g' → zk_fr (fr_DayRun_passDry r1) g0 g' → (zDF r1 g0 g') → Q 0 g') : w_DayRun_passDry_b69 r1 l4 g H K97 Q := by
  unfold w_DayRun_passDry_b69
  refine ⟨⟨by omega, by omega⟩, ?_⟩
  have m_14 := zk_a10_5 hr1 I l4
  refine ⟨⟨by omega, by omega⟩, ?_⟩
  intro g18 e_15
  have I_16 : zk_I g18 := by rw [e_15]; exact zk_upd (zk_la10_5 hr1).1 (zk_la10_5 hr1).2 I ⟨by omega, by omega⟩ (zj_a10_5 hr1)
  have F_17 : zk_fr (fr_DayRun_passDry r1) g0 g18 := by rw [e_15]; exact zk_fu F (Or.inl rfl)
  exact hH _ _ I_16 F_17 ⟨by omega, by omega⟩ (by first | omega | (have hz := zk_c10_8 hr1 I; omega)) (by first | exact zDO_0 | exact zDB_s hr1 (by assumption) (by assumption) (by assumption)) (by omega)
set_option maxRecDepth 100000 in
set_option maxHeartbeats 4000000 in
theorem k_DayRun_passDry_l3 {r1 : Nat} (hr1 : zs_sh r1 = some (10, 20)) {K97 : zi_M → Prop} {Q : Int → zi_M → Prop} {g0 : zi_M} (hK97 : ∀ (g : zi_M), zk_I g → zk_fr (fr_DayRun_passDry r1) g0 g → (zDF r1 g0 g) → K97 g) (hQ : ∀ g' : zi_M, zk_I g' → zk_fr (fr_DayRun_passDry r1) g0 g' → (zDF r1 g0 g') → Q 0 g') : ∀ (n : Nat) {l4 : Int} {g : zi_M}, zk_I g → zk_fr (fr_DayRun_passDry r1) g0 g → (0 ≤ l4 ∧ l4 ≤ 10) → (l4 ≤ g0 r1 8) → (zDO r1 g0 g l4) → 10 - l4 < (n : Int) → w_DayRun_passDry_l3 r1 K97 Q n l4 g
  | 0, l4, g, I, F, b0, b1, b2, hm => by exfalso; omega
  | n + 1, l4, g, I, F, b0, b1, b2, hm => by
    unfold w_DayRun_passDry_l3
    have m_1 := zk_c10_8 hr1 I
    refine ⟨⟨by omega, by omega⟩, ⟨by omega, by omega⟩, ?_⟩
    refine ⟨fun c20 => ?_, fun c20 => ?_⟩
    · exact hK97 _ I F (by exact zDO_x (by assumption) (by have hf := (zDf_8 hr1 F).1; omega))
    · refine ⟨((8 - 0 : Int).toNat + 1), k_DayRun_passDry_l15 (l4 := l4) hr1 ⟨by omega, by omega⟩ (fun g15 I_10 F_11 b_12 b_13 => ?_) hQ ((8 - 0 : Int).toNat + 1) I F ⟨by omega, by omega⟩ (by have hz := zk_c10_11 hr1 I; have hf := (zDf_8 hr1 F).2; omega) (by first | assumption | (have hf := (zDf_8 hr1 F).1; omega)) (by first | exact zDI_0 (by assumption) | exact zDI_n hr1 (by assumption) (zDfr_d hr1 F) (by assumption) (by omega) (by assumption) (by omega) (by assumption) | exact zDI_y hr1 (by assumption) (zDfr_d hr1 F) (by assumption) (by assumption) (by omega) (by assumption) (by omega) (by assumption) (by assumption) (by assumption)) (by omega)⟩
      exact k_DayRun_passDry_b69 hr1 I_10 F_11 ⟨by omega, by omega⟩ (by assumption) (by assumption) (n : Int) (by omega) (fun _ _ I F b0 b1 b2 hm => k_DayRun_passDry_l3 hr1 hK97 hQ n I F b0 b1 b2 hm) hK97 hQ
set_option maxRecDepth 100000 in
set_option maxHeartbeats 4000000 in
theorem k_DayRun_passDry {r1 : Nat} (hr1 : zs_sh r1 = some (10, 20)) {g : zi_M} {Q : Int → zi_M → Prop} (I : zk_I g) (hQ : ∀ g' : zi_M, zk_I g' → zk_fr (fr_DayRun_passDry r1) g g' → (zDF r1 g g') → Q 0 g') : w_DayRun_passDry r1 g Q := by
  unfold w_DayRun_passDry
  refine ⟨((10 - 0 : Int).toNat + 1), k_DayRun_passDry_l3 hr1 (fun g21 I_18 F_19 b_20 => ?_) hQ ((10 - 0 : Int).toNat + 1) I (zk_f0 _) ⟨by omega, by omega⟩ (by first | omega | (have hz := zk_c10_8 hr1 I; omega)) (by first | exact zDO_0 | exact zDB_s hr1 (by assumption) (by assumption) (by assumption)) (by omega)⟩
  exact hQ _ I_18 F_19 (by assumption)
-- SpoutNews$DayRun.pass(LSpoutNews$World;LSpoutNews$Texts;LSpoutNews$Book;)V
set_option maxRecDepth 100000 in
set_option maxHeartbeats 4000000 in
theorem k_DayRun_pass_l3 {r1 : Nat} (hr1 : zs_sh r1 = some (10, 20)) {K57 : zi_M → Prop} {Q : Int → zi_M → Prop} {g0 : zi_M} (hK57 : ∀ (g : zi_M), zk_I g → zk_fr (fr_DayRun_pass r1) g0 g → (zPE r1 g0 g) → K57 g) (hQ : ∀ g' : zi_M, zk_I g' → zk_fr (fr_DayRun_pass r1) g0 g' → (zPD r1 g0 g') → Q 0 g') : ∀ (n : Nat) {l4 : Int} {g : zi_M}, zk_I g → zk_fr (fr_DayRun_pass r1) g0 g → (0 ≤ l4 ∧ l4 ≤ 16) → (l4 ≤ g0 19 10) → (zPp r1 l4 g0 g) → (zk_I g0) → 16 - l4 < (n : Int) → w_DayRun_pass_l3 r1 K57 Q n l4 g
  | 0, l4, g, I, F, b0, b1, b2, b3, hm => by exfalso; omega
  | n + 1, l4, g, I, F, b0, b1, b2, b3, hm => by
    unfold w_DayRun_pass_l3
    have m_1 : 0 ≤ (g 19 10) ∧ (g 19 10) ≤ 16 := I.1 19 10
    refine ⟨⟨by omega, by omega⟩, ⟨by omega, by omega⟩, ?_⟩
    refine ⟨fun c10 => ?_, fun c10 => ?_⟩
    · exact hK57 _ I F (by exact zPp_x b2 (by have hf := (zPfr_of hr1 F).1 19 10 (by omega); omega))
    · refine ⟨⟨by omega, by omega⟩, ?_⟩
      have m_2 : (-2147483648) ≤ (g 32 l4) ∧ (g 32 l4) ≤ 2147483647 := I.1 32 l4
      have m_3 := zk_c10_17 hr1 I
      refine ⟨⟨by omega, by omega⟩, ⟨by omega, by omega⟩, ?_⟩
      refine ⟨fun c9 => ?_, fun c9 => ?_⟩
      · exact k_DayRun_pass_l3 hr1 hK57 hQ n I F ⟨by omega, by omega⟩ (by first | omega | (have hf := (zPfr_of hr1 F).1 19 10 (by omega); omega) | (have hz := zk_r19 I; omega)) (by first | exact zPp_0 | exact zPp_n b2 (zPfr_of hr1 F) (by omega) (by assumption) | exact zPp_s hr1 b3 b2 (zPfr_of hr1 F) (by omega) (by assumption) (by assumption) (by assumption) (by assumption)) (by first | assumption) (by omega)
      · have m_4 : (-2147483648) ≤ (g 33 l4) ∧ (g 33 l4) ≤ 2147483647 := I.1 33 l4
        have m_5 : (-2147483648) ≤ (g 34 l4) ∧ (g 34 l4) ≤ 2147483647 := I.1 34 l4
        have m_6 : (-2147483648) ≤ (g 35 l4) ∧ (g 35 l4) ≤ 2147483647 := I.1 35 l4
        refine k_World_carryOut hr1 I ⟨by omega, by omega⟩ ⟨by omega, by omega⟩ ⟨by omega, by omega⟩ (fun g7 I_9 F_10 b_7 b_8 => ?_)
        have F_11 : zk_fr (fr_DayRun_pass r1) g0 g7 := zk_ft F F_10 (fun a i => (fun h => Or.elim h (fun h => (Or.inl h)) (fun h => Or.elim h (fun h => (Or.inr (Or.inl h))) (fun h => Or.elim h (fun h => (Or.inr (Or.inr (Or.inl h)))) (fun h => Or.elim h (fun h => (Or.inr (Or.inr (Or.inr (Or.inr (Or.inr (Or.inr (Or.inl h)))))))) (fun h => (Or.inr (Or.inr (Or.inr (Or.inr (Or.inr (Or.inr (Or.inr (Or.inl h))))))))))))))
        exact k_DayRun_pass_l3 hr1 hK57 hQ n I_9 F_11 ⟨by omega, by omega⟩ (by first | omega | (have hf := (zPfr_of hr1 F).1 19 10 (by omega); omega) | (have hz := zk_r19 I; omega)) (by first | exact zPp_0 | exact zPp_n b2 (zPfr_of hr1 F) (by omega) (by assumption) | exact zPp_s hr1 b3 b2 (zPfr_of hr1 F) (by omega) (by assumption) (by assumption) (by assumption) (by assumption)) (by first | assumption) (by omega)
set_option maxRecDepth 100000 in
set_option maxHeartbeats 4000000 in
theorem k_DayRun_pass_b79 {r1 : Nat} (hr1 : zs_sh r1 = some (10, 20)) {Q : Int → zi_M → Prop} {g : zi_M} {g0 : zi_M} (I : zk_I g) (F : zk_fr (fr_DayRun_pass r1) g0 g) (ix0 : zPr r1 g0 g) (hQ : ∀ g' : zi_M, zk_I g' → zk_fr (fr_DayRun_pass r1) g0 g' → (zPD r1 g0 g') → Q 0 g') : w_DayRun_pass_b79 r1 g Q := by
  unfold w_DayRun_pass_b79
  have m_19 := zk_c10_14 hr1 I
  refine ⟨⟨by omega, by omega⟩, ?_⟩
  refine ⟨fun c25 => ?_, fun c25 => ?_⟩
  · refine k_DayRun_passWet hr1 I (fun g18 I_21 F_22 b_20 => ?_)
    have F_23 : zk_fr (fr_DayRun_pass r1) g0 g18 := zk_ft F F_22 (fun a i => (fun h => Or.elim h (fun h => (Or.inr (Or.inl h))) (fun h => Or.elim h (fun h => (Or.inr (Or.inr (Or.inr (Or.inl h))))) (fun h => Or.elim h (fun h => (Or.inr (Or.inr (Or.inr (Or.inr (Or.inl h)))))) (fun h => Or.elim h (fun h => (Or.inr (Or.inr (Or.inr (Or.inr (Or.inr (Or.inl h))))))) (fun h => Or.elim h (fun h => (Or.inr (Or.inr (Or.inr (Or.inr (Or.inr (Or.inr (Or.inr (Or.inr (Or.inl h)))))))))) (fun h => Or.elim h (fun h => (Or.inr (Or.inr (Or.inr (Or.inr (Or.inr (Or.inr (Or.inr (Or.inr (Or.inr (Or.inl h))))))))))) (fun h => Or.elim h (fun h => (Or.inr (Or.inr (Or.inr (Or.inr (Or.inr (Or.inr (Or.inr (Or.inr (Or.inr (Or.inr (Or.inl h)))))))))))) (fun h => Or.elim h (fun h => (Or.inr (Or.inr (Or.inr (Or.inr (Or.inr (Or.inr (Or.inr (Or.inr (Or.inr (Or.inr (Or.inr (Or.inl h))))))))))))) (fun h => Or.elim h (fun h => (Or.inr (Or.inr (Or.inr (Or.inr (Or.inr (Or.inr (Or.inr (Or.inr (Or.inr (Or.inr (Or.inr (Or.inr (Or.inl h)))))))))))))) (fun h => Or.elim h (fun h => (Or.inr (Or.inr (Or.inr (Or.inr (Or.inr (Or.inr (Or.inr (Or.inr (Or.inr (Or.inr (Or.inr (Or.inr (Or.inr (Or.inl h))))))))))))))) (fun h => Or.elim h (fun h => (Or.inr (Or.inr (Or.inr (Or.inr (Or.inr (Or.inr (Or.inr (Or.inr (Or.inr (Or.inr (Or.inr (Or.inr (Or.inr (Or.inr (Or.inl h)))))))))))))))) (fun h => Or.elim h (fun h => (Or.inr (Or.inr (Or.inr (Or.inr (Or.inr (Or.inr (Or.inr (Or.inr (Or.inr (Or.inr (Or.inr (Or.inr (Or.inr (Or.inr (Or.inr (Or.inl h))))))))))))))))) (fun h => Or.elim h (fun h => (Or.inr (Or.inr (Or.inr (Or.inr (Or.inr (Or.inr (Or.inr (Or.inr (Or.inr (Or.inr (Or.inr (Or.inr (Or.inr (Or.inr (Or.inr (Or.inr (Or.inr (Or.inl h))))))))))))))))))) (fun h => Or.elim h (fun h => (Or.inr (Or.inr (Or.inr (Or.inr (Or.inr (Or.inr (Or.inr (Or.inr (Or.inr (Or.inr (Or.inr (Or.inr (Or.inr (Or.inr (Or.inr (Or.inr (Or.inr (Or.inr (Or.inl h)))))))))))))))))))) (fun h => Or.elim h (fun h => (Or.inr (Or.inr (Or.inr (Or.inr (Or.inr (Or.inr (Or.inr (Or.inr (Or.inr (Or.inr (Or.inr (Or.inr (Or.inr (Or.inr (Or.inr (Or.inr (Or.inr (Or.inr (Or.inr (Or.inr (Or.inl h)))))))))))))))))))))) (fun h => Or.elim h (fun h => (Or.inr (Or.inr (Or.inr (Or.inr (Or.inr (Or.inr (Or.inr (Or.inr (Or.inr (Or.inr (Or.inr (Or.inr (Or.inr (Or.inr (Or.inr (Or.inr (Or.inr (Or.inr (Or.inr (Or.inr (Or.inr (Or.inl h))))))))))))))))))))))) (fun h => (Or.inr (Or.inr (Or.inr (Or.inr (Or.inr (Or.inr (Or.inr (Or.inr (Or.inr (Or.inr (Or.inr (Or.inr (Or.inr (Or.inr (Or.inr (Or.inr (Or.inr (Or.inr (Or.inr (Or.inr (Or.inr (Or.inr h))))))))))))))))))))))))))))))))))))))))
    have m_27 := zk_c10_17 hr1 I_21
    have m_28 := zi_r_w ((g18 r1 17) + 1)
    intro g20 e_24
    have I_25 : zk_I g20 := by rw [e_24]; exact zk_upd (zk_lc10_17 hr1).1 (zk_lc10_17 hr1).2 I_21 ⟨by omega, by omega⟩ (zj_w10 hr1)
    have F_26 : zk_fr (fr_DayRun_pass r1) g0 g20 := by rw [e_24]; exact zk_fu F_23 (Or.inr (Or.inr (Or.inr (Or.inr (Or.inr (Or.inr (Or.inr (Or.inr (Or.inr (Or.inr (Or.inr (Or.inr (Or.inr (Or.inr (Or.inr (Or.inr (Or.inr (Or.inr (Or.inr (Or.inl ⟨rfl, rfl⟩))))))))))))))))))))
    exact hQ _ I_25 F_26 (by first | exact zPD_w hr1 ix0 (zPfr_of hr1 F) (by assumption) (by assumption) (by assumption) | exact zPD_d hr1 ix0 (zPfr_of hr1 F) (by assumption) (by assumption) (by assumption))
  · refine k_DayRun_passDry hr1 I (fun g22 I_30 F_31 b_29 => ?_)
    have F_32 : zk_fr (fr_DayRun_pass r1) g0 g22 := zk_ft F F_31 (fun a i => (fun h => Or.elim h (fun h => (Or.inr (Or.inr (Or.inr (Or.inl h))))) (fun h => Or.elim h (fun h => (Or.inr (Or.inr (Or.inr (Or.inr (Or.inl h)))))) (fun h => Or.elim h (fun h => (Or.inr (Or.inr (Or.inr (Or.inr (Or.inr (Or.inl h))))))) (fun h => Or.elim h (fun h => (Or.inr (Or.inr (Or.inr (Or.inr (Or.inr (Or.inr (Or.inr (Or.inr (Or.inl h)))))))))) (fun h => Or.elim h (fun h => (Or.inr (Or.inr (Or.inr (Or.inr (Or.inr (Or.inr (Or.inr (Or.inr (Or.inr (Or.inl h))))))))))) (fun h => Or.elim h (fun h => (Or.inr (Or.inr (Or.inr (Or.inr (Or.inr (Or.inr (Or.inr (Or.inr (Or.inr (Or.inr (Or.inl h)))))))))))) (fun h => Or.elim h (fun h => (Or.inr (Or.inr (Or.inr (Or.inr (Or.inr (Or.inr (Or.inr (Or.inr (Or.inr (Or.inr (Or.inr (Or.inr (Or.inr (Or.inl h))))))))))))))) (fun h => Or.elim h (fun h => (Or.inr (Or.inr (Or.inr (Or.inr (Or.inr (Or.inr (Or.inr (Or.inr (Or.inr (Or.inr (Or.inr (Or.inr (Or.inr (Or.inr (Or.inl h)))))))))))))))) (fun h => Or.elim h (fun h => (Or.inr (Or.inr (Or.inr (Or.inr (Or.inr (Or.inr (Or.inr (Or.inr (Or.inr (Or.inr (Or.inr (Or.inr (Or.inr (Or.inr (Or.inr (Or.inl h))))))))))))))))) (fun h => (Or.inr (Or.inr (Or.inr (Or.inr (Or.inr (Or.inr (Or.inr (Or.inr (Or.inr (Or.inr (Or.inr (Or.inr (Or.inr (Or.inr (Or.inr (Or.inr (Or.inr (Or.inr (Or.inr (Or.inr (Or.inr (Or.inl h)))))))))))))))))))))))))))))))))
    have m_36 := zk_c10_17 hr1 I_30
    have m_37 := zi_r_w ((g22 r1 17) + 1)
    intro g24 e_33
    have I_34 : zk_I g24 := by rw [e_33]; exact zk_upd (zk_lc10_17 hr1).1 (zk_lc10_17 hr1).2 I_30 ⟨by omega, by omega⟩ (zj_w10 hr1)
    have F_35 : zk_fr (fr_DayRun_pass r1) g0 g24 := by rw [e_33]; exact zk_fu F_32 (Or.inr (Or.inr (Or.inr (Or.inr (Or.inr (Or.inr (Or.inr (Or.inr (Or.inr (Or.inr (Or.inr (Or.inr (Or.inr (Or.inr (Or.inr (Or.inr (Or.inr (Or.inr (Or.inr (Or.inl ⟨rfl, rfl⟩))))))))))))))))))))
    exact hQ _ I_34 F_35 (by first | exact zPD_w hr1 ix0 (zPfr_of hr1 F) (by assumption) (by assumption) (by assumption) | exact zPD_d hr1 ix0 (zPfr_of hr1 F) (by assumption) (by assumption) (by assumption))
set_option maxRecDepth 100000 in
set_option maxHeartbeats 4000000 in
theorem k_DayRun_pass {r1 : Nat} (hr1 : zs_sh r1 = some (10, 20)) {g : zi_M} {Q : Int → zi_M → Prop} (I : zk_I g) (hQ : ∀ g' : zi_M, zk_I g' → zk_fr (fr_DayRun_pass r1) g g' → (zPD r1 g g') → Q 0 g') : w_DayRun_pass r1 g Q := by
  unfold w_DayRun_pass
  refine ⟨((16 - 0 : Int).toNat + 1), k_DayRun_pass_l3 hr1 (fun g11 I_12 F_13 b_14 => ?_) hQ ((16 - 0 : Int).toNat + 1) I (zk_f0 _) ⟨by omega, by omega⟩ (by first | omega | (have hf := (zPfr_of hr1 F).1 19 10 (by omega); omega) | (have hz := zk_r19 I; omega)) (by first | exact zPp_0 | exact zPp_n b2 (zPfr_of hr1 F) (by omega) (by assumption) | exact zPp_s hr1 b3 b2 (zPfr_of hr1 F) (by omega) (by assumption) (by assumption) (by assumption) (by assumption)) (by first | assumption) (by omega)⟩
  have m_15 := zk_c10_17 hr1 I_12
  have m_16 : 0 ≤ (g11 19 5) ∧ (g11 19 5) ≤ 16 := I_12.1 19 5
  refine k_Texts_rainOn I_12 ⟨by omega, by omega⟩ (fun v12 b_17 b_18 => ?_)
  refine ⟨⟨by omega, by omega⟩, ?_⟩
  refine ⟨fun c27 => ?_, fun c27 => ?_⟩
  · exact k_DayRun_pass_b79 hr1 I_12 F_13 (by first | exact zPr_n (by assumption) (zPfr_of hr1 (by assumption)) (by assumption) (by assumption) | exact zPr_y hr1 (by assumption) (zPfr_of hr1 (by assumption)) (by assumption) (by assumption) (by assumption)) hQ
  · intro g26 e_38
    have I_39 : zk_I g26 := by rw [e_38]; exact zk_upd (zk_lc10_14 hr1).1 (zk_lc10_14 hr1).2 I_12 ⟨by omega, by omega⟩ (zj_w10 hr1)
    have F_40 : zk_fr (fr_DayRun_pass r1) g g26 := by rw [e_38]; exact zk_fu F_13 (Or.inr (Or.inr (Or.inr (Or.inr (Or.inr (Or.inr (Or.inr (Or.inr (Or.inr (Or.inr (Or.inr (Or.inr (Or.inr (Or.inr (Or.inr (Or.inr (Or.inl ⟨rfl, rfl⟩)))))))))))))))))
    exact k_DayRun_pass_b79 hr1 I_39 F_40 (by first | exact zPr_n (by assumption) (zPfr_of hr1 (by assumption)) (by assumption) (by assumption) | exact zPr_y hr1 (by assumption) (zPfr_of hr1 (by assumption)) (by assumption) (by assumption) (by assumption)) hQ
-- SpoutNews.days(I)I
theorem zP_pass {g g' : zi_M} (F : zk_fr (fr_DayRun_pass 2) g g') (h : zP g) : zP g' := zP_eq (fun a i q => F a i (fun w => by unfold fr_DayRun_pass at w; unfold zPc at q; omega)) h

set_option maxRecDepth 100000 in
set_option maxHeartbeats 4000000 in
theorem k_S_days_b64 {l1 : Int} {l4 : Int} {H : Int → zi_M → Prop} {K92 : zi_M → Prop} {Q : Int → zi_M → Prop} {g : zi_M} {g0 : zi_M} (I : zk_I g) (F : zk_fr fr_S_days g0 g) (p1 : 1 ≤ l1 ∧ l1 ≤ 60) (p4 : 0 ≤ l4 ∧ l4 ≤ 59) (ix0 : zP g0 → zP g) (ix1 : l4 < l1) (ix2 : zDk l1 l4 g0 g) (M : Int) (hM : 60 - l4 ≤ M) (hH : ∀ (m4 : Int) (g : zi_M), zk_I g → zk_fr fr_S_days g0 g → (0 ≤ m4 ∧ m4 ≤ 60) → (zP g0 → zP g) → (m4 ≤ l1) → (zDc l1 m4 g0 g) → 60 - m4 < M → H m4 g) (hK92 : ∀ (g : zi_M), zk_I g → zk_fr fr_S_days g0 g → (zP g0 → zP g) → (zDF2 l1 g0 g) → K92 g) (hQ : ∀ (v : Int) (g' : zi_M), zk_I g' → zk_fr fr_S_days g0 g' → ((-2147483648) ≤ v ∧ v ≤ 2147483647) → (zP g0 → zP g') → ((1 ≤ l1 ∧ l1 ≤ 60 ∧ zi_w (g0 2 17 + l1) ≤ 9999) → zDF2 l1 g0 g') → ((1 ≤ l1 ∧ l1 ≤ 60 ∧ zi_w (g0 2 17 + l1) ≤ 9999) → v = zi_w (g' 2 15 - g0 2 15)) → (¬ (1 ≤ l1 ∧ l1 ≤ 60 ∧ zi_w (g0 2 17 + l1) ≤ 9999) → v = -1 ∧ g' = g0) → Q v g') : w_S_days_b64 l1 l4 g H K92 Q := by
  unfold w_S_days_b64
  refine k_DayRun_pass rfl I (fun g6 I_6 F_7 b_5 => ?_)
  have F_8 : zk_fr fr_S_days g0 g6 := zk_ft F F_7 (fun a i => (fun h => Or.elim h (fun h => (Or.inr (Or.inr (Or.inl h)))) (fun h => Or.elim h (fun h => (Or.inr (Or.inr (Or.inr (Or.inl h))))) (fun h => Or.elim h (fun h => (Or.inr (Or.inr (Or.inr (Or.inr (Or.inr (Or.inr (Or.inr (Or.inr (Or.inr (Or.inr (Or.inr (Or.inr (Or.inl h)))))))))))))) (fun h => Or.elim h (fun h => (Or.inr (Or.inr (Or.inr (Or.inr (Or.inr (Or.inr (Or.inr (Or.inr (Or.inr (Or.inr (Or.inr (Or.inr (Or.inr (Or.inl h))))))))))))))) (fun h => Or.elim h (fun h => (Or.inr (Or.inr (Or.inr (Or.inr (Or.inr (Or.inr (Or.inr (Or.inr (Or.inr (Or.inr (Or.inr (Or.inr (Or.inr (Or.inr (Or.inl h)))))))))))))))) (fun h => Or.elim h (fun h => (Or.inr (Or.inr (Or.inr (Or.inr (Or.inr (Or.inr (Or.inr (Or.inr (Or.inr (Or.inr (Or.inr (Or.inr (Or.inr (Or.inr (Or.inr (Or.inl h))))))))))))))))) (fun h => Or.elim h (fun h => (Or.inl h)) (fun h => Or.elim h (fun h => (Or.inr (Or.inl h))) (fun h => Or.elim h (fun h => (Or.inr (Or.inr (Or.inr (Or.inr (Or.inl h)))))) (fun h => Or.elim h (fun h => (Or.inr (Or.inr (Or.inr (Or.inr (Or.inr (Or.inl h))))))) (fun h => Or.elim h (fun h => (Or.inr (Or.inr (Or.inr (Or.inr (Or.inr (Or.inr (Or.inl h)))))))) (fun h => Or.elim h (fun h => (Or.inr (Or.inr (Or.inr (Or.inr (Or.inr (Or.inr (Or.inr (Or.inl h))))))))) (fun h => Or.elim h (fun h => (Or.inr (Or.inr (Or.inr (Or.inr (Or.inr (Or.inr (Or.inr (Or.inr (Or.inl h)))))))))) (fun h => Or.elim h (fun h => (Or.inr (Or.inr (Or.inr (Or.inr (Or.inr (Or.inr (Or.inr (Or.inr (Or.inr (Or.inl h))))))))))) (fun h => Or.elim h (fun h => (Or.inr (Or.inr (Or.inr (Or.inr (Or.inr (Or.inr (Or.inr (Or.inr (Or.inr (Or.inr (Or.inl h)))))))))))) (fun h => Or.elim h (fun h => (Or.inr (Or.inr (Or.inr (Or.inr (Or.inr (Or.inr (Or.inr (Or.inr (Or.inr (Or.inr (Or.inr (Or.inl h))))))))))))) (fun h => Or.elim h (fun h => (Or.inr (Or.inr (Or.inr (Or.inr (Or.inr (Or.inr (Or.inr (Or.inr (Or.inr (Or.inr (Or.inr (Or.inr (Or.inr (Or.inr (Or.inr (Or.inr (Or.inr (Or.inl h))))))))))))))))))) (fun h => Or.elim h (fun h => (Or.inr (Or.inr (Or.inr (Or.inr (Or.inr (Or.inr (Or.inr (Or.inr (Or.inr (Or.inr (Or.inr (Or.inr (Or.inr (Or.inr (Or.inr (Or.inr (Or.inr (Or.inr (Or.inl h)))))))))))))))))))) (fun h => Or.elim h (fun h => (Or.inr (Or.inr (Or.inr (Or.inr (Or.inr (Or.inr (Or.inr (Or.inr (Or.inr (Or.inr (Or.inr (Or.inr (Or.inr (Or.inr (Or.inr (Or.inr (Or.inr (Or.inr (Or.inr (Or.inl h))))))))))))))))))))) (fun h => Or.elim h (fun h => (Or.inr (Or.inr (Or.inr (Or.inr (Or.inr (Or.inr (Or.inr (Or.inr (Or.inr (Or.inr (Or.inr (Or.inr (Or.inr (Or.inr (Or.inr (Or.inr (Or.inr (Or.inr (Or.inr (Or.inr (Or.inl h)))))))))))))))))))))) (fun h => Or.elim h (fun h => (Or.inr (Or.inr (Or.inr (Or.inr (Or.inr (Or.inr (Or.inr (Or.inr (Or.inr (Or.inr (Or.inr (Or.inr (Or.inr (Or.inr (Or.inr (Or.inr (Or.inr (Or.inr (Or.inr (Or.inr (Or.inr (Or.inl h))))))))))))))))))))))) (fun h => Or.elim h (fun h => (Or.inr (Or.inr (Or.inr (Or.inr (Or.inr (Or.inr (Or.inr (Or.inr (Or.inr (Or.inr (Or.inr (Or.inr (Or.inr (Or.inr (Or.inr (Or.inr (Or.inr (Or.inr (Or.inr (Or.inr (Or.inr (Or.inr (Or.inl h)))))))))))))))))))))))) (fun h => (Or.inr (Or.inr (Or.inr (Or.inr (Or.inr (Or.inr (Or.inr (Or.inr (Or.inr (Or.inr (Or.inr (Or.inr (Or.inr (Or.inr (Or.inr (Or.inr (Or.inl h)))))))))))))))))))))))))))))))))))))))))
  exact hH _ _ I_6 F_8 ⟨by omega, by omega⟩ (by intro hz; repeat first | exact hz | refine zP_act (by assumption) ?_ | refine zP_pass (by assumption) ?_ | refine zP_mp (by assumption) ?_) (by omega) (by first | exact zDc_s ix2 (zDfr2_of F) (by assumption) (by assumption) (by omega) | exact zDc_0 I) (by omega)
set_option maxRecDepth 100000 in
set_option maxHeartbeats 4000000 in
theorem k_S_days_l41 {l1 : Int} {K92 : zi_M → Prop} {Q : Int → zi_M → Prop} {g0 : zi_M} (q1 : 1 ≤ l1 ∧ l1 ≤ 60) (hK92 : ∀ (g : zi_M), zk_I g → zk_fr fr_S_days g0 g → (zP g0 → zP g) → (zDF2 l1 g0 g) → K92 g) (hQ : ∀ (v : Int) (g' : zi_M), zk_I g' → zk_fr fr_S_days g0 g' → ((-2147483648) ≤ v ∧ v ≤ 2147483647) → (zP g0 → zP g') → ((1 ≤ l1 ∧ l1 ≤ 60 ∧ zi_w (g0 2 17 + l1) ≤ 9999) → zDF2 l1 g0 g') → ((1 ≤ l1 ∧ l1 ≤ 60 ∧ zi_w (g0 2 17 + l1) ≤ 9999) → v = zi_w (g' 2 15 - g0 2 15)) → (¬ (1 ≤ l1 ∧ l1 ≤ 60 ∧ zi_w (g0 2 17 + l1) ≤ 9999) → v = -1 ∧ g' = g0) → Q v g') : ∀ (n : Nat) {l4 : Int} {g : zi_M}, zk_I g → zk_fr fr_S_days g0 g → (0 ≤ l4 ∧ l4 ≤ 60) → (zP g0 → zP g) → (l4 ≤ l1) → (zDc l1 l4 g0 g) → 60 - l4 < (n : Int) → w_S_days_l41 l1 K92 Q n l4 g
  | 0, l4, g, I, F, b0, b1, b2, b3, hm => by exfalso; omega
  | n + 1, l4, g, I, F, b0, b1, b2, b3, hm => by
    unfold w_S_days_l41
    refine ⟨⟨by omega, by omega⟩, ⟨by omega, by omega⟩, ?_⟩
    refine ⟨fun c12 => ?_, fun c12 => ?_⟩
    · exact hK92 _ I F (by assumption) (by exact zDc_x (by assumption) (by omega))
    · refine ⟨⟨by omega, by omega⟩, ?_⟩
      refine ⟨fun c11 => ?_, fun c11 => ?_⟩
      · exact k_S_days_b64 I F ⟨by omega, by omega⟩ ⟨by omega, by omega⟩ (by intro hz; repeat first | exact hz | refine zP_act (by assumption) ?_ | refine zP_pass (by assumption) ?_ | refine zP_mp (by assumption) ?_) (by omega) (by first | exact zDk_n (by assumption) (by omega) (by omega) | exact zDk_y (by assumption) I (by assumption) (by assumption) (by omega) (by omega) (by omega)) (n : Int) (by omega) (fun _ _ I F b0 b1 b2 b3 hm => k_S_days_l41 q1 hK92 hQ n I F b0 b1 b2 b3 hm) hK92 hQ
      · refine k_Past_keep I (fun g9 I_12 F_13 b_9 b_10 b_11 => ?_)
        have F_14 : zk_fr fr_S_days g0 g9 := zk_ft F F_13 (fun a i => (fun h => Or.elim h (fun h => (Or.inr (Or.inr (Or.inr (Or.inr (Or.inr (Or.inr (Or.inr (Or.inr (Or.inr (Or.inr (Or.inr (Or.inr (Or.inr (Or.inr (Or.inr (Or.inr (Or.inr (Or.inr (Or.inr (Or.inr (Or.inr (Or.inr (Or.inr (Or.inl h))))))))))))))))))))))))) (fun h => Or.elim h (fun h => (Or.inr (Or.inr (Or.inr (Or.inr (Or.inr (Or.inr (Or.inr (Or.inr (Or.inr (Or.inr (Or.inr (Or.inr (Or.inr (Or.inr (Or.inr (Or.inr (Or.inr (Or.inr (Or.inr (Or.inr (Or.inr (Or.inr (Or.inr (Or.inr (Or.inl h)))))))))))))))))))))))))) (fun h => (Or.inr (Or.inr (Or.inr (Or.inr (Or.inr (Or.inr (Or.inr (Or.inr (Or.inr (Or.inr (Or.inr (Or.inr (Or.inr (Or.inr (Or.inr (Or.inr (Or.inr (Or.inr (Or.inr (Or.inr (Or.inr (Or.inr (Or.inr (Or.inr (Or.inr h)))))))))))))))))))))))))))))
        exact k_S_days_b64 I_12 F_14 ⟨by omega, by omega⟩ ⟨by omega, by omega⟩ (by intro hz; repeat first | exact hz | refine zP_act (by assumption) ?_ | refine zP_pass (by assumption) ?_ | refine zP_mp (by assumption) ?_) (by omega) (by first | exact zDk_n (by assumption) (by omega) (by omega) | exact zDk_y (by assumption) I (by assumption) (by assumption) (by omega) (by omega) (by omega)) (n : Int) (by omega) (fun _ _ I F b0 b1 b2 b3 hm => k_S_days_l41 q1 hK92 hQ n I F b0 b1 b2 b3 hm) hK92 hQ
set_option maxRecDepth 100000 in
set_option maxHeartbeats 4000000 in
theorem k_S_days {l1 : Int} {g : zi_M} {Q : Int → zi_M → Prop} (I : zk_I g) (p1 : (-2147483648) ≤ l1 ∧ l1 ≤ 2147483647) (hQ : ∀ (v : Int) (g' : zi_M), zk_I g' → zk_fr fr_S_days g g' → ((-2147483648) ≤ v ∧ v ≤ 2147483647) → (zP g → zP g') → ((1 ≤ l1 ∧ l1 ≤ 60 ∧ zi_w (g 2 17 + l1) ≤ 9999) → zDF2 l1 g g') → ((1 ≤ l1 ∧ l1 ≤ 60 ∧ zi_w (g 2 17 + l1) ≤ 9999) → v = zi_w (g' 2 15 - g 2 15)) → (¬ (1 ≤ l1 ∧ l1 ≤ 60 ∧ zi_w (g 2 17 + l1) ≤ 9999) → v = -1 ∧ g' = g) → Q v g') : w_S_days l1 g Q := by
  unfold w_S_days
  refine ⟨⟨by omega, by omega⟩, ?_⟩
  refine ⟨fun c17 => ?_, fun c17 => ?_⟩
  · have m_1 : (-2147483648) ≤ (g 2 15) ∧ (g 2 15) ≤ 2147483647 := I.1 2 15
    exact hQ _ _ I (zk_f0 _) ⟨by omega, by omega⟩ (by intro hz; repeat first | exact hz | refine zP_act (by assumption) ?_ | refine zP_pass (by assumption) ?_ | refine zP_mp (by assumption) ?_) (by first | (intro hx; assumption) | (intro hx; exfalso; omega)) (by first | (intro hx; exfalso; omega) | (intro hx; rfl)) (by first | (intro hx; exfalso; omega) | exact fun _ => ⟨rfl, rfl⟩)
  · refine ⟨fun c16 => ?_, fun c16 => ?_⟩
    · have m_2 : (-2147483648) ≤ (g 2 15) ∧ (g 2 15) ≤ 2147483647 := I.1 2 15
      exact hQ _ _ I (zk_f0 _) ⟨by omega, by omega⟩ (by intro hz; repeat first | exact hz | refine zP_act (by assumption) ?_ | refine zP_pass (by assumption) ?_ | refine zP_mp (by assumption) ?_) (by first | (intro hx; assumption) | (intro hx; exfalso; omega)) (by first | (intro hx; exfalso; omega) | (intro hx; rfl)) (by first | (intro hx; exfalso; omega) | exact fun _ => ⟨rfl, rfl⟩)
    · have m_3 : (-2147483648) ≤ (g 2 17) ∧ (g 2 17) ≤ 2147483647 := I.1 2 17
      have m_4 := zi_r_w ((g 2 17) + l1)
      refine ⟨fun c15 => ?_, fun c15 => ?_⟩
      · refine ⟨((60 - 0 : Int).toNat + 1), k_S_days_l41 (l1 := l1) ⟨by omega, by omega⟩ (fun g13 I_15 F_16 b_17 b_18 => ?_) hQ ((60 - 0 : Int).toNat + 1) I (zk_f0 _) ⟨by omega, by omega⟩ (by intro hz; repeat first | exact hz | refine zP_act (by assumption) ?_ | refine zP_pass (by assumption) ?_ | refine zP_mp (by assumption) ?_) (by omega) (by first | exact zDc_s ix2 (zDfr2_of F) (by assumption) (by assumption) (by omega) | exact zDc_0 I) (by omega)⟩
        have m_19 : (-2147483648) ≤ (g13 2 15) ∧ (g13 2 15) ≤ 2147483647 := I_15.1 2 15
        have m_20 : (-2147483648) ≤ (g 2 15) ∧ (g 2 15) ≤ 2147483647 := I.1 2 15
        have m_21 := zi_r_w ((g13 2 15) - (g 2 15))
        exact hQ _ _ I_15 F_16 ⟨by omega, by omega⟩ (by intro hz; repeat first | exact hz | refine zP_act (by assumption) ?_ | refine zP_pass (by assumption) ?_ | refine zP_mp (by assumption) ?_) (by first | (intro hx; assumption) | (intro hx; exfalso; omega)) (by first | (intro hx; exfalso; omega) | (intro hx; rfl)) (by first | (intro hx; exfalso; omega) | exact fun _ => ⟨rfl, rfl⟩)
      · have m_22 : (-2147483648) ≤ (g 2 15) ∧ (g 2 15) ≤ 2147483647 := I.1 2 15
        exact hQ _ _ I (zk_f0 _) ⟨by omega, by omega⟩ (by intro hz; repeat first | exact hz | refine zP_act (by assumption) ?_ | refine zP_pass (by assumption) ?_ | refine zP_mp (by assumption) ?_) (by first | (intro hx; assumption) | (intro hx; exfalso; omega)) (by first | (intro hx; exfalso; omega) | (intro hx; rfl)) (by first | (intro hx; exfalso; omega) | exact fun _ => ⟨rfl, rfl⟩)
