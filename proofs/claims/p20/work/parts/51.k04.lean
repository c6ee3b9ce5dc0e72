-- by program (wip/gen/mkz.py)
-- SpoutNews$DayRun.passWet(LSpoutNews$World;LSpoutNews$Texts;LSpoutNews$Book;)V
set_option maxRecDepth 100000 in
set_option maxHeartbeats 4000000 in
theorem k_DayRun_passWet_l53 {r1 : Nat} (hr1 : zs_sh r1 = some (10, 20)) {l4 : Int} {l5 : Int} {K75 : zi_M → Prop} {Q : Int → zi_M → Prop} {g0 : zi_M} (q4 : 0 ≤ l4 ∧ l4 ≤ 9) (q5 : 0 ≤ l5 ∧ l5 ≤ 20) (hK75 : ∀ (g : zi_M), zk_I g → zk_fr (fr_DayRun_passWet r1) g0 g → (zWp r1 (l4 + 1) g0 g) → (zWX r1 g0 g) → (l4 < g0 r1 8) → K75 g) (hQ : ∀ g' : zi_M, zk_I g' → zk_fr (fr_DayRun_passWet r1) g0 g' → (zWY r1 g0 g') → Q 0 g') : ∀ (n : Nat) {l6 : Int} {g : zi_M}, zk_I g → zk_fr (fr_DayRun_passWet r1) g0 g → (0 ≤ l6 ∧ l6 ≤ 20) → (l4 < g0 r1 8) → (l5 ≤ g (r1 + 6) l4 + l6) → (l6 ≤ l5 ∨ (l6 = 0 ∧ l5 ≤ 0)) → (zWm r1 l4 l5 g0) → (zWn r1 l4 l6 g0 g) → (zWX r1 g0 g) → 20 - l6 < (n : Int) → w_DayRun_passWet_l53 r1 l4 l5 K75 Q n l6 g
  | 0, l6, g, I, F, b0, b1, b2, b3, b4, b5, b6, hm => by exfalso; omega
  | n + 1, l6, g, I, F, b0, b1, b2, b3, b4, b5, b6, hm => by
    unfold w_DayRun_passWet_l53
    refine ⟨⟨by omega, by omega⟩, ⟨by omega, by omega⟩, ?_⟩
    refine ⟨fun c18 => ?_, fun c18 => ?_⟩
    · exact hK75 _ I F (by exact zWn_x (by assumption) (by assumption) ⟨by omega, by omega⟩ (by omega)) (by assumption) (by assumption)
    · refine k_DayRun_sayFirst hr1 I ⟨by omega, by omega⟩ (fun g16 I_18 F_19 b_17 => ?_)
      have F_20 : zk_fr (fr_DayRun_passWet r1) g0 g16 := zk_ft F F_19 (fun a i => (fun h => Or.elim h (fun h => (Or.inl h)) (fun h => Or.elim h (fun h => (Or.inr (Or.inr (Or.inl h)))) (fun h => Or.elim h (fun h => (Or.inr (Or.inr (Or.inr (Or.inl h))))) (fun h => Or.elim h (fun h => (Or.inr (Or.inr (Or.inr (Or.inr (Or.inl h)))))) (fun h => Or.elim h (fun h => (Or.inr (Or.inr (Or.inr (Or.inr (Or.inr (Or.inl h))))))) (fun h => Or.elim h (fun h => (Or.inr (Or.inr (Or.inr (Or.inr (Or.inr (Or.inr (Or.inl h)))))))) (fun h => Or.elim h (fun h => (Or.inr (Or.inr (Or.inr (Or.inr (Or.inr (Or.inr (Or.inr (Or.inl h))))))))) (fun h => Or.elim h (fun h => (Or.inr (Or.inr (Or.inr (Or.inr (Or.inr (Or.inr (Or.inr (Or.inr (Or.inl h)))))))))) (fun h => Or.elim h (fun h => (Or.inr (Or.inr (Or.inr (Or.inr (Or.inr (Or.inr (Or.inr (Or.inr (Or.inr (Or.inl h))))))))))) (fun h => Or.elim h (fun h => (Or.inr (Or.inr (Or.inr (Or.inr (Or.inr (Or.inr (Or.inr (Or.inr (Or.inr (Or.inr (Or.inl h)))))))))))) (fun h => Or.elim h (fun h => (Or.inr (Or.inr (Or.inr (Or.inr (Or.inr (Or.inr (Or.inr (Or.inr (Or.inr (Or.inr (Or.inr (Or.inl h))))))))))))) (fun h => Or.elim h (fun h => (Or.inr (Or.inr (Or.inr (Or.inr (Or.inr (Or.inr (Or.inr (Or.inr (Or.inr (Or.inr (Or.inr (Or.inr (Or.inl h)))))))))))))) (fun h => Or.elim h (fun h => (Or.inr (Or.inr (Or.inr (Or.inr (Or.inr (Or.inr (Or.inr (Or.inr (Or.inr (Or.inr (Or.inr (Or.inr (Or.inr (Or.inl h))))))))))))))) (fun h => Or.elim h (fun h => (Or.inr (Or.inr (Or.inr (Or.inr (Or.inr (Or.inr (Or.inr (Or.inr (Or.inr (Or.inr (Or.inr (Or.inr (Or.inr (Or.inr (Or.inl h)))))))))))))))) (fun h => Or.elim h (fun h => (Or.inr (Or.inr (Or.inr (Or.inr (Or.inr (Or.inr (Or.inr (Or.inr (Or.inr (Or.inr (Or.inr (Or.inr (Or.inr (Or.inr (Or.inr (Or.inl h))))))))))))))))) (fun h => (Or.inr (Or.inr (Or.inr (Or.inr (Or.inr (Or.inr (Or.inr (Or.inr (Or.inr (Or.inr (Or.inr (Or.inr (Or.inr (Or.inr (Or.inr (Or.inr h)))))))))))))))))))))))))))))))))
      exact k_DayRun_passWet_l53 hr1 q4 q5 hK75 hQ n I_18 F_20 ⟨by omega, by omega⟩ (by first | assumption | (have hf := (zWfr_of hr1 F).2.2.2.1; omega)) (by first | omega | (have hx := zWx_c (p := l4) hr1 I ⟨by omega, by omega⟩ (by have hf := (zWfr_of hr1 F).2.2.2.1; omega) (by omega) (by assumption); omega)) (by omega) (by first | assumption | exact zWm_0 hr1 (by assumption) (zWfr_of hr1 F) ⟨by omega, by omega⟩ ⟨by assumption, by assumption⟩ (by assumption) (by assumption) (by assumption)) (by first | exact zWn_0 hr1 (by assumption) (by assumption) | exact zWn_s (m := l5) (by assumption) (zWfr_of hr1 F) (by omega) (by assumption) (by omega) (by assumption)) (by first | exact zWx_k (by assumption) (by assumption) hr1 | exact zWx_v (p := l4) hr1 I (by assumption) (zWfr_of hr1 F) ⟨by omega, by omega⟩ (by assumption) (by omega) (by assumption) (by assumption)) (by omega)
set_option maxRecDepth 100000 in
set_option maxHeartbeats 4000000 in
theorem k_DayRun_passWet_l8 {r1 : Nat} (hr1 : zs_sh r1 = some (10, 20)) {K81 : zi_M → Prop} {Q : Int → zi_M → Prop} {g0 : zi_M} (hK81 : ∀ (g : zi_M), zk_I g → zk_fr (fr_DayRun_passWet r1) g0 g → (zWQ r1 g0 g) → (zWX r1 g0 g) → K81 g) (hQ : ∀ g' : zi_M, zk_I g' → zk_fr (fr_DayRun_passWet r1) g0 g' → (zWY r1 g0 g') → Q 0 g') : ∀ (n : Nat) {l4 : Int} {g : zi_M}, zk_I g → zk_fr (fr_DayRun_passWet r1) g0 g → (0 ≤ l4 ∧ l4 ≤ 10) → (l4 ≤ g0 r1 8) → (zWp r1 l4 g0 g) → (zWX r1 g0 g) → 10 - l4 < (n : Int) → w_DayRun_passWet_l8 r1 K81 Q n l4 g
  | 0, l4, g, I, F, b0, b1, b2, b3, hm => by exfalso; omega
  | n + 1, l4, g, I, F, b0, b1, b2, b3, hm => by
    unfold w_DayRun_passWet_l8
    have m_4 := zk_c10_8 hr1 I
    refine ⟨⟨by omega, by omega⟩, ⟨by omega, by omega⟩, ?_⟩
    refine ⟨fun c22 => ?_, fun c22 => ?_⟩
    · exact hK81 _ I F (by exact zWp_x b2 (by have hf := (zWfr_of hr1 F).2.2.2.1; omega)) (by assumption)
    · have m_9 := zk_a10_4 hr1 I (l4)
      have m_10 := zk_c10_14 hr1 I
      refine k_World_speaks hr1 I ⟨by omega, by omega⟩ (fun v4 b_5 b_6 b_7 b_8 => ?_)
      try simp only [Nat.reduceAdd] at b_5 b_6 b_7 b_8
      refine ⟨fun c21 => ?_, fun c21 => ?_⟩
      · exact k_DayRun_passWet_l8 hr1 hK81 hQ n I F ⟨by omega, by omega⟩ (by first | omega | (have hz := zk_c10_8 hr1 I; have hf := (zWfr_of hr1 F).2.2.2.1; omega) | (have hz := zk_c10_8 hr1 I; omega)) (by first | assumption | exact zWp_0 hr1 (by assumption) | exact zWp_n b2 (zWfr_of hr1 F) ⟨by omega, by omega⟩ ⟨by assumption, by assumption⟩ (by assumption) | exact zWp_n b2 (zWfr_of hr1 F) ⟨by omega, by omega⟩ ⟨by assumption, by assumption⟩ (by omega)) (by first | assumption | exact zWx_0 (by assumption)) (by omega)
      · refine k_Law_tells hr1 I ⟨by omega, by omega⟩ ⟨by omega, by omega⟩ ⟨by omega, by omega⟩ (fun v7 g8 I_13 F_14 b_11 b_12 => ?_)
        have F_15 : zk_fr (fr_DayRun_passWet r1) g0 g8 := zk_ft F F_14 (fun a i => (fun h => Or.elim h (fun h => (Or.inr (Or.inr (Or.inr (Or.inr (Or.inr (Or.inr (Or.inr (Or.inr (Or.inr (Or.inr (Or.inl h)))))))))))) (fun h => (Or.inr (Or.inr (Or.inr (Or.inr (Or.inr (Or.inr (Or.inr (Or.inr (Or.inr (Or.inr (Or.inr (Or.inl h)))))))))))))))
        refine ⟨⟨by omega, by omega⟩, ?_⟩
        have m_16 := zk_a10_6 hr1 I_13 l4
        refine ⟨⟨by omega, by omega⟩, ⟨by omega, by omega⟩, ?_⟩
        refine ⟨((20 - 0 : Int).toNat + 1), k_DayRun_passWet_l53 (l4 := l4) (l5 := (min v7 (g8 (r1 + 6) l4))) hr1 ⟨by omega, by omega⟩ ⟨by omega, by omega⟩ (fun g19 I_21 F_22 b_23 b_24 b_25 => ?_) hQ ((20 - 0 : Int).toNat + 1) I_13 F_15 ⟨by omega, by omega⟩ (by first | assumption | (have hf := (zWfr_of hr1 F).2.2.2.1; omega)) (by first | omega | (have hx := zWx_c (p := l4) hr1 I ⟨by omega, by omega⟩ (by have hf := (zWfr_of hr1 F).2.2.2.1; omega) (by omega) (by assumption); omega)) (by omega) (by first | assumption | exact zWm_0 hr1 (by assumption) (zWfr_of hr1 F) ⟨by omega, by omega⟩ ⟨by assumption, by assumption⟩ (by assumption) (by assumption) (by assumption)) (by first | exact zWn_0 hr1 (by assumption) (by assumption) | exact zWn_s (m := l5) (by assumption) (zWfr_of hr1 F) (by omega) (by assumption) (by omega) (by assumption)) (by first | exact zWx_k (by assumption) (by assumption) hr1 | exact zWx_v (p := l4) hr1 I (by assumption) (zWfr_of hr1 F) ⟨by omega, by omega⟩ (by assumption) (by omega) (by assumption) (by assumption)) (by omega)⟩
        exact k_DayRun_passWet_l8 hr1 hK81 hQ n I_21 F_22 ⟨by omega, by omega⟩ (by first | omega | (have hz := zk_c10_8 hr1 I; have hf := (zWfr_of hr1 F).2.2.2.1; omega) | (have hz := zk_c10_8 hr1 I; omega)) (by first | assumption | exact zWp_0 hr1 (by assumption) | exact zWp_n b2 (zWfr_of hr1 F) ⟨by omega, by omega⟩ ⟨by assumption, by assumption⟩ (by assumption) | exact zWp_n b2 (zWfr_of hr1 F) ⟨by omega, by omega⟩ ⟨by assumption, by assumption⟩ (by omega)) (by first | assumption | exact zWx_0 (by assumption)) (by omega)
set_option maxRecDepth 100000 in
set_option maxHeartbeats 4000000 in
theorem k_DayRun_passWet_l90 {r1 : Nat} (hr1 : zs_sh r1 = some (10, 20)) {K113 : zi_M → Prop} {Q : Int → zi_M → Prop} {g0 : zi_M} (hK113 : ∀ (g : zi_M), zk_I g → zk_fr (fr_DayRun_passWet r1) g0 g → (zWY r1 g0 g) → K113 g) (hQ : ∀ g' : zi_M, zk_I g' → zk_fr (fr_DayRun_passWet r1) g0 g' → (zWY r1 g0 g') → Q 0 g') : ∀ (n : Nat) {l4 : Int} {g : zi_M}, zk_I g → zk_fr (fr_DayRun_passWet r1) g0 g → (0 ≤ l4 ∧ l4 ≤ 10) → (l4 ≤ g0 r1 8) → (zWe r1 l4 g0 g) → 10 - l4 < (n : Int) → w_DayRun_passWet_l90 r1 K113 Q n l4 g
  | 0, l4, g, I, F, b0, b1, b2, hm => by exfalso; omega
  | n + 1, l4, g, I, F, b0, b1, b2, hm => by
    unfold w_DayRun_passWet_l90
    have m_34 := zk_c10_8 hr1 I
    refine ⟨⟨by omega, by omega⟩, ⟨by omega, by omega⟩, ?_⟩
    refine ⟨fun c31 => ?_, fun c31 => ?_⟩
    · exact hK113 _ I F (by exact zWe_x (by assumption) (by have hf := (zWfr_of hr1 F).2.2.2.1; omega))
    · refine ⟨⟨by omega, by omega⟩, ?_⟩
      intro g30 e_35
      have I_36 : zk_I g30 := by rw [e_35]; exact zk_upd (zk_la10_5 hr1).1 (zk_la10_5 hr1).2 I ⟨by omega, by omega⟩ (zj_a10_5 hr1)
      have F_37 : zk_fr (fr_DayRun_passWet r1) g0 g30 := by rw [e_35]; exact zk_fu F (Or.inr (Or.inl rfl))
      exact k_DayRun_passWet_l90 hr1 hK113 hQ n I_36 F_37 ⟨by omega, by omega⟩ (by first | omega | (have hz := zk_c10_8 hr1 I; have hf := (zWfr_of hr1 F).2.2.2.1; omega) | (have hz := zk_c10_8 hr1 I; omega)) (by first | exact zWe_0 (by assumption) (by assumption) (zWfr_of hr1 (by assumption)) (by assumption) | exact zWe_s hr1 (by assumption) (by omega) (by omega) (by assumption)) (by omega)
set_option maxRecDepth 100000 in
set_option maxHeartbeats 4000000 in
theorem k_DayRun_passWet {r1 : Nat} (hr1 : zs_sh r1 = some (10, 20)) {g : zi_M} {Q : Int → zi_M → Prop} (I : zk_I g) (hQ : ∀ g' : zi_M, zk_I g' → zk_fr (fr_DayRun_passWet r1) g g' → (zWY r1 g g') → Q 0 g') : w_DayRun_passWet r1 g Q := by
  unfold w_DayRun_passWet
  intro g1 e_1
  have I_2 : zk_I g1 := by rw [e_1]; exact zk_upd (L := 0) (H := 90) rfl rfl I ⟨by omega, by omega⟩
  have F_3 : zk_fr (fr_DayRun_passWet r1) g g1 := by rw [e_1]; exact zk_fu (zk_f0 _) (Or.inr (Or.inr (Or.inr (Or.inr (Or.inr (Or.inr (Or.inr (Or.inr (Or.inr (Or.inr (Or.inr (Or.inr (Or.inr (Or.inr (Or.inr (Or.inr ⟨rfl, rfl⟩))))))))))))))))
  refine ⟨((10 - 0 : Int).toNat + 1), k_DayRun_passWet_l8 hr1 (fun g23 I_26 F_27 b_28 b_29 => ?_) hQ ((10 - 0 : Int).toNat + 1) I_2 F_3 ⟨by omega, by omega⟩ (by first | omega | (have hz := zk_c10_8 hr1 I; have hf := (zWfr_of hr1 F).2.2.2.1; omega) | (have hz := zk_c10_8 hr1 I; omega)) (by first | assumption | exact zWp_0 hr1 (by assumption) | exact zWp_n b2 (zWfr_of hr1 F) ⟨by omega, by omega⟩ ⟨by assumption, by assumption⟩ (by assumption) | exact zWp_n b2 (zWfr_of hr1 F) ⟨by omega, by omega⟩ ⟨by assumption, by assumption⟩ (by omega)) (by first | assumption | exact zWx_0 (by assumption)) (by omega)⟩
  refine k_DayRun_leadOn hr1 I_26 (fun g25 I_31 F_32 b_30 => ?_)
  have F_33 : zk_fr (fr_DayRun_passWet r1) g g25 := zk_ft F_27 F_32 (fun a i => (fun h => Or.elim h (fun h => (Or.inr (Or.inr (Or.inl h)))) (fun h => Or.elim h (fun h => (Or.inr (Or.inr (Or.inr (Or.inl h))))) (fun h => Or.elim h (fun h => (Or.inr (Or.inr (Or.inr (Or.inr (Or.inl h)))))) (fun h => Or.elim h (fun h => (Or.inr (Or.inr (Or.inr (Or.inr (Or.inr (Or.inl h))))))) (fun h => Or.elim h (fun h => (Or.inr (Or.inr (Or.inr (Or.inr (Or.inr (Or.inr (Or.inl h)))))))) (fun h => Or.elim h (fun h => (Or.inr (Or.inr (Or.inr (Or.inr (Or.inr (Or.inr (Or.inr (Or.inr (Or.inr (Or.inl h))))))))))) (fun h => (Or.inr (Or.inr (Or.inr (Or.inr (Or.inr (Or.inr (Or.inr (Or.inr (Or.inr (Or.inr (Or.inr (Or.inr (Or.inr (Or.inr (Or.inr (Or.inl h))))))))))))))))))))))))
  refine ⟨((10 - 0 : Int).toNat + 1), k_DayRun_passWet_l90 hr1 (fun g32 I_38 F_39 b_40 => ?_) hQ ((10 - 0 : Int).toNat + 1) I_31 F_33 ⟨by omega, by omega⟩ (by first | omega | (have hz := zk_c10_8 hr1 I; have hf := (zWfr_of hr1 F).2.2.2.1; omega) | (have hz := zk_c10_8 hr1 I; omega)) (by first | exact zWe_0 (by assumption) (by assumption) (zWfr_of hr1 (by assumption)) (by assumption) | exact zWe_s hr1 (by assumption) (by omega) (by omega) (by assumption)) (by omega)⟩
  exact hQ _ I_38 F_39 (by assumption)
-- SpoutNews$DayRun.listen(LSpoutNews$World;LSpoutNews$Texts;LSpoutNews$Book;II)V
set_option maxRecDepth 100000 in
set_option maxHeartbeats 4000000 in
theorem k_DayRun_listen_l17 {r1 : Nat} (hr1 : zs_sh r1 = some (10, 20)) {l4 : Int} {l5 : Int} {K70 : zi_M → Prop} {Q : Int → zi_M → Prop} {g0 : zi_M} (q4 : 0 ≤ l4 ∧ l4 ≤ 9) (q5 : (-2147483648) ≤ l5 ∧ l5 ≤ 2147483647) (hK70 : ∀ (g : zi_M), zk_I g → zk_fr (fr_DayRun_listen r1) g0 g → (zLF r1 l4 l5 g0 g) → K70 g) (hQ : ∀ g' : zi_M, zk_I g' → zk_fr (fr_DayRun_listen r1) g0 g' → (zLF r1 l4 l5 g0 g') → Q 0 g') : ∀ (n : Nat) {l6 : Int} {l7 : Int} {g : zi_M}, zk_I g → zk_fr (fr_DayRun_listen r1) g0 g → (0 ≤ l6 ∧ l6 ≤ 1000) → (0 ≤ l7 ∧ l7 ≤ 16) → (zLI r1 l4 l5 g0 g l6 l7) → 16 - l7 < (n : Int) → w_DayRun_listen_l17 r1 l4 l5 K70 Q n l6 l7 g
  | 0, l6, l7, g, I, F, b0, b1, b2, hm => by exfalso; omega
  | n + 1, l6, l7, g, I, F, b0, b1, b2, hm => by
    unfold w_DayRun_listen_l17
    refine ⟨⟨by omega, by omega⟩, ?_⟩
    refine ⟨fun c15 => ?_, fun c15 => ?_⟩
    · exact hK70 _ I F (by first | exact zLI_x (by assumption) (Or.inl (by assumption)) | exact zLI_x (by assumption) (Or.inr (by assumption)))
    · refine ⟨⟨by omega, by omega⟩, ?_⟩
      refine ⟨fun c14 => ?_, fun c14 => ?_⟩
      · exact hK70 _ I F (by first | exact zLI_x (by assumption) (Or.inl (by assumption)) | exact zLI_x (by assumption) (Or.inr (by assumption)))
      · have m_6 := zi_r_shr l5 l7
        try have m_7 := (zi_shr_f l5 l7).2 ⟨by omega, by omega⟩
        have m_8 := zi_r_and (zi_shr l5 l7) 1
        try have m_9 := (zi_and_f (zi_shr l5 l7) 1).2.1 ⟨by omega, by omega⟩
        try have m_10 := (zi_and_f (zi_shr l5 l7) 1).2.2 ⟨by omega, by omega⟩
        refine ⟨fun c13 => ?_, fun c13 => ?_⟩
        · exact k_DayRun_listen_l17 hr1 q4 q5 hK70 hQ n I F ⟨by omega, by omega⟩ ⟨by omega, by omega⟩ (by first | exact zLI_0 hr1 (by assumption) (by assumption) | exact zLI_a (by assumption) (by assumption) (by assumption) | exact zLI_b (by assumption) (by assumption) (by assumption) (by assumption) (zLf_8 hr1 F).1 | exact zLI_c (by assumption) (by assumption) (by assumption) (by assumption) (by assumption) (by assumption) (by assumption) (zLf_8 hr1 F).1 (zLf_8 hr1 (by assumption)).2) (by omega)
        · refine k_World_takeIn hr1 I ⟨by omega, by omega⟩ ⟨by omega, by omega⟩ (fun v6 g7 I_13 F_14 b_11 b_12 => ?_)
          have F_15 : zk_fr (fr_DayRun_listen r1) g0 g7 := zk_ft F F_14 (fun a i => (fun h => Or.elim h (fun h => (Or.inl h)) (fun h => (Or.inr (Or.inl h)))))
          refine ⟨fun c12 => ?_, fun c12 => ?_⟩
          · exact k_DayRun_listen_l17 hr1 q4 q5 hK70 hQ n I_13 F_15 ⟨by omega, by omega⟩ ⟨by omega, by omega⟩ (by first | exact zLI_0 hr1 (by assumption) (by assumption) | exact zLI_a (by assumption) (by assumption) (by assumption) | exact zLI_b (by assumption) (by assumption) (by assumption) (by assumption) (zLf_8 hr1 F).1 | exact zLI_c (by assumption) (by assumption) (by assumption) (by assumption) (by assumption) (by assumption) (by assumption) (zLf_8 hr1 F).1 (zLf_8 hr1 (by assumption)).2) (by omega)
          · refine k_Book_write hr1 I_13 ⟨by omega, by omega⟩ ⟨by omega, by omega⟩ ⟨by omega, by omega⟩ (fun g10 I_17 F_18 b_16 => ?_)
            have F_19 : zk_fr (fr_DayRun_listen r1) g0 g10 := zk_ft F_15 F_18 (fun a i => (fun h => Or.elim h (fun h => (Or.inr (Or.inr (Or.inl h)))) (fun h => Or.elim h (fun h => (Or.inr (Or.inr (Or.inr (Or.inl h))))) (fun h => Or.elim h (fun h => (Or.inr (Or.inr (Or.inr (Or.inr (Or.inl h)))))) (fun h => Or.elim h (fun h => (Or.inr (Or.inr (Or.inr (Or.inr (Or.inr (Or.inl h))))))) (fun h => (Or.inr (Or.inr (Or.inr (Or.inr (Or.inr (Or.inr (Or.inr (Or.inr h))))))))))))))
            exact k_DayRun_listen_l17 hr1 q4 q5 hK70 hQ n I_17 F_19 ⟨by omega, by omega⟩ ⟨by omega, by omega⟩ (by first | exact zLI_0 hr1 (by assumption) (by assumption) | exact zLI_a (by assumption) (by assumption) (by assumption) | exact zLI_b (by assumption) (by assumption) (by assumption) (by assumption) (zLf_8 hr1 F).1 | exact zLI_c (by assumption) (by assumption) (by assumption) (by assumption) (by assumption) (by assumption) (by assumption) (zLf_8 hr1 F).1 (zLf_8 hr1 (by assumption)).2) (by omega)
set_option maxRecDepth 100000 in
set_option maxHeartbeats 4000000 in
theorem k_DayRun_listen {r1 : Nat} (hr1 : zs_sh r1 = some (10, 20)) {l4 : Int} {l5 : Int} {g : zi_M} {Q : Int → zi_M → Prop} (I : zk_I g) (p4 : 0 ≤ l4 ∧ l4 ≤ 9) (p5 : (-2147483648) ≤ l5 ∧ l5 ≤ 2147483647) (hQ : ∀ g' : zi_M, zk_I g' → zk_fr (fr_DayRun_listen r1) g g' → (zLF r1 l4 l5 g g') → Q 0 g') : w_DayRun_listen r1 l4 l5 g Q := by
  unfold w_DayRun_listen
  refine k_Law_tells hr1 I ⟨by omega, by omega⟩ ⟨by omega, by omega⟩ ⟨by omega, by omega⟩ (fun v1 g2 I_3 F_4 b_1 b_2 => ?_)
  have F_5 : zk_fr (fr_DayRun_listen r1) g g2 := zk_ft (zk_f0 _) F_4 (fun a i => (fun h => Or.elim h (fun h => (Or.inr (Or.inr (Or.inr (Or.inr (Or.inr (Or.inr (Or.inl h)))))))) (fun h => (Or.inr (Or.inr (Or.inr (Or.inr (Or.inr (Or.inr (Or.inr (Or.inl h)))))))))))
  refine ⟨((16 - 0 : Int).toNat + 1), k_DayRun_listen_l17 (l4 := l4) (l5 := l5) hr1 ⟨by omega, by omega⟩ ⟨by omega, by omega⟩ (fun g16 I_20 F_21 b_22 => ?_) hQ ((16 - 0 : Int).toNat + 1) I_3 F_5 ⟨by omega, by omega⟩ ⟨by omega, by omega⟩ (by first | exact zLI_0 hr1 (by assumption) (by assumption) | exact zLI_a (by assumption) (by assumption) (by assumption) | exact zLI_b (by assumption) (by assumption) (by assumption) (by assumption) (zLf_8 hr1 F).1 | exact zLI_c (by assumption) (by assumption) (by assumption) (by assumption) (by assumption) (by assumption) (by assumption) (zLf_8 hr1 F).1 (zLf_8 hr1 (by assumption)).2) (by omega)⟩
  exact hQ _ I_20 F_21 (by assumption)
-- SpoutNews$DayRun.passDry(LSpoutNews$World;LSpoutNews$Texts;LSpoutNews$Book;)V
set_option maxRecDepth 100000 in
set_option maxHeartbeats 4000000 in
theorem k_DayRun_passDry_l15 {r1 : Nat} (hr1 : zs_sh r1 = some (10, 20)) {l4 : Int} {K69 : zi_M → Prop} {Q : Int → zi_M → Prop} {g0 : zi_M} (q4 : 0 ≤ l4 ∧ l4 ≤ 9) (hK69 : ∀ (g : zi_M), zk_I g → zk_fr (fr_DayRun_passDry r1) g0 g → (l4 < g0 r1 8) → (zDB r1 g0 g l4) → K69 g) (hQ : ∀ g' : zi_M, zk_I g' → zk_fr (fr_DayRun_passDry r1) g0 g' → (zDF r1 g0 g') → Q 0 g') : ∀ (n : Nat) {l5 : Int} {g : zi_M}, zk_I g → zk_fr (fr_DayRun_passDry r1) g0 g → (0 ≤ l5 ∧ l5 ≤ 8) → (l5 ≤ g0 r1 11) → (l4 < g0 r1 8) → (zDI r1 g0 g l4 l5) → 8 - l5 < (n : Int) → w_DayRun_passDry_l15 r1 l4 K69 Q n l5 g
  | 0, l5, g, I, F, b0, b1, b2, b3, hm => by exfalso; omega
  | n + 1, l5, g, I, F, b0, b1, b2, b3, hm => by
    unfold w_DayRun_passDry_l15
    have m_2 := zk_c10_11 hr1 I
    refine ⟨⟨by omega, by omega⟩, ⟨by omega, by omega⟩, ?_⟩
    refine ⟨fun c14 => ?_, fun c14 => ?_⟩
    · exact hK69 _ I F (by assumption) (by first | exact zDI_x (by assumption) (zDfr_d hr1 F) (by assumption) (by assumption) | exact zDI_l (by assumption) (zDfr_d hr1 F) (by assumption) (by omega) (by assumption) (by assumption))
    · refine ⟨⟨by omega, by omega⟩, ?_⟩
      have m_3 := zk_a10_4 hr1 I l4
      refine ⟨⟨by omega, by omega⟩, ?_⟩
      refine ⟨fun c13 => ?_, fun c13 => ?_⟩
      · exact hK69 _ I F (by assumption) (by first | exact zDI_x (by assumption) (zDfr_d hr1 F) (by assumption) (by assumption) | exact zDI_l (by assumption) (zDfr_d hr1 F) (by assumption) (by omega) (by assumption) (by assumption))
      · refine ⟨⟨by omega, by omega⟩, ?_⟩
        have m_4 := zk_a10_9 hr1 I l5
        refine ⟨⟨by omega, by omega⟩, ?_⟩
        refine ⟨fun c12 => ?_, fun c12 => ?_⟩
        · exact k_DayRun_passDry_l15 hr1 q4 hK69 hQ n I F ⟨by omega, by omega⟩ (by have hz := zk_c10_11 hr1 I; have hf := (zDf_8 hr1 F).2; omega) (by first | assumption | (have hf := (zDf_8 hr1 F).1; omega)) (by first | exact zDI_0 (by assumption) | exact zDI_n hr1 (by assumption) (zDfr_d hr1 F) (by assumption) (by omega) (by assumption) (by omega) (by assumption) | exact zDI_y hr1 (by assumption) (zDfr_d hr1 F) (by assumption) (by assumption) (by omega) (by assumption) (by omega) (by assumption) (by assumption) (by assumption)) (by omega)
        · have m_5 := zk_a10_8 hr1 I l5
          refine k_DayRun_listen hr1 I ⟨by omega, by omega⟩ ⟨by omega, by omega⟩ (fun g10 I_7 F_8 b_6 => ?_)
          have F_9 : zk_fr (fr_DayRun_passDry r1) g0 g10 := zk_ft F F_8 (fun a i => (fun h => Or.elim h (fun h => (Or.inr (Or.inl h))) (fun h => Or.elim h (fun h => (Or.inr (Or.inr (Or.inl h)))) (fun h => Or.elim h (fun h => (Or.inr (Or.inr (Or.inr (Or.inl h))))) (fun h => Or.elim h (fun h => (Or.inr (Or.inr (Or.inr (Or.inr (Or.inl h)))))) (fun h => Or.elim h (fun h => (Or.inr (Or.inr (Or.inr (Or.inr (Or.inr (Or.inl h))))))) (fun h => Or.elim h (fun h => (Or.inr (Or.inr (Or.inr (Or.inr (Or.inr (Or.inr (Or.inl h)))))))) (fun h => Or.elim h (fun h => (Or.inr (Or.inr (Or.inr (Or.inr (Or.inr (Or.inr (Or.inr (Or.inl h))))))))) (fun h => Or.elim h (fun h => (Or.inr (Or.inr (Or.inr (Or.inr (Or.inr (Or.inr (Or.inr (Or.inr (Or.inl h)))))))))) (fun h => (Or.inr (Or.inr (Or.inr (Or.inr (Or.inr (Or.inr (Or.inr (Or.inr (Or.inr h)))))))))))))))))))
          exact k_DayRun_passDry_l15 hr1 q4 hK69 hQ n I_7 F_9 ⟨by omega, by omega⟩ (by have hz := zk_c10_11 hr1 I; have hf := (zDf_8 hr1 F).2; omega) (by first | assumption | (have hf := (zDf_8 hr1 F).1; omega)) (by first | exact zDI_0 (by assumption) | exact zDI_n hr1 (by assumption) (zDfr_d hr1 F) (by assumption) (by omega) (by assumption) (by omega) (by assumption) | exact zDI_y hr1 (by assumption) (zDfr_d hr1 F) (by assumption) (by assumption) (by omega) (by assumption) (by omega) (by assumption) (by assumption) (by assumption)) (by omega)
set_option maxRecDepth 100000 in
set_option maxHeartbeats 4000000 in
theorem k_DayRun_passDry_b69 {r1 : Nat} (hr1 : zs_sh r1 = some (10, 20)) {l4 : Int} {H : Int → zi_M → Prop} {K97 : zi_M → Prop} {Q : Int → zi_M → Prop} {g : zi_M} {g0 : zi_M} (I : zk_I g) (F : zk_fr (fr_DayRun_passDry r1) g0 g) (p4 : 0 ≤ l4 ∧ l4 ≤ 9) (ix0 : l4 < g0 r1 8) (ix1 : zDB r1 g0 g l4) (M : Int) (hM : 10 - l4 ≤ M) (hH : ∀ (m4 : Int) (g : zi_M), zk_I g → zk_fr (fr_DayRun_passDry r1) g0 g → (0 ≤ m4 ∧ m4 ≤ 10) → (m4 ≤ g0 r1 8) → (zDO r1 g0 g m4) → 10 - m4 < M → H m4 g) (hK97 : ∀ (g : zi_M), zk_I g → zk_fr (fr_DayRun_passDry r1) g0 g → (zDF r1 g0 g) → K97 g) (hQ : ∀ g' : zi_M, zk_I g' → zk_fr (fr_DayRun_passDry r1) g0 g' → (zDF r1 g0 g') → Q 0 g') : w_DayRun_passDry_b69 r1 l4 g H K97 Q := by
  unfold w_DayRun_passDry_b69
  refine ⟨⟨by omega, by omega⟩, ?_⟩
  have m_14 := zk_a10_5 hr1 I l4
  refine ⟨⟨by omega, by omega⟩, ?_⟩
  intro g18 e_15
  have I_16 : zk_I g18 := by rw [e_15]; exact zk_upd (zk_la10_5 hr1).1 (zk_la10_5 hr1).2 I ⟨by omega, by omega⟩ (zj_a10_5 hr1)
  have F_17 : zk_fr (fr_DayRun_passDry r1) g0 g18 := by rw [e_15]; exact zk_fu F (Or.inl rfl)
  exact hH _ _ I_16 F_17 ⟨by omega, by omega⟩ (by first | omega | (have hz := zk_c10_8 hr1 I; omega)) (by first | exact zDO_0 | exact zDB_s hr1 (by assumption) (by assumption) (by assumption)) (by omega)
set_option maxRecDepth 100000 in
set_option maxHeartbeats 4000000 in
theorem k_DayRun_passDry_l3 {r1 : Nat} (hr1 : zs_sh r1 = some (10, 20)) {K97 : zi_M → Prop} {Q : Int → zi_M → Prop} {g0 : zi_M} (hK97 : ∀ (g : zi_M), zk_I g → zk_fr (fr_DayRun_passDry r1) g0 g → (zDF r1 g0 g) → K97 g) (hQ : ∀ g' : zi_M, zk_I g' → zk_fr (fr_DayRun_passDry r1) g0 g' → (zDF r1 g0 g') → Q 0 g') : ∀ (n : Nat) {l4 : Int} {g : zi_M}, zk_I g → zk_fr (fr_DayRun_passDry r1) g0 g → (0 ≤ l4 ∧ l4 ≤ 10) → (l4 ≤ g0 r1 8) → (zDO r1 g0 g l4) → 10 - l4 < (n : Int) → w_DayRun_passDry_l3 r1 K97 Q n l4 g
  | 0, l4, g, I, F, b0, b1, b2, hm => by exfalso; omega
  | n + 1, l4, g, I, F, b0, b1, b2, hm => by
    unfold w_DayRun_passDry_l3
    have m_1 := zk_c10_8 hr1 I
    refine ⟨⟨by omega, by omega⟩, ⟨by omega, by omega⟩, ?_⟩
    refine ⟨fun c20 => ?_, fun c20 => ?_⟩
    · exact hK97 _ I F (by exact zDO_x (by assumption) (by have hf := (zDf_8 hr1 F).1; omega))
    · refine ⟨((8 - 0 : Int).toNat + 1), k_DayRun_passDry_l15 (l4 := l4) hr1 ⟨by omega, by omega⟩ (fun g15 I_10 F_11 b_12 b_13 => ?_) hQ ((8 - 0 : Int).toNat + 1) I F ⟨by omega, by omega⟩ (by have hz := zk_c10_11 hr1 I; have hf := (zDf_8 hr1 F).2; omega) (by first | assumption | (have hf := (zDf_8 hr1 F).1; omega)) (by first | exact zDI_0 (by assumption) | exact zDI_n hr1 (by assumption) (zDfr_d hr1 F) (by assumption) (by omega) (by assumption) (by omega) (by assumption) | exact zDI_y hr1 (by assumption) (zDfr_d hr1 F) (by assumption) (by assumption) (by omega) (by assumption) (by omega) (by assumption) (by assumption) (by assumption)) (by omega)⟩
      exact k_DayRun_passDry_b69 hr1 I_10 F_11 ⟨by omega, by omega⟩ (by assumption) (by assumption) (n : Int) (by omega) (fun _ _ I F b0 b1 b2 hm => k_DayRun_passDry_l3 hr1 hK97 hQ n I F b0 b1 b2 hm) hK97 hQ
set_option maxRecDepth 100000 in
set_option maxHeartbeats 4000000 in
theorem k_DayRun_passDry {r1 : Nat} (hr1 : zs_sh r1 = some (10, 20)) {g : zi_M} {Q : Int → zi_M → Prop} (I : zk_I g) (hQ : ∀ g' : zi_M, zk_I g' → zk_fr (fr_DayRun_passDry r1) g g' → (zDF r1 g g') → Q 0 g') : w_DayRun_passDry r1 g Q := by
  unfold w_DayRun_passDry
  refine ⟨((10 - 0 : Int).toNat + 1), k_DayRun_passDry_l3 hr1 (fun g21 I_18 F_19 b_20 => ?_) hQ ((10 - 0 : Int).toNat + 1) I (zk_f0 _) ⟨by omega, by omega⟩ (by first | omega | (have hz := zk_c10_8 hr1 I; omega)) (by first | exact zDO_0 | exact zDB_s hr1 (by assumption) (by assumption) (by assumption)) (by omega)⟩
  exact hQ _ I_18 F_19 (by assumption)
-- SpoutNews$DayRun.pass(LSpoutNews$World;LSpoutNews$Texts;LSpoutNews$Book;)V
set_option maxRecDepth 100000 in
set_option maxHeartbeats 4000000 in
theorem k_DayRun_pass_l3 {r1 : Nat} (hr1 : zs_sh r1 = some (10, 20)) {K57 : zi_M → Prop} {Q : Int → zi_M → Prop} {g0 : zi_M} (hK57 : ∀ (g : zi_M), zk_I g → zk_fr (fr_DayRun_pass r1) g0 g → (zPE r1 g0 g) → K57 g) (hQ : ∀ g' : zi_M, zk_I g' → zk_fr (fr_DayRun_pass r1) g0 g' → (zPD r1 g0 g') → Q 0 g') : ∀ (n : Nat) {l4 : Int} {g : zi_M}, zk_I g → zk_fr (fr_DayRun_pass r1) g0 g → (0 ≤ l4 ∧ l4 ≤ 16) → (l4 ≤ g0 19 10) → (zPp r1 l4 g0 g) → (zk_I g0) → 16 - l4 < (n : Int) → w_DayRun_pass_l3 r1 K57 Q n l4 g
  | 0, l4, g, I, F, b0, b1, b2, b3, hm => by exfalso; omega
  | n + 1, l4, g, I, F, b0, b1, b2, b3, hm => by
    unfold w_DayRun_pass_l3
    have m_1 : 0 ≤ (g 19 10) ∧ (g 19 10) ≤ 16 := I.1 19 10
    refine ⟨⟨by omega, by omega⟩, ⟨by omega, by omega⟩, ?_⟩
    refine ⟨fun c10 => ?_, fun c10 => ?_⟩
    · exact hK57 _ I F (by exact zPp_x b2 (by have hf := (zPfr_of hr1 F).1 19 10 (by omega); omega))
    · refine ⟨⟨by omega, by omega⟩, ?_⟩
      have m_2 : (-2147483648) ≤ (g 32 l4) ∧ (g 32 l4) ≤ 2147483647 := I.1 32 l4
      have m_3 := zk_c10_17 hr1 I
      refine ⟨⟨by omega, by omega⟩, ⟨by omega, by omega⟩, ?_⟩
      refine ⟨fun c9 => ?_, fun c9 => ?_⟩
      · exact k_DayRun_pass_l3 hr1 hK57 hQ n I F ⟨by omega, by omega⟩ (by first | omega | (have hf := (zPfr_of hr1 F).1 19 10 (by omega); omega) | (have hz := zk_r19 I; omega)) (by first | exact zPp_0 | exact zPp_n b2 (zPfr_of hr1 F) (by omega) (by assumption) | exact zPp_s hr1 b3 b2 (zPfr_of hr1 F) (by omega) (by assumption) (by assumption) (by assumption) (by assumption)) (by first | assumption) (by omega)
      · have m_4 : (-2147483648) ≤ (g 33 l4) ∧ (g 33 l4) ≤ 2147483647 := I.1 33 l4
        have m_5 : (-2147483648) ≤ (g 34 l4) ∧ (g 34 l4) ≤ 2147483647 := I.1 34 l4
        have m_6 : (-2147483648) ≤ (g 35 l4) ∧ (g 35 l4) ≤ 2147483647 := I.1 35 l4
        refine k_World_carryOut hr1 I ⟨by omega, by omega⟩ ⟨by omega, by omega⟩ ⟨by omega, by omega⟩ (fun g7 I_9 F_10 b_7 b_8 => ?_)
        have F_11 : zk_fr (fr_DayRun_pass r1) g0 g7 := zk_ft F F_10 (fun a i => (fun h => Or.elim h (fun h => (Or.inl h)) (fun h => Or.elim h (fun h => (Or.inr (Or.inl h))) (fun h => Or.elim h (fun h => (Or.inr (Or.inr (Or.inl h)))) (fun h => Or.elim h (fun h => (Or.inr (Or.inr (Or.inr (Or.inr (Or.inr (Or.inr (Or.inl h)))))))) (fun h => (Or.inr (Or.inr (Or.inr (Or.inr (Or.inr (Or.inr (Or.inr (Or.inl h))))))))))))))
        exact k_DayRun_pass_l3 hr1 hK57 hQ n I_9 F_11 ⟨by omega, by omega⟩ (by first | omega | (have hf := (zPfr_of hr1 F).1 19 10 (by omega); omega) | (have hz := zk_r19 I; omega)) (by first | exact zPp_0 | exact zPp_n b2 (zPfr_of hr1 F) (by omega) (by assumption) | exact zPp_s hr1 b3 b2 (zPfr_of hr1 F) (by omega) (by assumption) (by assumption) (by assumption) (by assumption)) (by first | assumption) (by omega)
set_option maxRecDepth 100000 in
set_option maxHeartbeats 4000000 in
theorem k_DayRun_pass_b79 {r1 : Nat} (hr1 : zs_sh r1 = some (10, 20)) {Q : Int → zi_M → Prop} {g : zi_M} {g0 : zi_M} (I : zk_I g) (F : zk_fr (fr_DayRun_pass r1) g0 g) (ix0 : zPr r1 g0 g) (hQ : ∀ g' : zi_M, zk_I g' → zk_fr (fr_DayRun_pass r1) g0 g' → (zPD r1 g0 g') → Q 0 g') : w_DayRun_pass_b79 r1 g Q := by
  unfold w_DayRun_pass_b79
  have m_19 := zk_c10_14 hr1 I
  refine ⟨⟨by omega, by omega⟩, ?_⟩
  refine ⟨fun c25 => ?_, fun c25 => ?_⟩
  · refine k_DayRun_passWet hr1 I (fun g18 I_21 F_22 b_20 => ?_)
    have F_23 : zk_fr (fr_DayRun_pass r1) g0 g18 := zk_ft F F_22 (fun a i => (fun h => Or.elim h (fun h => (Or.inr (Or.inl h))) (fun h => Or.elim h (fun h => (Or.inr (Or.inr (Or.inr (Or.inl h))))) (fun h => Or.elim h (fun h => (Or.inr (Or.inr (Or.inr (Or.inr (Or.inl h)))))) (fun h => Or.elim h (fun h => (Or.inr (Or.inr (Or.inr (Or.inr (Or.inr (Or.inl h))))))) (fun h => Or.elim h (fun h => (Or.inr (Or.inr (Or.inr (Or.inr (Or.inr (Or.inr (Or.inr (Or.inr (Or.inl h)))))))))) (fun h => Or.elim h (fun h => (Or.inr (Or.inr (Or.inr (Or.inr (Or.inr (Or.inr (Or.inr (Or.inr (Or.inr (Or.inl h))))))))))) (fun h => Or.elim h (fun h => (Or.inr (Or.inr (Or.inr (Or.inr (Or.inr (Or.inr (Or.inr (Or.inr (Or.inr (Or.inr (Or.inl h)))))))))))) (fun h => Or.elim h (fun h => (Or.inr (Or.inr (Or.inr (Or.inr (Or.inr (Or.inr (Or.inr (Or.inr (Or.inr (Or.inr (Or.inr (Or.inl h))))))))))))) (fun h => Or.elim h (fun h => (Or.inr (Or.inr (Or.inr (Or.inr (Or.inr (Or.inr (Or.inr (Or.inr (Or.inr (Or.inr (Or.inr (Or.inr (Or.inl h)))))))))))))) (fun h => Or.elim h (fun h => (Or.inr (Or.inr (Or.inr (Or.inr (Or.inr (Or.inr (Or.inr (Or.inr (Or.inr (Or.inr (Or.inr (Or.inr (Or.inr (Or.inl h))))))))))))))) (fun h => Or.elim h (fun h => (Or.inr (Or.inr (Or.inr (Or.inr (Or.inr (Or.inr (Or.inr (Or.inr (Or.inr (Or.inr (Or.inr (Or.inr (Or.inr (Or.inr (Or.inl h)))))))))))))))) (fun h => Or.elim h (fun h => (Or.inr (Or.inr (Or.inr (Or.inr (Or.inr (Or.inr (Or.inr (Or.inr (Or.inr (Or.inr (Or.inr (Or.inr (Or.inr (Or.inr (Or.inr (Or.inl h))))))))))))))))) (fun h => Or.elim h (fun h => (Or.inr (Or.inr (Or.inr (Or.inr (Or.inr (Or.inr (Or.inr (Or.inr (Or.inr (Or.inr (Or.inr (Or.inr (Or.inr (Or.inr (Or.inr (Or.inr (Or.inr (Or.inl h))))))))))))))))))) (fun h => Or.elim h (fun h => (Or.inr (Or.inr (Or.inr (Or.inr (Or.inr (Or.inr (Or.inr (Or.inr (Or.inr (Or.inr (Or.inr (Or.inr (Or.inr (Or.inr (Or.inr (Or.inr (Or.inr (Or.inr (Or.inl h)))))))))))))))))))) (fun h => Or.elim h (fun h => (Or.inr (Or.inr (Or.inr (Or.inr (Or.inr (Or.inr (Or.inr (Or.inr (Or.inr (Or.inr (Or.inr (Or.inr (Or.inr (Or.inr (Or.inr (Or.inr (Or.inr (Or.inr (Or.inr (Or.inr (Or.inl h)))))))))))))))))))))) (fun h => Or.elim h (fun h => (Or.inr (Or.inr (Or.inr (Or.inr (Or.inr (Or.inr (Or.inr (Or.inr (Or.inr (Or.inr (Or.inr (Or.inr (Or.inr (Or.inr (Or.inr (Or.inr (Or.inr (Or.inr (Or.inr (Or.inr (Or.inr (Or.inl h))))))))))))))))))))))) (fun h => (Or.inr (Or.inr (Or.inr (Or.inr (Or.inr (Or.inr (Or.inr (Or.inr (Or.inr (Or.inr (Or.inr (Or.inr (Or.inr (Or.inr (Or.inr (Or.inr (Or.inr (Or.inr (Or.inr (Or.inr (Or.inr (Or.inr h))))))))))))))))))))))))))))))))))))))))
    have m_27 := zk_c10_17 hr1 I_21
    have m_28 := zi_r_w ((g18 r1 17) + 1)
    intro g20 e_24
    have I_25 : zk_I g20 := by rw [e_24]; exact zk_upd (zk_lc10_17 hr1).1 (zk_lc10_17 hr1).2 I_21 ⟨by omega, by omega⟩ (zj_w10 hr1)
    have F_26 : zk_fr (fr_DayRun_pass r1) g0 g20 := by rw [e_24]; exact zk_fu F_23 (Or.inr (Or.inr (Or.inr (Or.inr (Or.inr (Or.inr (Or.inr (Or.inr (Or.inr (Or.inr (Or.inr (Or.inr (Or.inr (Or.inr (Or.inr (Or.inr (Or.inr (Or.inr (Or.inr (Or.inl ⟨rfl, rfl⟩))))))))))))))))))))
    exact hQ _ I_25 F_26 (by first | exact zPD_w hr1 ix0 (zPfr_of hr1 F) (by assumption) (by assumption) (by assumption) | exact zPD_d hr1 ix0 (zPfr_of hr1 F) (by assumption) (by assumption) (by assumption))
  · refine k_DayRun_passDry hr1 I (fun g22 I_30 F_31 b_29 => ?_)
    have F_32 : zk_fr (fr_DayRun_pass r1) g0 g22 := zk_ft F F_31 (fun a i => (fun h => Or.elim h (fun h => (Or.inr (Or.inr (Or.inr (Or.inl h))))) (fun h => Or.elim h (fun h => (Or.inr (Or.inr (Or.inr (Or.inr (Or.inl h)))))) (fun h => Or.elim h (fun h => (Or.inr (Or.inr (Or.inr (Or.inr (Or.inr (Or.inl h))))))) (fun h => Or.elim h (fun h => (Or.inr (Or.inr (Or.inr (Or.inr (Or.inr (Or.inr (Or.inr (Or.inr (Or.inl h)))))))))) (fun h => Or.elim h (fun h => (Or.inr (Or.inr (Or.inr (Or.inr (Or.inr (Or.inr (Or.inr (Or.inr (Or.inr (Or.inl h))))))))))) (fun h => Or.elim h (fun h => (Or.inr (Or.inr (Or.inr (Or.inr (Or.inr (Or.inr (Or.inr (Or.inr (Or.inr (Or.inr (Or.inl h)))))))))))) (fun h => Or.elim h (fun h => (Or.inr (Or.inr (Or.inr (Or.inr (Or.inr (Or.inr (Or.inr (Or.inr (Or.inr (Or.inr (Or.inr (Or.inr (Or.inr (Or.inl h))))))))))))))) (fun h => Or.elim h (fun h => (Or.inr (Or.inr (Or.inr (Or.inr (Or.inr (Or.inr (Or.inr (Or.inr (Or.inr (Or.inr (Or.inr (Or.inr (Or.inr (Or.inr (Or.inl h)))))))))))))))) (fun h => Or.elim h (fun h => (Or.inr (Or.inr (Or.inr (Or.inr (Or.inr (Or.inr (Or.inr (Or.inr (Or.inr (Or.inr (Or.inr (Or.inr (Or.inr (Or.inr (Or.inr (Or.inl h))))))))))))))))) (fun h => (Or.inr (Or.inr (Or.inr (Or.inr (Or.inr (Or.inr (Or.inr (Or.inr (Or.inr (Or.inr (Or.inr (Or.inr (Or.inr (Or.inr (Or.inr (Or.inr (Or.inr (Or.inr (Or.inr (Or.inr (Or.inr (Or.inl h)))))))))))))))))))))))))))))))))
    have m_36 := zk_c10_17 hr1 I_30
    have m_37 := zi_r_w ((g22 r1 17) + 1)
    intro g24 e_33
    have I_34 : zk_I g24 := by rw [e_33]; exact zk_upd (zk_lc10_17 hr1).1 (zk_lc10_17 hr1).2 I_30 ⟨by omega, by omega⟩ (zj_w10 hr1)
    have F_35 : zk_fr (fr_DayRun_pass r1) g0 g24 := by rw [e_33]; exact zk_fu F_32 (Or.inr (Or.inr (Or.inr (Or.inr (Or.inr (Or.inr (Or.inr (Or.inr (Or.inr (Or.inr (Or.inr (Or.inr (Or.inr (Or.inr (Or.inr (Or.inr (Or.inr (Or.inr (Or.inr (Or.inl ⟨rfl, rfl⟩))))))))))))))))))))
    exact hQ _ I_34 F_35 (by first | exact zPD_w hr1 ix0 (zPfr_of hr1 F) (by assumption) (by assumption) (by assumption) | exact zPD_d hr1 ix0 (zPfr_of hr1 F) (by assumption) (by assumption) (by assumption))
set_option maxRecDepth 100000 in
set_option maxHeartbeats 4000000 in
theorem k_DayRun_pass {r1 : Nat} (hr1 : zs_sh r1 = some (10, 20)) {g : zi_M} {Q : Int → zi_M → Prop} (I : zk_I g) (hQ : ∀ g' : zi_M, zk_I g' → zk_fr (fr_DayRun_pass r1) g g' → (zPD r1 g g') → Q 0 g') : w_DayRun_pass r1 g Q := by
  unfold w_DayRun_pass
  refine ⟨((16 - 0 : Int).toNat + 1), k_DayRun_pass_l3 hr1 (fun g11 I_12 F_13 b_14 => ?_) hQ ((16 - 0 : Int).toNat + 1) I (zk_f0 _) ⟨by omega, by omega⟩ (by first | omega | (have hf := (zPfr_of hr1 F).1 19 10 (by omega); omega) | (have hz := zk_r19 I; omega)) (by first | exact zPp_0 | exact zPp_n b2 (zPfr_of hr1 F) (by omega) (by assumption) | exact zPp_s hr1 b3 b2 (zPfr_of hr1 F) (by omega) (by assumption) (by assumption) (by assumption) (by assumption)) (by first | assumption) (by omega)⟩
  have m_15 := zk_c10_17 hr1 I_12
  have m_16 : 0 ≤ (g11 19 5) ∧ (g11 19 5) ≤ 16 := I_12.1 19 5
  refine k_Texts_rainOn I_12 ⟨by omega, by omega⟩ (fun v12 b_17 b_18 => ?_)
  refine ⟨⟨by omega, by omega⟩, ?_⟩
  refine ⟨fun c27 => ?_, fun c27 => ?_⟩
  · exact k_DayRun_pass_b79 hr1 I_12 F_13 (by first | exact zPr_n (by assumption) (zPfr_of hr1 (by assumption)) (by assumption) (by assumption) | exact zPr_y hr1 (by assumption) (zPfr_of hr1 (by assumption)) (by assumption) (by assumption) (by assumption)) hQ
  · intro g26 e_38
    have I_39 : zk_I g26 := by rw [e_38]; exact zk_upd (zk_lc10_14 hr1).1 (zk_lc10_14 hr1).2 I_12 ⟨by omega, by omega⟩ (zj_w10 hr1)
    have F_40 : zk_fr (fr_DayRun_pass r1) g g26 := by rw [e_38]; exact zk_fu F_13 (Or.inr (Or.inr (Or.inr (Or.inr (Or.inr (Or.inr (Or.inr (Or.inr (Or.inr (Or.inr (Or.inr (Or.inr (Or.inr (Or.inr (Or.inr (Or.inr (Or.inl ⟨rfl, rfl⟩)))))))))))))))))
    exact k_DayRun_pass_b79 hr1 I_39 F_40 (by first | exact zPr_n (by assumption) (zPfr_of hr1 (by assumption)) (by assumption) (by assumption) | exact zPr_y hr1 (by assumption) (zPfr_of hr1 (by assumption)) (by assumption) (by assumption) (by assumption)) hQ
-- SpoutNews.days(I)I
theorem zP_pass {g g' : zi_M} (F : zk_fr (fr_DayRun_pass 2) g g') (h : zP g) : zP g' := zP_eq (fun a i q => F a i (fun w => by unfold fr_DayRun_pass at w; unfold zPc at q; omega)) h

set_option maxRecDepth 100000 in
set_option maxHeartbeats 4000000 in
theorem k_S_days_b64 {l1 : Int} {l4 : Int} {H : Int → zi_M → Prop} {K92 : zi_M → Prop} {Q : Int → zi_M → Prop} {g : zi_M} {g0 : zi_M} (I : zk_I g) (F : zk_fr fr_S_days g0 g) (p1 : 1 ≤ l1 ∧ l1 ≤ 60) (p4 : 0 ≤ l4 ∧ l4 ≤ 59) (ix0 : zP g0 → zP g) (ix1 : l4 < l1) (ix2 : zDk l1 l4 g0 g) (M : Int) (hM : 60 - l4 ≤ M) (hH : ∀ (m4 : Int) (g : zi_M), zk_I g → zk_fr fr_S_days g0 g → (0 ≤ m4 ∧ m4 ≤ 60) → (zP g0 → zP g) → (m4 ≤ l1) → (zDc l1 m4 g0 g) → 60 - m4 < M → H m4 g) (hK92 : ∀ (g : zi_M), zk_I g → zk_fr fr_S_days g0 g → (zP g0 → zP g) → (zDF2 l1 g0 g) → K92 g) (hQ : ∀ (v : Int) (g' : zi_M), zk_I g' → zk_fr fr_S_days g0 g' → ((-2147483648) ≤ v ∧ v ≤ 2147483647) → (zP g0 → zP g') → ((1 ≤ l1 ∧ l1 ≤ 60 ∧ zi_w (g0 2 17 + l1) ≤ 9999) → zDF2 l1 g0 g') → ((1 ≤ l1 ∧ l1 ≤ 60 ∧ zi_w (g0 2 17 + l1) ≤ 9999) → v = zi_w (g' 2 15 - g0 2 15)) → (¬ (1 ≤ l1 ∧ l1 ≤ 60 ∧ zi_w (g0 2 17 + l1) ≤ 9999) → v = -1 ∧ g' = g0) → Q v g') : w_S_days_b64 l1 l4 g H K92 Q := by
  unfold w_S_days_b64
  refine k_DayRun_pass rfl I (fun g6 I_6 F_7 b_5 => ?_)
  have F_8 : zk_fr fr_S_days g0 g6 := zk_ft F F_7 (fun a i => (fun h => Or.elim h (fun h => (Or.inr (Or.inr (Or.inl h)))) (fun h => Or.elim h (fun h => (Or.inr (Or.inr (Or.inr (Or.inl h))))) (fun h => Or.elim h (fun h => (Or.inr (Or.inr (Or.inr (Or.inr (Or.inr (Or.inr (Or.inr (Or.inr (Or.inr (Or.inr (Or.inr (Or.inr (Or.inl h)))))))))))))) (fun h => Or.elim h (fun h => (Or.inr (Or.inr (Or.inr (Or.inr (Or.inr (Or.inr (Or.inr (Or.inr (Or.inr (Or.inr (Or.inr (Or.inr (Or.inr (Or.inl h))))))))))))))) (fun h => Or.elim h (fun h => (Or.inr (Or.inr (Or.inr (Or.inr (Or.inr (Or.inr (Or.inr (Or.inr (Or.inr (Or.inr (Or.inr (Or.inr (Or.inr (Or.inr (Or.inl h)))))))))))))))) (fun h => Or.elim h (fun h => (Or.inr (Or.inr (Or.inr (Or.inr (Or.inr (Or.inr (Or.inr (Or.inr (Or.inr (Or.inr (Or.inr (Or.inr (Or.inr (Or.inr (Or.inr (Or.inl h))))))))))))))))) (fun h => Or.elim h (fun h => (Or.inl h)) (fun h => Or.elim h (fun h => (Or.inr (Or.inl h))) (fun h => Or.elim h (fun h => (Or.inr (Or.inr (Or.inr (Or.inr (Or.inl h)))))) (fun h => Or.elim h (fun h => (Or.inr (Or.inr (Or.inr (Or.inr (Or.inr (Or.inl h))))))) (fun h => Or.elim h (fun h => (Or.inr (Or.inr (Or.inr (Or.inr (Or.inr (Or.inr (Or.inl h)))))))) (fun h => Or.elim h (fun h => (Or.inr (Or.inr (Or.inr (Or.inr (Or.inr (Or.inr (Or.inr (Or.inl h))))))))) (fun h => Or.elim h (fun h => (Or.inr (Or.inr (Or.inr (Or.inr (Or.inr (Or.inr (Or.inr (Or.inr (Or.inl h)))))))))) (fun h => Or.elim h (fun h => (Or.inr (Or.inr (Or.inr (Or.inr (Or.inr (Or.inr (Or.inr (Or.inr (Or.inr (Or.inl h))))))))))) (fun h => Or.elim h (fun h => (Or.inr (Or.inr (Or.inr (Or.inr (Or.inr (Or.inr (Or.inr (Or.inr (Or.inr (Or.inr (Or.inl h)))))))))))) (fun h => Or.elim h (fun h => (Or.inr (Or.inr (Or.inr (Or.inr (Or.inr (Or.inr (Or.inr (Or.inr (Or.inr (Or.inr (Or.inr (Or.inl h))))))))))))) (fun h => Or.elim h (fun h => (Or.inr (Or.inr (Or.inr (Or.inr (Or.inr (Or.inr (Or.inr (Or.inr (Or.inr (Or.inr (Or.inr (Or.inr (Or.inr (Or.inr (Or.inr (Or.inr (Or.inr (Or.inl h))))))))))))))))))) (fun h => Or.elim h (fun h => (Or.inr (Or.inr (Or.inr (Or.inr (Or.inr (Or.inr (Or.inr (Or.inr (Or.inr (Or.inr (Or.inr (Or.inr (Or.inr (Or.inr (Or.inr (Or.inr (Or.inr (Or.inr (Or.inl h)))))))))))))))))))) (fun h => Or.elim h (fun h => (Or.inr (Or.inr (Or.inr (Or.inr (Or.inr (Or.inr (Or.inr (Or.inr (Or.inr (Or.inr (Or.inr (Or.inr (Or.inr (Or.inr (Or.inr (Or.inr (Or.inr (Or.inr (Or.inr (Or.inl h))))))))))))))))))))) (fun h => Or.elim h (fun h => (Or.inr (Or.inr (Or.inr (Or.inr (Or.inr (Or.inr (Or.inr (Or.inr (Or.inr (Or.inr (Or.inr (Or.inr (Or.inr (Or.inr (Or.inr (Or.inr (Or.inr (Or.inr (Or.inr (Or.inr (Or.inl h)))))))))))))))))))))) (fun h => Or.elim h (fun h => (Or.inr (Or.inr (Or.inr (Or.inr (Or.inr (Or.inr (Or.inr (Or.inr (Or.inr (Or.inr (Or.inr (Or.inr (Or.inr (Or.inr (Or.inr (Or.inr (Or.inr (Or.inr (Or.inr (Or.inr (Or.inr (Or.inl h))))))))))))))))))))))) (fun h => Or.elim h (fun h => (Or.inr (Or.inr (Or.inr (Or.inr (Or.inr (Or.inr (Or.inr (Or.inr (Or.inr (Or.inr (Or.inr (Or.inr (Or.inr (Or.inr (Or.inr (Or.inr (Or.inr (Or.inr (Or.inr (Or.inr (Or.inr (Or.inr (Or.inl h)))))))))))))))))))))))) (fun h => (Or.inr (Or.inr (Or.inr (Or.inr (Or.inr (Or.inr (Or.inr (Or.inr (Or.inr (Or.inr (Or.inr (Or.inr (Or.inr (Or.inr (Or.inr (Or.inr (Or.inl h)))))))))))))))))))))))))))))))))))))))))
  exact hH _ _ I_6 F_8 ⟨by omega, by omega⟩ (by intro hz; repeat first | exact hz | refine zP_act (by assumption) ?_ | refine zP_pass (by assumption) ?_ | refine zP_mp (by assumption) ?_) (by omega) (by first | exact zDc_s ix2 (zDfr2_of F) (by assumption) (by assumption) (by omega) | exact zDc_0 I) (by omega)
set_option maxRecDepth 100000 in
set_option maxHeartbeats 4000000 in
theorem k_S_days_l41 {l1 : Int} {K92 : zi_M → Prop} {Q : Int → zi_M → Prop} {g0 : zi_M} (q1 : 1 ≤ l1 ∧ l1 ≤ 60) (hK92 : ∀ (g : zi_M), zk_I g → zk_fr fr_S_days g0 g → (zP g0 → zP g) → (zDF2 l1 g0 g) → K92 g) (hQ : ∀ (v : Int) (g' : zi_M), zk_I g' → zk_fr fr_S_days g0 g' → ((-2147483648) ≤ v ∧ v ≤ 2147483647) → (zP g0 → zP g') → ((1 ≤ l1 ∧ l1 ≤ 60 ∧ zi_w (g0 2 17 + l1) ≤ 9999) → zDF2 l1 g0 g') → ((1 ≤ l1 ∧ l1 ≤ 60 ∧ zi_w (g0 2 17 + l1) ≤ 9999) → v = zi_w (g' 2 15 - g0 2 15)) → (¬ (1 ≤ l1 ∧ l1 ≤ 60 ∧ zi_w (g0 2 17 + l1) ≤ 9999) → v = -1 ∧ g' = g0) → Q v g') : ∀ (n : Nat) {l4 : Int} {g : zi_M}, zk_I g → zk_fr fr_S_days g0 g → (0 ≤ l4 ∧ l4 ≤ 60) → (zP g0 → zP g) → (l4 ≤ l1) → (zDc l1 l4 g0 g) → 60 - l4 < (n : Int) → w_S_days_l41 l1 K92 Q n l4 g
  | 0, l4, g, I, F, b0, b1, b2, b3, hm => by exfalso; omega
  | n + 1, l4, g, I, F, b0, b1, b2, b3, hm => by
    unfold w_S_days_l41
    refine ⟨⟨by omega, by omega⟩, ⟨by omega, by omega⟩, ?_⟩
    refine ⟨fun c12 => ?_, fun c12 => ?_⟩
    · exact hK92 _ I F (by assumption) (by exact zDc_x (by assumption) (by omega))
    · refine ⟨⟨by omega, by omega⟩, ?_⟩
      refine ⟨fun c11 => ?_, fun c11 => ?_⟩
      · exact k_S_days_b64 I F ⟨by omega, by omega⟩ ⟨by omega, by omega⟩ (by intro hz; repeat first | exact hz | refine zP_act (by assumption) ?_ | refine zP_pass (by assumption) ?_ | refine zP_mp (by assumption) ?_) (by omega) (by first | exact zDk_n (by assumption) (by omega) (by omega) | exact zDk_y (by assumption) I (by assumption) (by assumption) (by omega) (by omega) (by omega)) (n : Int) (by omega) (fun _ _ I F b0 b1 b2 b3 hm => k_S_days_l41 q1 hK92 hQ n I F b0 b1 b2 b3 hm) hK92 hQ
      · refine k_Past_keep I (fun g9 I_12 F_13 b_9 b_10 b_11 => ?_)
        have F_14 : zk_fr fr_S_days g0 g9 := zk_ft F F_13 (fun a i => (fun h => Or.elim h (fun h => (Or.inr (Or.inr (Or.inr (Or.inr (Or.inr (Or.inr (Or.inr (Or.inr (Or.inr (Or.inr (Or.inr (Or.inr (Or.inr (Or.inr (Or.inr (Or.inr (Or.inr (Or.inr (Or.inr (Or.inr (Or.inr (Or.inr (Or.inr (Or.inl h))))))))))))))))))))))))) (fun h => Or.elim h (fun h => (Or.inr (Or.inr (Or.inr (Or.inr (Or.inr (Or.inr (Or.inr (Or.inr (Or.inr (Or.inr (Or.inr (Or.inr (Or.inr (Or.inr (Or.inr (Or.inr (Or.inr (Or.inr (Or.inr (Or.inr (Or.inr (Or.inr (Or.inr (Or.inr (Or.inl h)))))))))))))))))))))))))) (fun h => (Or.inr (Or.inr (Or.inr (Or.inr (Or.inr (Or.inr (Or.inr (Or.inr (Or.inr (Or.inr (Or.inr (Or.inr (Or.inr (Or.inr (Or.inr (Or.inr (Or.inr (Or.inr (Or.inr (Or.inr (Or.inr (Or.inr (Or.inr (Or.inr (Or.inr h)))))))))))))))))))))))))))))
        exact k_S_days_b64 I_12 F_14 ⟨by omega, by omega⟩ ⟨by omega, by omega⟩ (by intro hz; repeat first | exact hz | refine zP_act (by assumption) ?_ | refine zP_pass (by assumption) ?_ | refine zP_mp (by assumption) ?_) (by omega) (by first | exact zDk_n (by assumption) (by omega) (by omega) | exact zDk_y (by assumption) I (by assumption) (by assumption) (by omega) (by omega) (by omega)) (n : Int) (by omega) (fun _ _ I F b0 b1 b2 b3 hm => k_S_days_l41 q1 hK92 hQ n I F b0 b1 b2 b3 hm) hK92 hQ
set_option maxRecDepth 100000 in
set_option maxHeartbeats 4000000 in
theorem k_S_days {l1 : Int} {g : zi_M} {Q : Int → zi_M → Prop} (I : zk_I g) (p1 : (-2147483648) ≤ l1 ∧ l1 ≤ 2147483647) (hQ : ∀ (v : Int) (g' : zi_M), zk_I g' → zk_fr fr_S_days g g' → ((-2147483648) ≤ v ∧ v ≤ 2147483647) → (zP g → zP g') → ((1 ≤ l1 ∧ l1 ≤ 60 ∧ zi_w (g 2 17 + l1) ≤ 9999) → zDF2 l1 g g') → ((1 ≤ l1 ∧ l1 ≤ 60 ∧ zi_w (g 2 17 + l1) ≤ 9999) → v = zi_w (g' 2 15 - g 2 15)) → (¬ (1 ≤ l1 ∧ l1 ≤ 60 ∧ zi_w (g 2 17 + l1) ≤ 9999) → v = -1 ∧ g' = g) → Q v g') : w_S_days l1 g Q := by
  unfold w_S_days
  refine ⟨⟨by omega, by omega⟩, ?_⟩
  refine ⟨fun c17 => ?_, fun c17 => ?_⟩
  · have m_1 : (-2147483648) ≤ (g 2 15) ∧ (g 2 15) ≤ 2147483647 := I.1 2 15
    exact hQ _ _ I (zk_f0 _) ⟨by omega, by omega⟩ (by intro hz; repeat first | exact hz | refine zP_act (by assumption) ?_ | refine zP_pass (by assumption) ?_ | refine zP_mp (by assumption) ?_) (by first | (intro hx; assumption) | (intro hx; exfalso; omega)) (by first | (intro hx; exfalso; omega) | (intro hx; rfl)) (by first | (intro hx; exfalso; omega) | exact fun _ => ⟨rfl, rfl⟩)
  · refine ⟨fun c16 => ?_, fun c16 => ?_⟩
    · have m_2 : (-2147483648) ≤ (g 2 15) ∧ (g 2 15) ≤ 2147483647 := I.1 2 15
      exact hQ _ _ I (zk_f0 _) ⟨by omega, by omega⟩ (by intro hz; repeat first | exact hz | refine zP_act (by assumption) ?_ | refine zP_pass (by assumption) ?_ | refine zP_mp (by assumption) ?_) (by first | (intro hx; assumption) | (intro hx; exfalso; omega)) (by first | (intro hx; exfalso; omega) | (intro hx; rfl)) (by first | (intro hx; exfalso; omega) | exact fun _ => ⟨rfl, rfl⟩)
    · have m_3 : (-2147483648) ≤ (g 2 17) ∧ (g 2 17) ≤ 2147483647 := I.1 2 17
      have m_4 := zi_r_w ((g 2 17) + l1)
      refine ⟨fun c15 => ?_, fun c15 => ?_⟩
      · refine ⟨((60 - 0 : Int).toNat + 1), k_S_days_l41 (l1 := l1) ⟨by omega, by omega⟩ (fun g13 I_15 F_16 b_17 b_18 => ?_) hQ ((60 - 0 : Int).toNat + 1) I (zk_f0 _) ⟨by omega, by omega⟩ (by intro hz; repeat first | exact hz | refine zP_act (by assumption) ?_ | refine zP_pass (by assumption) ?_ | refine zP_mp (by assumption) ?_) (by omega) (by first | exact zDc_s ix2 (zDfr2_of F) (by assumption) (by assumption) (by omega) | exact zDc_0 I) (by omega)⟩
        have m_19 : (-2147483648) ≤ (g13 2 15) ∧ (g13 2 15) ≤ 2147483647 := I_15.1 2 15
        have m_20 : (-2147483648) ≤ (g 2 15) ∧ (g 2 15) ≤ 2147483647 := I.1 2 15
        have m_21 := zi_r_w ((g13 2 15) - (g 2 15))
        exact hQ _ _ I_15 F_16 ⟨by omega, by omega⟩ (by intro hz; repeat first | exact hz | refine zP_act (by assumption) ?_ | refine zP_pass (by assumption) ?_ | refine zP_mp (by assumption) ?_) (by first | (intro hx; assumption) | (intro hx; exfalso; omega)) (by first | (intro hx; exfalso; omega) | (intro hx; rfl)) (by first | (intro hx; exfalso; omega) | exact fun _ => ⟨rfl, rfl⟩)
      · have m_22 : (-2147483648) ≤ (g 2 15) ∧ (g 2 15) ≤ 2147483647 := I.1 2 15
        exact hQ _ _ I (zk_f0 _) ⟨by omega, by omega⟩ (by intro hz; repeat first | exact hz | refine zP_act (by assumption) ?_ | refine zP_pass (by assumption) ?_ | refine zP_mp (by assumption) ?_) (by first | (intro hx; assumption) | (intro hx; exfalso; omega)) (by first | (intro hx; exfalso; omega) | (intro hx; rfl)) (by first | (intro hx; exfalso; omega) | exact fun _ => ⟨rfl, rfl⟩)
-- SpoutNewsModel.weatherOf(I)I
set_option maxRecDepth 100000 in
set_option maxHeartbeats 4000000 in
theorem k_M_weatherOf_l2 {g : zi_M} (I : zk_I g) {l1 : Int} {K22 : Int → zi_M → Prop} {K39 : zi_M → Prop} {Q : Int → zi_M → Prop} (q1 : (-2147483648) ≤ l1 ∧ l1 ≤ 2147483647) (hK22 : ∀ (k2 : Int), (0 ≤ k2 ∧ k2 ≤ 15) → (k2 < g 214 37) → (g 233 (2 * k2) = l1) → (zQn g (k2) l1) → K22 k2 g) (hK39 : (zQn g (g 214 37) l1) → K39 g) (hQ : ∀ v : Int, ((-2147483648) ≤ v ∧ v ≤ 2147483647) → (zQw g l1 v) → Q v g) : ∀ (n : Nat) {l2 : Int}, (0 ≤ l2 ∧ l2 ≤ 16) → (zQn g (l2) l1) → 16 - l2 < (n : Int) → w_M_weatherOf_l2 l1 K22 K39 Q n l2 g
  | 0, l2, b0, b1, hm => by exfalso; omega
  | n + 1, l2, b0, b1, hm => by
    unfold w_M_weatherOf_l2
    have m_1 : 0 ≤ (g 214 37) ∧ (g 214 37) ≤ 16 := I.1 214 37
    refine ⟨⟨by omega, by omega⟩, ⟨by omega, by omega⟩, ?_⟩
    refine ⟨fun c7 => ?_, fun c7 => ?_⟩
    · exact hK39 (by exact fun k h0 h1 => b1 k h0 (by omega))
    · refine ⟨⟨by omega, by omega⟩, ?_⟩
      have m_2 : (-2147483648) ≤ (g 233 (2 * l2)) ∧ (g 233 (2 * l2)) ≤ 2147483647 := I.1 233 (2 * l2)
      refine ⟨⟨by omega, by omega⟩, ⟨by omega, by omega⟩, ?_⟩
      refine ⟨fun c6 => ?_, fun c6 => ?_⟩
      · exact k_M_weatherOf_l2 I q1 hK22 hK39 hQ n ⟨by omega, by omega⟩ (by first | exact zQn_s b1 (by omega) | exact zQn_0) (by omega)
      · exact hK22 _ ⟨by omega, by omega⟩ (by omega) (by omega) (by assumption)
set_option maxRecDepth 100000 in
set_option maxHeartbeats 4000000 in
theorem k_M_weatherOf {l1 : Int} {g : zi_M} {Q : Int → zi_M → Prop} (I : zk_I g) (p1 : (-2147483648) ≤ l1 ∧ l1 ≤ 2147483647) (hQ : ∀ v : Int, ((-2147483648) ≤ v ∧ v ≤ 2147483647) → (zQw g l1 v) → Q v g) : w_M_weatherOf l1 g Q := by
  unfold w_M_weatherOf
  refine ⟨((16 - 0 : Int).toNat + 1), k_M_weatherOf_l2 (l1 := l1) I ⟨by omega, by omega⟩ (fun k8 b_3 b_4 b_5 b_6 => ?_) (fun b_8 => ?_) hQ ((16 - 0 : Int).toNat + 1) ⟨by omega, by omega⟩ (by first | exact zQn_s b1 (by omega) | exact zQn_0) (by omega)⟩
  · refine ⟨⟨by omega, by omega⟩, ?_⟩
    have m_7 : (-2147483648) ≤ (g 233 ((2 * k8) + 1)) ∧ (g 233 ((2 * k8) + 1)) ≤ 2147483647 := I.1 233 ((2 * k8) + 1)
    exact hQ _ ⟨by omega, by omega⟩ (by first | exact zWo_a (by omega) (by omega) (by assumption) (by assumption) | exact zWo_b (by assumption) | assumption)
  · exact hQ _ ⟨by omega, by omega⟩ (by first | exact zWo_a (by omega) (by omega) (by assumption) (by assumption) | exact zWo_b (by assumption) | assumption)
-- SpoutNewsModel.asks(II)V
set_option maxRecDepth 100000 in
set_option maxHeartbeats 4000000 in
theorem k_M_asks {l1 : Int} {l2 : Int} {g : zi_M} {Q : Int → zi_M → Prop} (I : zk_I g) (p1 : 0 ≤ l1 ∧ l1 ≤ 9) (p2 : 0 ≤ l2 ∧ l2 ≤ 15) (hQ : ∀ g' : zi_M, zk_I g' → zk_fr fr_M_asks g g' → (∀ T n : Int, 0 ≤ n → n < 9 → g' 235 n = zfct (g 218) (g 219) (g 220) (zVM T g) l1 l2 n) → Q 0 g') : w_M_asks l1 l2 g Q := by
  unfold w_M_asks
  refine ⟨⟨by omega, by omega⟩, ?_⟩
  have m_4 : 0 ≤ (g 218 l1) ∧ (g 218 l1) ≤ 5 := I.1 218 l1
  intro g2 e_1
  have I_2 : zk_I g2 := by rw [e_1]; exact zk_upd (L := (-2147483648)) (H := 2147483647) rfl rfl I ⟨by omega, by omega⟩
  have F_3 : zk_fr fr_M_asks g g2 := by rw [e_1]; exact zk_fu (zk_f0 _) rfl
  have m_8 : 0 ≤ (g2 219 l1) ∧ (g2 219 l1) ≤ 3 := I_2.1 219 l1
  have m_9 : g2 219 l1 = g 219 l1 := by rw [e_1]; exact zi_u_ne (by decide)
  have m_10 : 0 ≤ (g 219 l1) ∧ (g 219 l1) ≤ 3 := I.1 219 l1
  intro g3 e_5
  have I_6 : zk_I g3 := by rw [e_5]; exact zk_upd (L := (-2147483648)) (H := 2147483647) rfl rfl I_2 ⟨by omega, by omega⟩
  have F_7 : zk_fr fr_M_asks g g3 := by rw [e_5]; exact zk_fu F_3 rfl
  have m_14 : 0 ≤ (g3 220 l1) ∧ (g3 220 l1) ≤ 99 := I_6.1 220 l1
  have m_15 : g3 220 l1 = g2 220 l1 := by rw [e_5]; exact zi_u_ne (by decide)
  have m_16 : 0 ≤ (g2 220 l1) ∧ (g2 220 l1) ≤ 99 := I_2.1 220 l1
  have m_17 : g2 220 l1 = g 220 l1 := by rw [e_1]; exact zi_u_ne (by decide)
  have m_18 : 0 ≤ (g 220 l1) ∧ (g 220 l1) ≤ 99 := I.1 220 l1
  intro g4 e_11
  have I_12 : zk_I g4 := by rw [e_11]; exact zk_upd (L := (-2147483648)) (H := 2147483647) rfl rfl I_6 ⟨by omega, by omega⟩
  have F_13 : zk_fr fr_M_asks g g4 := by rw [e_11]; exact zk_fu F_7 rfl
  refine ⟨⟨by omega, by omega⟩, ?_⟩
  have m_22 := zk_now6 I_12 (i := (6 + l1)) (by omega)
  have m_23 : g4 215 (6 + l1) = g3 215 (6 + l1) := by rw [e_11]; exact zi_u_ne (by decide)
  have m_24 := zk_now6 I_6 (i := (6 + l1)) (by omega)
  have m_25 : g3 215 (6 + l1) = g2 215 (6 + l1) := by rw [e_5]; exact zi_u_ne (by decide)
  have m_26 := zk_now6 I_2 (i := (6 + l1)) (by omega)
  have m_27 : g2 215 (6 + l1) = g 215 (6 + l1) := by rw [e_1]; exact zi_u_ne (by decide)
  have m_28 := zk_now6 I (i := (6 + l1)) (by omega)
  intro g6 e_19
  have I_20 : zk_I g6 := by rw [e_19]; exact zk_upd (L := (-2147483648)) (H := 2147483647) rfl rfl I_12 ⟨by omega, by omega⟩
  have F_21 : zk_fr fr_M_asks g g6 := by rw [e_19]; exact zk_fu F_13 rfl
  have m_32 := zk_rng I_20 215 3
  have m_33 : g6 215 3 = g4 215 3 := by rw [e_19]; exact zi_u_ne (by decide)
  have m_34 := zk_rng I_12 215 3
  have m_35 : g4 215 3 = g3 215 3 := by rw [e_11]; exact zi_u_ne (by decide)
  have m_36 := zk_rng I_6 215 3
  have m_37 : g3 215 3 = g2 215 3 := by rw [e_5]; exact zi_u_ne (by decide)
  have m_38 := zk_rng I_2 215 3
  have m_39 : g2 215 3 = g 215 3 := by rw [e_1]; exact zi_u_ne (by decide)
  have m_40 := zk_rng I 215 3
  intro g7 e_29
  have I_30 : zk_I g7 := by rw [e_29]; exact zk_upd (L := (-2147483648)) (H := 2147483647) rfl rfl I_20 ⟨by omega, by omega⟩
  have F_31 : zk_fr fr_M_asks g g7 := by rw [e_29]; exact zk_fu F_21 rfl
  refine ⟨⟨by omega, by omega⟩, ?_⟩
  have m_44 := zk_now26 I_30 (i := (26 + l1)) (by omega)
  have m_45 : g7 215 (26 + l1) = g6 215 (26 + l1) := by rw [e_29]; exact zi_u_ne (by decide)
  have m_46 := zk_now26 I_20 (i := (26 + l1)) (by omega)
  have m_47 : g6 215 (26 + l1) = g4 215 (26 + l1) := by rw [e_19]; exact zi_u_ne (by decide)
  have m_48 := zk_now26 I_12 (i := (26 + l1)) (by omega)
  have m_49 : g4 215 (26 + l1) = g3 215 (26 + l1) := by rw [e_11]; exact zi_u_ne (by decide)
  have m_50 := zk_now26 I_6 (i := (26 + l1)) (by omega)
  have m_51 : g3 215 (26 + l1) = g2 215 (26 + l1) := by rw [e_5]; exact zi_u_ne (by decide)
  have m_52 := zk_now26 I_2 (i := (26 + l1)) (by omega)
  have m_53 : g2 215 (26 + l1) = g 215 (26 + l1) := by rw [e_1]; exact zi_u_ne (by decide)
  have m_54 := zk_now26 I (i := (26 + l1)) (by omega)
  intro g9 e_41
  have I_42 : zk_I g9 := by rw [e_41]; exact zk_upd (L := (-2147483648)) (H := 2147483647) rfl rfl I_30 ⟨by omega, by omega⟩
  have F_43 : zk_fr fr_M_asks g g9 := by rw [e_41]; exact zk_fu F_31 rfl
  refine ⟨⟨by omega, by omega⟩, ?_⟩
  have m_58 := zk_now16 I_42 (i := (16 + l1)) (by omega)
  have m_59 : g9 215 (16 + l1) = g7 215 (16 + l1) := by rw [e_41]; exact zi_u_ne (by decide)
  have m_60 := zk_now16 I_30 (i := (16 + l1)) (by omega)
  have m_61 : g7 215 (16 + l1) = g6 215 (16 + l1) := by rw [e_29]; exact zi_u_ne (by decide)
  have m_62 := zk_now16 I_20 (i := (16 + l1)) (by omega)
  have m_63 : g6 215 (16 + l1) = g4 215 (16 + l1) := by rw [e_19]; exact zi_u_ne (by decide)
  have m_64 := zk_now16 I_12 (i := (16 + l1)) (by omega)
  have m_65 : g4 215 (16 + l1) = g3 215 (16 + l1) := by rw [e_11]; exact zi_u_ne (by decide)
  have m_66 := zk_now16 I_6 (i := (16 + l1)) (by omega)
  have m_67 : g3 215 (16 + l1) = g2 215 (16 + l1) := by rw [e_5]; exact zi_u_ne (by decide)
  have m_68 := zk_now16 I_2 (i := (16 + l1)) (by omega)
  have m_69 : g2 215 (16 + l1) = g 215 (16 + l1) := by rw [e_1]; exact zi_u_ne (by decide)
  have m_70 := zk_now16 I (i := (16 + l1)) (by omega)
  intro g11 e_55
  have I_56 : zk_I g11 := by rw [e_55]; exact zk_upd (L := (-2147483648)) (H := 2147483647) rfl rfl I_42 ⟨by omega, by omega⟩
  have F_57 : zk_fr fr_M_asks g g11 := by rw [e_55]; exact zk_fu F_43 rfl
  intro g12 e_71
  have I_72 : zk_I g12 := by rw [e_71]; exact zk_upd (L := (-2147483648)) (H := 2147483647) rfl rfl I_56 ⟨by omega, by omega⟩
  have F_73 : zk_fr fr_M_asks g g12 := by rw [e_71]; exact zk_fu F_57 rfl
  have m_77 := zk_rng I_72 215 0
  have m_78 : g12 215 0 = g11 215 0 := by rw [e_71]; exact zi_u_ne (by decide)
  have m_79 := zk_rng I_56 215 0
  have m_80 : g11 215 0 = g9 215 0 := by rw [e_55]; exact zi_u_ne (by decide)
  have m_81 := zk_rng I_42 215 0
  have m_82 : g9 215 0 = g7 215 0 := by rw [e_41]; exact zi_u_ne (by decide)
  have m_83 := zk_rng I_30 215 0
  have m_84 : g7 215 0 = g6 215 0 := by rw [e_29]; exact zi_u_ne (by decide)
  have m_85 := zk_rng I_20 215 0
  have m_86 : g6 215 0 = g4 215 0 := by rw [e_19]; exact zi_u_ne (by decide)
  have m_87 := zk_rng I_12 215 0
  have m_88 : g4 215 0 = g3 215 0 := by rw [e_11]; exact zi_u_ne (by decide)
  have m_89 := zk_rng I_6 215 0
  have m_90 : g3 215 0 = g2 215 0 := by rw [e_5]; exact zi_u_ne (by decide)
  have m_91 := zk_rng I_2 215 0
  have m_92 : g2 215 0 = g 215 0 := by rw [e_1]; exact zi_u_ne (by decide)
  have m_93 := zk_rng I 215 0
  intro g13 e_74
  have I_75 : zk_I g13 := by rw [e_74]; exact zk_upd (L := (-2147483648)) (H := 2147483647) rfl rfl I_72 ⟨by omega, by omega⟩
  have F_76 : zk_fr fr_M_asks g g13 := by rw [e_74]; exact zk_fu F_73 rfl
  exact hQ _ I_75 F_76 (by exact zfm_of (by assumption) (by assumption) (by assumption) (by assumption) (by assumption) (by assumption) (by assumption) (by assumption) (by assumption) (by assumption))
-- SpoutNewsModel.twoOf(III)I
set_option maxRecDepth 100000 in
set_option maxHeartbeats 4000000 in
theorem k_M_twoOf {l1 : Int} {l2 : Int} {l3 : Int} {g : zi_M} {Q : Int → zi_M → Prop} (I : zk_I g) (p1 : (-2147483648) ≤ l1 ∧ l1 ≤ 2147483647) (p2 : (-2147483648) ≤ l2 ∧ l2 ≤ 2147483647) (p3 : (-2147483648) ≤ l3 ∧ l3 ≤ 2147483647) (px0 : l1 = 5 → 1 ≤ l3) (hQ : ∀ v : Int, ((-2147483648) ≤ v ∧ v ≤ 2147483647) → (v = zto l1 l2 l3) → Q v g) : w_M_twoOf l1 l2 l3 g Q := by
  unfold w_M_twoOf
  refine ⟨⟨by omega, by omega⟩, ?_⟩
  refine ⟨fun c22 => ?_, fun c22 => ?_⟩
  · refine ⟨fun c21 => ?_, fun c21 => ?_⟩
    · refine ⟨fun c20 => ?_, fun c20 => ?_⟩
      · refine ⟨fun c19 => ?_, fun c19 => ?_⟩
        · refine ⟨fun c15 => ?_, fun c15 => ?_⟩
          · refine ⟨fun c11 => ?_, fun c11 => ?_⟩
            · refine ⟨fun c7 => ?_, fun c7 => ?_⟩
              · refine ⟨fun c3 => ?_, fun c3 => ?_⟩
                · have m_1 := zi_r_w (l2 + l3)
                  refine ⟨fun c2 => ?_, fun c2 => ?_⟩
                  · exact hQ _ ⟨by omega, by omega⟩ (by unfold zto; repeat (first | rw [if_pos (by omega)] | rw [if_neg (by omega)]))
                  · exact hQ _ ⟨by omega, by omega⟩ (by unfold zto; repeat (first | rw [if_pos (by omega)] | rw [if_neg (by omega)]))
                · have m_2 := zi_r_w (l2 * l3)
                  exact hQ _ ⟨by omega, by omega⟩ (by unfold zto; repeat (first | rw [if_pos (by omega)] | rw [if_neg (by omega)]))
              · refine ⟨⟨by omega, by omega⟩, ⟨by omega, by omega⟩, ?_⟩
                refine ⟨fun c6 => ?_, fun c6 => ?_⟩
                · exact hQ _ ⟨by omega, by omega⟩ (by unfold zto; repeat (first | rw [if_pos (by omega)] | rw [if_neg (by omega)]))
                · exact hQ _ ⟨by omega, by omega⟩ (by unfold zto; repeat (first | rw [if_pos (by omega)] | rw [if_neg (by omega)]))
            · refine ⟨⟨by omega, by omega⟩, ⟨by omega, by omega⟩, ?_⟩
              refine ⟨fun c10 => ?_, fun c10 => ?_⟩
              · exact hQ _ ⟨by omega, by omega⟩ (by unfold zto; repeat (first | rw [if_pos (by omega)] | rw [if_neg (by omega)]))
              · exact hQ _ ⟨by omega, by omega⟩ (by unfold zto; repeat (first | rw [if_pos (by omega)] | rw [if_neg (by omega)]))
          · refine ⟨⟨by omega, by omega⟩, ⟨by omega, by omega⟩, ?_⟩
            refine ⟨fun c14 => ?_, fun c14 => ?_⟩
            · exact hQ _ ⟨by omega, by omega⟩ (by unfold zto; repeat (first | rw [if_pos (by omega)] | rw [if_neg (by omega)]))
            · exact hQ _ ⟨by omega, by omega⟩ (by unfold zto; repeat (first | rw [if_pos (by omega)] | rw [if_neg (by omega)]))
        · refine ⟨⟨by omega, by omega⟩, ⟨by omega, by omega⟩, (by omega), ?_⟩
          have m_3 := zi_tdiv_f l2 l3
          exact hQ _ ⟨by omega, by omega⟩ (by unfold zto; repeat (first | rw [if_pos (by omega)] | rw [if_neg (by omega)]))
      · have m_4 := zi_r_w (l2 * l3)
        exact hQ _ ⟨by omega, by omega⟩ (by unfold zto; repeat (first | rw [if_pos (by omega)] | rw [if_neg (by omega)]))
    · have m_5 := zi_r_w (l2 - l3)
      exact hQ _ ⟨by omega, by omega⟩ (by unfold zto; repeat (first | rw [if_pos (by omega)] | rw [if_neg (by omega)]))
  · have m_6 := zi_r_w (l2 + l3)
    exact hQ _ ⟨by omega, by omega⟩ (by unfold zto; repeat (first | rw [if_pos (by omega)] | rw [if_neg (by omega)]))
