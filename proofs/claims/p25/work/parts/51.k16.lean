-- by program (wip/gen/mkz.py)
-- SpoutNews$Tokens.refuse(I)Z
theorem k_Tokens_refuse {l1 : Int} {g : zi_M} {Q : Int → zi_M → Prop} (I : zk_I g) (p1 : 1 ≤ l1 ∧ l1 ≤ 3) (hQ : ∀ (v : Int) (g' : zi_M), zk_I g' → zk_fr fr_Tokens_refuse g g' → (0 ≤ v ∧ v ≤ 0) → (∀ (T : zyT) (t : Int), zyC T g t → zyF T g' l1 t) → Q v g') : w_Tokens_refuse l1 g Q := by
  unfold w_Tokens_refuse
  intro g1 e1
  have b4 : 0 ≤ g 191 4 ∧ g 191 4 ≤ 401 := I.1 191 4
  have b3 : 0 ≤ g 191 3 ∧ g 191 3 ≤ 401 := I.1 191 3
  have I1 : zk_I g1 := by rw [e1]; exact zk_upd (L := 0) (H := 3) rfl rfl I ⟨by omega, by omega⟩
  have F1 : zk_fr fr_Tokens_refuse g g1 := by rw [e1]; exact zk_fu (zk_f0 _) (Or.inl ⟨rfl, rfl⟩)
  have m4 : g1 191 4 = g 191 4 := by rw [e1]; exact zi_u_ni (by decide)
  have m3 : g1 191 3 = g 191 3 := by rw [e1]; exact zi_u_ni (by decide)
  refine ⟨⟨by omega, by omega⟩, ⟨by omega, by omega⟩, fun c => ?_, fun c => ⟨⟨by omega, by omega⟩, ?_⟩⟩
  · intro g4 e4
    refine hQ 0 g4 (by rw [e4]; exact zk_upd (L := -1) (H := 400) rfl rfl I1 ⟨by omega, by omega⟩) (by rw [e4]; exact zk_fu F1 (Or.inr ⟨rfl, rfl⟩)) ⟨by omega, by omega⟩ (fun T t h => ?_)
    have := (zyC_a h).2.2.2
    exfalso; omega
  · have r : 0 ≤ g1 194 (g1 191 4) ∧ g1 194 (g1 191 4) ≤ 400 := I1.1 194 _
    intro g6 e6
    exact hQ 0 g6 (by rw [e6]; exact zk_upd (L := -1) (H := 400) rfl rfl I1 ⟨by omega, by omega⟩) (by rw [e6]; exact zk_fu F1 (Or.inr ⟨rfl, rfl⟩)) ⟨by omega, by omega⟩ (fun T t h => zyC_F h e1 e6)

-- SpoutNews$Tokens.take(II)Z
theorem k_Tokens_take {l1 : Int} {l2 : Int} {g : zi_M} {Q : Int → zi_M → Prop} (I : zk_I g) (p1 : 2 ≤ l1 ∧ l1 ≤ 3) (p2 : 0 ≤ l2 ∧ l2 ≤ 59) (hQ : ∀ (v : Int) (g' : zi_M), zk_I g' → zk_fr fr_Tokens_take g g' → (0 ≤ v ∧ v ≤ 1) → (∀ (T : zyT) (t : Int), zyC T g t → zyE T → zyS T g' t (zyK T l1 l2 t) ∧ (zyK T l1 l2 t = 0 → v = 1) ∧ (¬ zyK T l1 l2 t = 0 → v = 0)) → Q v g') : w_Tokens_take l1 l2 g Q := by
  unfold w_Tokens_take
  have b4 : 0 ≤ g 191 4 ∧ g 191 4 ≤ 401 := I.1 191 4
  have b3 : 0 ≤ g 191 3 ∧ g 191 3 ≤ 401 := I.1 191 3
  refine k_Tokens_isAt I ⟨by omega, by omega⟩ ⟨by omega, by omega⟩ (fun v1 a1 a2 a3 a4 => ⟨fun ne => ?_, fun e => ?_⟩)
  · refine k_Tokens_step I (fun g5 I5 F5 x5 => ?_)
    refine hQ 1 g5 I5 (zk_ft (zk_f0 _) F5 (fun a i h => Or.inl h)) ⟨by omega, by omega⟩ (fun T t h hE => ?_)
    have a := zyC_a h
    have k : T.1 t = l1 ∧ T.2.1 t = l2 := by
      refine Classical.byContradiction (fun q => ?_)
      by_cases q1 : T.1 t = l1
      · exact ne (a3 a.2.2.2 (by rw [a.1]; exact q1) (fun z => q ⟨q1, by rw [← a.2.1]; exact z⟩))
      · exact ne (a2 a.2.2.2 (by rw [a.1]; exact q1))
    have z := zyK_0.2 k
    exact ⟨⟨fun _ => x5 T t h hE (by omega), fun n => absurd z n⟩, fun _ => rfl, fun n => absurd z n⟩
  · refine k_Tokens_refuse I ⟨by omega, by omega⟩ (fun v7 g8 I8 F8 c8 x8 => ?_)
    refine hQ v7 g8 I8 (zk_ft (zk_f0 _) F8 (fun a i h => Or.inr h)) ⟨by omega, by omega⟩ (fun T t h hE => ?_)
    have a := zyC_a h
    have k : ¬ (T.1 t = l1 ∧ T.2.1 t = l2) := fun q => by
      have := a4 a.2.2.2 (by rw [a.1]; exact q.1) (by rw [a.2.1]; exact q.2)
      omega
    have z := zyK_1 k
    rw [z]
    exact ⟨⟨fun n => absurd n (by decide), fun _ => x8 T t h⟩, fun n => absurd n (by decide), fun _ => by omega⟩

-- SpoutNews$Tokens.takeLineStart(II)Z
theorem k_Tokens_takeLineStart {l1 : Int} {l2 : Int} {g : zi_M} {Q : Int → zi_M → Prop} (I : zk_I g) (p1 : 0 ≤ l1 ∧ l1 ≤ 7) (p2 : 0 ≤ l2 ∧ l2 ≤ 17) (hQ : ∀ (v : Int) (g' : zi_M), zk_I g' → zk_fr fr_Tokens_takeLineStart g g' → (0 ≤ v ∧ v ≤ 1) → (∀ (T : zyT) (t : Int), zyC T g t → zyE T → zyS T g' t (zyL T l1 l2 t) ∧ (zyL T l1 l2 t = 0 → v = 1) ∧ (¬ zyL T l1 l2 t = 0 → v = 0)) → Q v g') : w_Tokens_takeLineStart l1 l2 g Q := by
  unfold w_Tokens_takeLineStart
  have b4 : 0 ≤ g 191 4 ∧ g 191 4 ≤ 401 := I.1 191 4
  have b3 : 0 ≤ g 191 3 ∧ g 191 3 ≤ 401 := I.1 191 3
  refine k_Tokens_isAt I ⟨by omega, by omega⟩ ⟨by omega, by omega⟩ (fun v1 a1 a2 a3 a4 => ⟨fun e => ?_, fun ne => ⟨⟨by omega, by omega⟩, fun lt => ?_, fun ge => ?_⟩⟩)
  · refine k_Tokens_take I ⟨by omega, by omega⟩ ⟨by omega, by omega⟩ (fun v4 g5 I5 F5 c5 x5 => ?_)
    refine hQ v4 g5 I5 (zk_ft (zk_f0 _) F5 (fun a i h => h)) c5 (fun T t h hE => ?_)
    have a := zyC_a h
    have k : ¬ (T.1 t = 2 ∧ T.2.1 t = l1) := fun q => by
      have := a4 a.2.2.2 (by rw [a.1]; exact q.1) (by rw [a.2.1]; exact q.2)
      omega
    have x := x5 T t h hE
    rw [zyK_1 k] at x
    rw [zyL_1 k]
    exact x
  · refine k_Tokens_take I ⟨by omega, by omega⟩ ⟨by omega, by omega⟩ (fun v4 g5 I5 F5 c5 x5 => ?_)
    refine hQ v4 g5 I5 (zk_ft (zk_f0 _) F5 (fun a i h => h)) c5 (fun T t h hE => ?_)
    have x := x5 T t h hE
    by_cases k : T.1 t = 2 ∧ T.2.1 t = l1
    · rw [zyK_0.2 k] at x
      rw [zyL_0.2 ⟨k, lt⟩]
      exact x
    · rw [zyK_1 k] at x
      rw [zyL_1 k]
      exact x
  · refine k_Tokens_refuse I ⟨by omega, by omega⟩ (fun v7 g8 I8 F8 c8 x8 => ?_)
    refine hQ v7 g8 I8 (zk_ft (zk_f0 _) F8 (fun a i h => Or.inr h)) ⟨by omega, by omega⟩ (fun T t h hE => ?_)
    have a := zyC_a h
    have k : T.1 t = 2 ∧ T.2.1 t = l1 := by
      refine Classical.byContradiction (fun q => ?_)
      by_cases q1 : T.1 t = 2
      · exact ne (a3 a.2.2.2 (by rw [a.1]; exact q1) (fun z => q ⟨q1, by rw [← a.2.1]; exact z⟩))
      · exact ne (a2 a.2.2.2 (by rw [a.1]; exact q1))
    rw [zyL_3 k (by omega)]
    exact ⟨⟨fun n => absurd n (by decide), fun _ => x8 T t h⟩, fun n => absurd n (by decide), fun _ => by omega⟩

-- SpoutNews$Tokens.number()I
set_option maxRecDepth 100000 in
set_option maxHeartbeats 4000000 in
theorem k_Tokens_number {g : zi_M} {Q : Int → zi_M → Prop} (I : zk_I g) (hQ : ∀ v : Int, ((g 191 3) ≤ (g 191 4) → v = (-1)) → ((g 191 4) < (g 191 3) → ¬ (g 192 (g 191 4)) = 1 → v = (-1)) → ((g 191 4) < (g 191 3) → (g 192 (g 191 4)) = 1 → v = g 193 (g 191 4)) → Q v g) : w_Tokens_number g Q := by
  unfold w_Tokens_number
  have m_1 : 0 ≤ (g 191 4) ∧ (g 191 4) ≤ 401 := I.1 191 4
  have m_2 : 0 ≤ (g 191 3) ∧ (g 191 3) ≤ 401 := I.1 191 3
  refine ⟨⟨by omega, by omega⟩, ⟨by omega, by omega⟩, ?_⟩
  refine ⟨fun c6 => ?_, fun c6 => ?_⟩
  · have m_3 : 0 ≤ (g 192 (g 191 4)) ∧ (g 192 (g 191 4)) ≤ 4 := I.1 192 (g 191 4)
    have m_4 : (-1) ≤ (g 193 (g 191 4)) ∧ (g 193 (g 191 4)) ≤ 9999 := I.1 193 (g 191 4)
    exact hQ _ (by intros; omega) (by intros; omega) (by intros; omega)
  · refine ⟨⟨by omega, by omega⟩, ?_⟩
    have m_5 : 0 ≤ (g 192 (g 191 4)) ∧ (g 192 (g 191 4)) ≤ 4 := I.1 192 (g 191 4)
    refine ⟨⟨by omega, by omega⟩, ?_⟩
    refine ⟨fun c5 => ?_, fun c5 => ?_⟩
    · have m_6 : (-1) ≤ (g 193 (g 191 4)) ∧ (g 193 (g 191 4)) ≤ 9999 := I.1 193 (g 191 4)
      exact hQ _ (by intros; omega) (by intros; omega) (by intros; omega)
    · have m_7 : (-1) ≤ (g 193 (g 191 4)) ∧ (g 193 (g 191 4)) ≤ 9999 := I.1 193 (g 191 4)
      exact hQ _ (by intros; omega) (by intros; omega) (by intros; omega)
-- SpoutNews$Law.add(II)V
set_option maxRecDepth 100000 in
set_option maxHeartbeats 4000000 in
theorem k_Law_add {l1 : Int} {l2 : Int} {g : zi_M} {Q : Int → zi_M → Prop} (I : zk_I g) (p1 : 0 ≤ l1 ∧ l1 ≤ 11) (p2 : 0 ≤ l2 ∧ l2 ≤ 9999) (hQ : ∀ g' : zi_M, zk_I g' → zk_fr fr_Law_add g g' → (g 196 2 < 400 → zEa [(l1, l2)] g g') → Q 0 g') : w_Law_add l1 l2 g Q := by
  unfold w_Law_add
  have m_1 : 0 ≤ (g 196 2) ∧ (g 196 2) ≤ 400 := I.1 196 2
  refine ⟨⟨by omega, by omega⟩, ?_⟩
  refine ⟨fun c7 => ?_, fun c7 => ?_⟩
  · exact hQ _ I (zk_f0 _) (by intro hv; first | (exfalso; omega) | exact zEa_1 (by assumption) (by assumption) (by assumption))
  · refine ⟨⟨by omega, by omega⟩, ?_⟩
    intro g3 e_2
    have I_3 : zk_I g3 := by rw [e_2]; exact zk_upd (L := (-2147483648)) (H := 2147483647) rfl rfl I ⟨by omega, by omega⟩
    have F_4 : zk_fr fr_Law_add g g3 := by rw [e_2]; exact zk_fu (zk_f0 _) (Or.inl rfl)
    have m_8 : 0 ≤ (g3 196 2) ∧ (g3 196 2) ≤ 400 := I_3.1 196 2
    have m_9 : g3 196 2 = g 196 2 := by rw [e_2]; exact zi_u_ne (by decide)
    refine ⟨⟨by omega, by omega⟩, ?_⟩
    intro g5 e_5
    have I_6 : zk_I g5 := by rw [e_5]; exact zk_upd (L := 0) (H := 9999) rfl rfl I_3 ⟨by omega, by omega⟩
    have F_7 : zk_fr fr_Law_add g g5 := by rw [e_5]; exact zk_fu F_4 (Or.inr (Or.inl rfl))
    have m_13 : 0 ≤ (g5 196 2) ∧ (g5 196 2) ≤ 400 := I_6.1 196 2
    have m_14 : g5 196 2 = g3 196 2 := by rw [e_5]; exact zi_u_ne (by decide)
    intro g6 e_10
    have I_11 : zk_I g6 := by rw [e_10]; exact zk_upd (L := 0) (H := 400) rfl rfl I_6 ⟨by omega, by omega⟩
    have F_12 : zk_fr fr_Law_add g g6 := by rw [e_10]; exact zk_fu F_7 (Or.inr (Or.inr ⟨rfl, rfl⟩))
    exact hQ _ I_11 F_12 (by intro hv; first | (exfalso; omega) | exact zEa_1 (by assumption) (by assumption) (by assumption))
-- SpoutNews$LawReader.unit(LSpoutNews$Tokens;LSpoutNews$Law;)Z
set_option maxRecDepth 100000 in
set_option maxHeartbeats 4000000 in
theorem k_LawReader_unit {g : zi_M} {Q : Int → zi_M → Prop} (I : zk_I g) (hQ : ∀ (v : Int) (g' : zi_M), zk_I g' → zk_fr fr_LawReader_unit g g' → (0 ≤ v ∧ v ≤ 1) → (zcon zUn v g g') → Q v g') : w_LawReader_unit g Q := by
  unfold w_LawReader_unit
  have m_4 : 0 ≤ (g 191 4) ∧ (g 191 4) ≤ 401 := I.1 191 4
  have m_5 : 0 ≤ (g 191 3) ∧ (g 191 3) ≤ 401 := I.1 191 3
  have m_6 : 0 ≤ (g 192 (g 191 4)) ∧ (g 192 (g 191 4)) ≤ 4 := I.1 192 (g 191 4)
  have m_7 : (-1) ≤ (g 193 (g 191 4)) ∧ (g 193 (g 191 4)) ≤ 9999 := I.1 193 (g 191 4)
  refine k_Tokens_number I (fun v1 b_1 b_2 b_3 => ?_)
  refine ⟨⟨by omega, by omega⟩, ?_⟩
  refine ⟨fun c31 => ?_, fun c31 => ?_⟩
  · refine k_Tokens_keyword I (fun v5 b_8 b_9 b_10 => ?_)
    refine ⟨⟨by omega, by omega⟩, ?_⟩
    refine ⟨fun c21 => ?_, fun c21 => ?_⟩
    · refine k_Tokens_refuse I ⟨by omega, by omega⟩ (fun v9 g10 I_13 F_14 b_11 b_12 => ?_)
      have F_15 : zk_fr fr_LawReader_unit g g10 := zk_ft (zk_f0 _) F_14 (fun a i => (fun h => Or.elim h (fun h => (Or.inr (Or.inr (Or.inr (Or.inl h))))) (fun h => (Or.inr (Or.inr (Or.inr (Or.inr (Or.inl h))))))))
      exact hQ _ _ I_13 F_15 ⟨by omega, by omega⟩ (by first | exact zun_n (by assumption) (by assumption) (by assumption) (by assumption) (by assumption) (by assumption) (by assumption) (by assumption) | exact zun_k (by assumption) (by assumption) (by assumption) (by assumption) (by assumption) (by assumption) (by assumption) (by assumption) (by assumption) (by assumption) | exact zun_f (by assumption) (by assumption) (by assumption) (by assumption) (by assumption) (by assumption))
    · refine k_Tokens_keyword I (fun v12 b_16 b_17 b_18 => ?_)
      have m_19 : 0 ≤ (g 196 2) ∧ (g 196 2) ≤ 400 := I.1 196 2
      refine k_Law_add I ⟨by omega, by omega⟩ ⟨by omega, by omega⟩ (fun g16 I_21 F_22 b_20 => ?_)
      have F_23 : zk_fr fr_LawReader_unit g g16 := zk_ft (zk_f0 _) F_22 (fun a i => (fun h => Or.elim h (fun h => (Or.inl h)) (fun h => Or.elim h (fun h => (Or.inr (Or.inl h))) (fun h => (Or.inr (Or.inr (Or.inr (Or.inr (Or.inr h)))))))))
      refine k_Tokens_step I_21 (fun g19 I_25 F_26 b_24 => ?_)
      have F_27 : zk_fr fr_LawReader_unit g g19 := zk_ft F_23 F_26 (fun a i => (fun h => (Or.inr (Or.inr (Or.inl h)))))
      exact hQ _ _ I_25 F_27 ⟨by omega, by omega⟩ (by first | exact zun_n (by assumption) (by assumption) (by assumption) (by assumption) (by assumption) (by assumption) (by assumption) (by assumption) | exact zun_k (by assumption) (by assumption) (by assumption) (by assumption) (by assumption) (by assumption) (by assumption) (by assumption) (by assumption) (by assumption) | exact zun_f (by assumption) (by assumption) (by assumption) (by assumption) (by assumption) (by assumption))
  · refine k_Tokens_number I (fun v22 b_28 b_29 b_30 => ?_)
    have m_31 : 0 ≤ (g 196 2) ∧ (g 196 2) ≤ 400 := I.1 196 2
    refine k_Law_add I ⟨by omega, by omega⟩ ⟨by omega, by omega⟩ (fun g26 I_33 F_34 b_32 => ?_)
    have F_35 : zk_fr fr_LawReader_unit g g26 := zk_ft (zk_f0 _) F_34 (fun a i => (fun h => Or.elim h (fun h => (Or.inl h)) (fun h => Or.elim h (fun h => (Or.inr (Or.inl h))) (fun h => (Or.inr (Or.inr (Or.inr (Or.inr (Or.inr h)))))))))
    refine k_Tokens_step I_33 (fun g29 I_37 F_38 b_36 => ?_)
    have F_39 : zk_fr fr_LawReader_unit g g29 := zk_ft F_35 F_38 (fun a i => (fun h => (Or.inr (Or.inr (Or.inl h)))))
    exact hQ _ _ I_37 F_39 ⟨by omega, by omega⟩ (by first | exact zun_n (by assumption) (by assumption) (by assumption) (by assumption) (by assumption) (by assumption) (by assumption) (by assumption) | exact zun_k (by assumption) (by assumption) (by assumption) (by assumption) (by assumption) (by assumption) (by assumption) (by assumption) (by assumption) (by assumption) | exact zun_f (by assumption) (by assumption) (by assumption) (by assumption) (by assumption) (by assumption))
-- SpoutNews$LawReader.addLate(LSpoutNews$Law;I)V
set_option maxRecDepth 100000 in
set_option maxHeartbeats 4000000 in
theorem k_LawReader_addLate {l2 : Int} {g : zi_M} {Q : Int → zi_M → Prop} (I : zk_I g) (p2 : (-1) ≤ l2 ∧ l2 ≤ 3) (hQ : ∀ g' : zi_M, zk_I g' → zk_fr fr_LawReader_addLate g g' → ((l2 = -1 ∨ g 196 2 < 400) → zEa (zLat l2) g g') → Q 0 g') : w_LawReader_addLate l2 g Q := by
  unfold w_LawReader_addLate
  refine ⟨⟨by omega, by omega⟩, ?_⟩
  refine ⟨fun c5 => ?_, fun c5 => ?_⟩
  · exact hQ _ I (zk_f0 _) (by first | exact fun _ => zEa_q (by assumption) | exact zEa_w (by assumption) (by assumption))
  · have m_1 : 0 ≤ (g 196 2) ∧ (g 196 2) ≤ 400 := I.1 196 2
    refine k_Law_add I ⟨by omega, by omega⟩ ⟨by omega, by omega⟩ (fun g3 I_3 F_4 b_2 => ?_)
    have F_5 : zk_fr fr_LawReader_addLate g g3 := zk_ft (zk_f0 _) F_4 (fun a i => (fun h => Or.elim h (fun h => (Or.inl h)) (fun h => Or.elim h (fun h => (Or.inr (Or.inl h))) (fun h => (Or.inr (Or.inr h))))))
    exact hQ _ I_3 F_5 (by first | exact fun _ => zEa_q (by assumption) | exact zEa_w (by assumption) (by assumption))
-- SpoutNews$LawReader.part(LSpoutNews$Tokens;LSpoutNews$Law;)Z
set_option maxRecDepth 100000 in
set_option maxHeartbeats 4000000 in
theorem k_LawReader_part {g : zi_M} {Q : Int → zi_M → Prop} (I : zk_I g) (hQ : ∀ (v : Int) (g' : zi_M), zk_I g' → zk_fr fr_LawReader_part g g' → (0 ≤ v ∧ v ≤ 1) → (zcon zPt v g g') → Q v g') : w_LawReader_part g Q := by
  unfold w_LawReader_part
  have m_4 : 0 ≤ (g 191 4) ∧ (g 191 4) ≤ 401 := I.1 191 4
  have m_5 : 0 ≤ (g 191 3) ∧ (g 191 3) ≤ 401 := I.1 191 3
  have m_6 : 0 ≤ (g 192 (g 191 4)) ∧ (g 192 (g 191 4)) ≤ 4 := I.1 192 (g 191 4)
  have m_7 : (-1) ≤ (g 193 (g 191 4)) ∧ (g 193 (g 191 4)) ≤ 9999 := I.1 193 (g 191 4)
  refine k_Tokens_number I (fun v1 b_1 b_2 b_3 => ?_)
  refine ⟨⟨by omega, by omega⟩, ?_⟩
  refine ⟨fun c18 => ?_, fun c18 => ?_⟩
  · have m_8 : 0 ≤ (g 196 2) ∧ (g 196 2) ≤ 400 := I.1 196 2
    refine k_Law_add I ⟨by omega, by omega⟩ ⟨by omega, by omega⟩ (fun g6 I_10 F_11 b_9 => ?_)
    have F_12 : zk_fr fr_LawReader_part g g6 := zk_ft (zk_f0 _) F_11 (fun a i => (fun h => Or.elim h (fun h => (Or.inl h)) (fun h => Or.elim h (fun h => (Or.inr (Or.inl h))) (fun h => (Or.inr (Or.inr (Or.inr (Or.inr (Or.inr h)))))))))
    refine k_Tokens_step I_10 (fun g9 I_14 F_15 b_13 => ?_)
    have F_16 : zk_fr fr_LawReader_part g g9 := zk_ft F_12 F_15 (fun a i => (fun h => (Or.inr (Or.inr (Or.inl h)))))
    exact hQ _ _ I_14 F_16 ⟨by omega, by omega⟩ (by first | exact zpt_y (by assumption) (by assumption) (by assumption) (by assumption) (by assumption) (by assumption) (by assumption) (by assumption) | exact zpt_2 (by assumption) (by assumption) (by assumption) (by assumption) (by assumption) | exact zpt_1 (by assumption) (by assumption) (by assumption) (by assumption) (by assumption))
  · refine ⟨fun c17 => ?_, fun c17 => ?_⟩
    · refine k_Tokens_refuse I ⟨by omega, by omega⟩ (fun v11 g12 I_19 F_20 b_17 b_18 => ?_)
      have F_21 : zk_fr fr_LawReader_part g g12 := zk_ft (zk_f0 _) F_20 (fun a i => (fun h => Or.elim h (fun h => (Or.inr (Or.inr (Or.inr (Or.inl h))))) (fun h => (Or.inr (Or.inr (Or.inr (Or.inr (Or.inl h))))))))
      exact hQ _ _ I_19 F_21 ⟨by omega, by omega⟩ (by first | exact zpt_y (by assumption) (by assumption) (by assumption) (by assumption) (by assumption) (by assumption) (by assumption) (by assumption) | exact zpt_2 (by assumption) (by assumption) (by assumption) (by assumption) (by assumption) | exact zpt_1 (by assumption) (by assumption) (by assumption) (by assumption) (by assumption))
    · refine k_Tokens_refuse I ⟨by omega, by omega⟩ (fun v14 g15 I_24 F_25 b_22 b_23 => ?_)
      have F_26 : zk_fr fr_LawReader_part g g15 := zk_ft (zk_f0 _) F_25 (fun a i => (fun h => Or.elim h (fun h => (Or.inr (Or.inr (Or.inr (Or.inl h))))) (fun h => (Or.inr (Or.inr (Or.inr (Or.inr (Or.inl h))))))))
      exact hQ _ _ I_24 F_26 ⟨by omega, by omega⟩ (by first | exact zpt_y (by assumption) (by assumption) (by assumption) (by assumption) (by assumption) (by assumption) (by assumption) (by assumption) | exact zpt_2 (by assumption) (by assumption) (by assumption) (by assumption) (by assumption) | exact zpt_1 (by assumption) (by assumption) (by assumption) (by assumption) (by assumption))
-- SpoutNews$LawReader.sum(LSpoutNews$Tokens;LSpoutNews$Law;)Z
set_option maxRecDepth 100000 in
set_option maxHeartbeats 4000000 in
theorem k_LawReader_sum_b99 {l4 : Int} {l5 : Int} {H : Int → Int → Int → zi_M → Prop} {K140 : Int → Int → zi_M → Prop} {Q : Int → zi_M → Prop} {g : zi_M} {g0 : zi_M} (I : zk_I g) (F : zk_fr fr_LawReader_sum g0 g) (p4 : (-1) ≤ l4 ∧ l4 ≤ 3) (p5 : 0 ≤ l5 ∧ l5 ≤ 399) (ix0 : zSj l4 l5 g0 g) (M : Int) (hM : 400 - l5 ≤ M) (hH : ∀ (m3 : Int) (m4 : Int) (m5 : Int) (g : zi_M), zk_I g → zk_fr fr_LawReader_sum g0 g → (0 ≤ m3 ∧ m3 ≤ 1) → ((-1) ≤ m4 ∧ m4 ≤ 3) → (0 ≤ m5 ∧ m5 ≤ 400) → (zSml m3 m4 m5 g0 g) → 400 - m5 < M → H m3 m4 m5 g) (hK140 : ∀ (k3 : Int) (k4 : Int) (g : zi_M), zk_I g → zk_fr fr_LawReader_sum g0 g → (0 ≤ k3 ∧ k3 ≤ 1) → ((-1) ≤ k4 ∧ k4 ≤ 3) → (zSx k3 k4 g0 g) → K140 k3 k4 g) (hQ : ∀ (v : Int) (g' : zi_M), zk_I g' → zk_fr fr_LawReader_sum g0 g' → (0 ≤ v ∧ v ≤ 1) → (zcon zSu v g0 g') → Q v g') : w_LawReader_sum_b99 l4 l5 g H K140 Q := by
  unfold w_LawReader_sum_b99
  have m_22 : 0 ≤ (g 196 2) ∧ (g 196 2) ≤ 400 := I.1 196 2
  refine k_LawReader_addLate I ⟨by omega, by omega⟩ (fun g16 I_24 F_25 b_23 => ?_)
  have F_26 : zk_fr fr_LawReader_sum g0 g16 := zk_ft F F_25 (fun a i => (fun h => Or.elim h (fun h => (Or.inl h)) (fun h => Or.elim h (fun h => (Or.inr (Or.inl h))) (fun h => (Or.inr (Or.inr (Or.inr (Or.inr (Or.inr h)))))))))
  have m_31 : 0 ≤ (g16 191 4) ∧ (g16 191 4) ≤ 401 := I_24.1 191 4
  have m_32 : g16 191 4 = g 191 4 := F_25 _ _ (by unfold fr_LawReader_addLate; omega)
  have m_33 : 0 ≤ (g 191 4) ∧ (g 191 4) ≤ 401 := I.1 191 4
  have m_34 : 0 ≤ (g16 191 3) ∧ (g16 191 3) ≤ 401 := I_24.1 191 3
  have m_35 : g16 191 3 = g 191 3 := F_25 _ _ (by unfold fr_LawReader_addLate; omega)
  have m_36 : 0 ≤ (g 191 3) ∧ (g 191 3) ≤ 401 := I.1 191 3
  have m_37 : 0 ≤ (g16 192 (g16 191 4)) ∧ (g16 192 (g16 191 4)) ≤ 4 := I_24.1 192 (g16 191 4)
  have m_38 : g16 192 (g16 191 4) = g 192 (g16 191 4) := F_25 _ _ (by unfold fr_LawReader_addLate; omega)
  have m_39 : 0 ≤ (g 192 (g16 191 4)) ∧ (g 192 (g16 191 4)) ≤ 4 := I.1 192 (g16 191 4)
  have m_40 : (-1) ≤ (g16 193 (g16 191 4)) ∧ (g16 193 (g16 191 4)) ≤ 9999 := I_24.1 193 (g16 191 4)
  have m_41 : g16 193 (g16 191 4) = g 193 (g16 191 4) := F_25 _ _ (by unfold fr_LawReader_addLate; omega)
  have m_42 : (-1) ≤ (g 193 (g16 191 4)) ∧ (g 193 (g16 191 4)) ≤ 9999 := I.1 193 (g16 191 4)
  refine k_Tokens_isAt I_24 ⟨by omega, by omega⟩ ⟨by omega, by omega⟩ (fun v18 b_27 b_28 b_29 b_30 => ?_)
  refine ⟨fun c33 => ?_, fun c33 => ?_⟩
  · refine k_Tokens_step I_24 (fun g22 I_44 F_45 b_43 => ?_)
    have F_46 : zk_fr fr_LawReader_sum g0 g22 := zk_ft F_26 F_45 (fun a i => (fun h => (Or.inr (Or.inr (Or.inl h)))))
    refine k_LawReader_unit I_44 (fun v24 g25 I_49 F_50 b_47 b_48 => ?_)
    have F_51 : zk_fr fr_LawReader_sum g0 g25 := zk_ft F_46 F_50 (fun a i => (fun h => Or.elim h (fun h => (Or.inl h)) (fun h => Or.elim h (fun h => (Or.inr (Or.inl h))) (fun h => Or.elim h (fun h => (Or.inr (Or.inr (Or.inl h)))) (fun h => Or.elim h (fun h => (Or.inr (Or.inr (Or.inr (Or.inl h))))) (fun h => Or.elim h (fun h => (Or.inr (Or.inr (Or.inr (Or.inr (Or.inl h)))))) (fun h => (Or.inr (Or.inr (Or.inr (Or.inr (Or.inr h))))))))))))
    exact hH _ _ _ _ I_49 F_51 ⟨by omega, by omega⟩ ⟨by omega, by omega⟩ ⟨by omega, by omega⟩ (by first | exact zSml_m (by assumption) (by assumption) (by assumption) (by assumption) (by assumption) (by assumption) (by assumption) (by assumption) (by assumption) (by assumption) | exact zSml_d (by assumption) (by assumption) (by assumption) (by assumption) (by assumption) (by assumption) (by assumption) (by assumption) | exact zSml_p (by assumption) (by assumption) (by assumption) (by assumption) (by assumption) (by assumption) (by assumption) (by assumption) (by assumption) | exact zSml_s (by assumption) (by assumption) (by assumption) (by assumption) (by assumption) (by assumption) (by assumption) (by assumption) | exact zSml_0 (by assumption)) (by omega)
  · refine k_Tokens_step I_24 (fun g28 I_53 F_54 b_52 => ?_)
    have F_55 : zk_fr fr_LawReader_sum g0 g28 := zk_ft F_26 F_54 (fun a i => (fun h => (Or.inr (Or.inr (Or.inl h)))))
    refine k_LawReader_unit I_53 (fun v30 g31 I_58 F_59 b_56 b_57 => ?_)
    have F_60 : zk_fr fr_LawReader_sum g0 g31 := zk_ft F_55 F_59 (fun a i => (fun h => Or.elim h (fun h => (Or.inl h)) (fun h => Or.elim h (fun h => (Or.inr (Or.inl h))) (fun h => Or.elim h (fun h => (Or.inr (Or.inr (Or.inl h)))) (fun h => Or.elim h (fun h => (Or.inr (Or.inr (Or.inr (Or.inl h))))) (fun h => Or.elim h (fun h => (Or.inr (Or.inr (Or.inr (Or.inr (Or.inl h)))))) (fun h => (Or.inr (Or.inr (Or.inr (Or.inr (Or.inr h))))))))))))
    exact hH _ _ _ _ I_58 F_60 ⟨by omega, by omega⟩ ⟨by omega, by omega⟩ ⟨by omega, by omega⟩ (by first | exact zSml_m (by assumption) (by assumption) (by assumption) (by assumption) (by assumption) (by assumption) (by assumption) (by assumption) (by assumption) (by assumption) | exact zSml_d (by assumption) (by assumption) (by assumption) (by assumption) (by assumption) (by assumption) (by assumption) (by assumption) | exact zSml_p (by assumption) (by assumption) (by assumption) (by assumption) (by assumption) (by assumption) (by assumption) (by assumption) (by assumption) | exact zSml_s (by assumption) (by assumption) (by assumption) (by assumption) (by assumption) (by assumption) (by assumption) (by assumption) | exact zSml_0 (by assumption)) (by omega)
set_option maxRecDepth 100000 in
set_option maxHeartbeats 4000000 in
theorem k_LawReader_sum_l13 {K140 : Int → Int → zi_M → Prop} {Q : Int → zi_M → Prop} {g0 : zi_M} (hK140 : ∀ (k3 : Int) (k4 : Int) (g : zi_M), zk_I g → zk_fr fr_LawReader_sum g0 g → (0 ≤ k3 ∧ k3 ≤ 1) → ((-1) ≤ k4 ∧ k4 ≤ 3) → (zSx k3 k4 g0 g) → K140 k3 k4 g) (hQ : ∀ (v : Int) (g' : zi_M), zk_I g' → zk_fr fr_LawReader_sum g0 g' → (0 ≤ v ∧ v ≤ 1) → (zcon zSu v g0 g') → Q v g') : ∀ (n : Nat) {l3 : Int} {l4 : Int} {l5 : Int} {g : zi_M}, zk_I g → zk_fr fr_LawReader_sum g0 g → (0 ≤ l3 ∧ l3 ≤ 1) → ((-1) ≤ l4 ∧ l4 ≤ 3) → (0 ≤ l5 ∧ l5 ≤ 400) → (zSml l3 l4 l5 g0 g) → 400 - l5 < (n : Int) → w_LawReader_sum_l13 K140 Q n l3 l4 l5 g
  | 0, l3, l4, l5, g, I, F, b0, b1, b2, b3, hm => by exfalso; omega
  | n + 1, l3, l4, l5, g, I, F, b0, b1, b2, b3, hm => by
    unfold w_LawReader_sum_l13
    refine ⟨⟨by omega, by omega⟩, ?_⟩
    refine ⟨fun c57 => ?_, fun c57 => ?_⟩
    · exact hK140 _ _ _ I F ⟨by omega, by omega⟩ ⟨by omega, by omega⟩ (by first | exact zSx_0 (by assumption) (by assumption) | exact zSx_l (by assumption) (by assumption) | exact zSx_e (by assumption) (by assumption) (by assumption) (by assumption) (by assumption) (by assumption) (by assumption) (by assumption) (by assumption))
    · refine ⟨⟨by omega, by omega⟩, ?_⟩
      refine ⟨fun c56 => ?_, fun c56 => ?_⟩
      · exact hK140 _ _ _ I F ⟨by omega, by omega⟩ ⟨by omega, by omega⟩ (by first | exact zSx_0 (by assumption) (by assumption) | exact zSx_l (by assumption) (by assumption) | exact zSx_e (by assumption) (by assumption) (by assumption) (by assumption) (by assumption) (by assumption) (by assumption) (by assumption) (by assumption))
      · have m_10 : 0 ≤ (g 191 4) ∧ (g 191 4) ≤ 401 := I.1 191 4
        have m_11 : 0 ≤ (g 191 3) ∧ (g 191 3) ≤ 401 := I.1 191 3
        have m_12 : 0 ≤ (g 192 (g 191 4)) ∧ (g 192 (g 191 4)) ≤ 4 := I.1 192 (g 191 4)
        have m_13 : (-1) ≤ (g 193 (g 191 4)) ∧ (g 193 (g 191 4)) ≤ 9999 := I.1 193 (g 191 4)
        refine k_Tokens_isAt I ⟨by omega, by omega⟩ ⟨by omega, by omega⟩ (fun v6 b_6 b_7 b_8 b_9 => ?_)
        refine ⟨fun c55 => ?_, fun c55 => ?_⟩
        · refine k_Tokens_isAt I ⟨by omega, by omega⟩ ⟨by omega, by omega⟩ (fun v9 b_14 b_15 b_16 b_17 => ?_)
          refine ⟨fun c45 => ?_, fun c45 => ?_⟩
          · refine k_Tokens_isAt I ⟨by omega, by omega⟩ ⟨by omega, by omega⟩ (fun v12 b_18 b_19 b_20 b_21 => ?_)
            refine ⟨fun c38 => ?_, fun c38 => ?_⟩
            · exact k_LawReader_sum_b99 I F ⟨by omega, by omega⟩ ⟨by omega, by omega⟩ (by first | exact zSj_p (by assumption) (by assumption) (by assumption) (by assumption) (by assumption) | exact zSj_s (by assumption) (by assumption) (by assumption) (by assumption) (by assumption)) (n : Int) (by omega) (fun _ _ _ _ I F b0 b1 b2 b3 hm => k_LawReader_sum_l13 hK140 hQ n I F b0 b1 b2 b3 hm) hK140 hQ
            · refine k_Tokens_isAt I ⟨by omega, by omega⟩ ⟨by omega, by omega⟩ (fun v34 b_61 b_62 b_63 b_64 => ?_)
              refine ⟨fun c37 => ?_, fun c37 => ?_⟩
              · exact hK140 _ _ _ I F ⟨by omega, by omega⟩ ⟨by omega, by omega⟩ (by first | exact zSx_0 (by assumption) (by assumption) | exact zSx_l (by assumption) (by assumption) | exact zSx_e (by assumption) (by assumption) (by assumption) (by assumption) (by assumption) (by assumption) (by assumption) (by assumption) (by assumption))
              · exact k_LawReader_sum_b99 I F ⟨by omega, by omega⟩ ⟨by omega, by omega⟩ (by first | exact zSj_p (by assumption) (by assumption) (by assumption) (by assumption) (by assumption) | exact zSj_s (by assumption) (by assumption) (by assumption) (by assumption) (by assumption)) (n : Int) (by omega) (fun _ _ _ _ I F b0 b1 b2 b3 hm => k_LawReader_sum_l13 hK140 hQ n I F b0 b1 b2 b3 hm) hK140 hQ
          · refine k_Tokens_step I (fun g40 I_66 F_67 b_65 => ?_)
            have F_68 : zk_fr fr_LawReader_sum g0 g40 := zk_ft F F_67 (fun a i => (fun h => (Or.inr (Or.inr (Or.inl h)))))
            refine k_LawReader_part I_66 (fun v42 g43 I_71 F_72 b_69 b_70 => ?_)
            have F_73 : zk_fr fr_LawReader_sum g0 g43 := zk_ft F_68 F_72 (fun a i => (fun h => Or.elim h (fun h => (Or.inl h)) (fun h => Or.elim h (fun h => (Or.inr (Or.inl h))) (fun h => Or.elim h (fun h => (Or.inr (Or.inr (Or.inl h)))) (fun h => Or.elim h (fun h => (Or.inr (Or.inr (Or.inr (Or.inl h))))) (fun h => Or.elim h (fun h => (Or.inr (Or.inr (Or.inr (Or.inr (Or.inl h)))))) (fun h => (Or.inr (Or.inr (Or.inr (Or.inr (Or.inr h))))))))))))
            exact k_LawReader_sum_l13 hK140 hQ n I_71 F_73 ⟨by omega, by omega⟩ ⟨by omega, by omega⟩ ⟨by omega, by omega⟩ (by first | exact zSml_m (by assumption) (by assumption) (by assumption) (by assumption) (by assumption) (by assumption) (by assumption) (by assumption) (by assumption) (by assumption) | exact zSml_d (by assumption) (by assumption) (by assumption) (by assumption) (by assumption) (by assumption) (by assumption) (by assumption) | exact zSml_p (by assumption) (by assumption) (by assumption) (by assumption) (by assumption) (by assumption) (by assumption) (by assumption) (by assumption) | exact zSml_s (by assumption) (by assumption) (by assumption) (by assumption) (by assumption) (by assumption) (by assumption) (by assumption) | exact zSml_0 (by assumption)) (by omega)
        · refine k_Tokens_step I (fun g47 I_75 F_76 b_74 => ?_)
          have F_77 : zk_fr fr_LawReader_sum g0 g47 := zk_ft F F_76 (fun a i => (fun h => (Or.inr (Or.inr (Or.inl h)))))
          refine k_LawReader_unit I_75 (fun v49 g50 I_80 F_81 b_78 b_79 => ?_)
          have F_82 : zk_fr fr_LawReader_sum g0 g50 := zk_ft F_77 F_81 (fun a i => (fun h => Or.elim h (fun h => (Or.inl h)) (fun h => Or.elim h (fun h => (Or.inr (Or.inl h))) (fun h => Or.elim h (fun h => (Or.inr (Or.inr (Or.inl h)))) (fun h => Or.elim h (fun h => (Or.inr (Or.inr (Or.inr (Or.inl h))))) (fun h => Or.elim h (fun h => (Or.inr (Or.inr (Or.inr (Or.inr (Or.inl h)))))) (fun h => (Or.inr (Or.inr (Or.inr (Or.inr (Or.inr h))))))))))))
          have m_83 : 0 ≤ (g50 196 2) ∧ (g50 196 2) ≤ 400 := I_80.1 196 2
          refine k_Law_add I_80 ⟨by omega, by omega⟩ ⟨by omega, by omega⟩ (fun g53 I_85 F_86 b_84 => ?_)
          have F_87 : zk_fr fr_LawReader_sum g0 g53 := zk_ft F_82 F_86 (fun a i => (fun h => Or.elim h (fun h => (Or.inl h)) (fun h => Or.elim h (fun h => (Or.inr (Or.inl h))) (fun h => (Or.inr (Or.inr (Or.inr (Or.inr (Or.inr h)))))))))
          exact k_LawReader_sum_l13 hK140 hQ n I_85 F_87 ⟨by omega, by omega⟩ ⟨by omega, by omega⟩ ⟨by omega, by omega⟩ (by first | exact zSml_m (by assumption) (by assumption) (by assumption) (by assumption) (by assumption) (by assumption) (by assumption) (by assumption) (by assumption) (by assumption) | exact zSml_d (by assumption) (by assumption) (by assumption) (by assumption) (by assumption) (by assumption) (by assumption) (by assumption) | exact zSml_p (by assumption) (by assumption) (by assumption) (by assumption) (by assumption) (by assumption) (by assumption) (by assumption) (by assumption) | exact zSml_s (by assumption) (by assumption) (by assumption) (by assumption) (by assumption) (by assumption) (by assumption) (by assumption) | exact zSml_0 (by assumption)) (by omega)
set_option maxRecDepth 100000 in
set_option maxHeartbeats 4000000 in
theorem k_LawReader_sum {g : zi_M} {Q : Int → zi_M → Prop} (I : zk_I g) (hQ : ∀ (v : Int) (g' : zi_M), zk_I g' → zk_fr fr_LawReader_sum g g' → (0 ≤ v ∧ v ≤ 1) → (zcon zSu v g g') → Q v g') : w_LawReader_sum g Q := by
  unfold w_LawReader_sum
  refine k_LawReader_unit I (fun v1 g2 I_3 F_4 b_1 b_2 => ?_)
  have F_5 : zk_fr fr_LawReader_sum g g2 := zk_ft (zk_f0 _) F_4 (fun a i => (fun h => Or.elim h (fun h => (Or.inl h)) (fun h => Or.elim h (fun h => (Or.inr (Or.inl h))) (fun h => Or.elim h (fun h => (Or.inr (Or.inr (Or.inl h)))) (fun h => Or.elim h (fun h => (Or.inr (Or.inr (Or.inr (Or.inl h))))) (fun h => Or.elim h (fun h => (Or.inr (Or.inr (Or.inr (Or.inr (Or.inl h)))))) (fun h => (Or.inr (Or.inr (Or.inr (Or.inr (Or.inr h))))))))))))
  refine ⟨((400 - 0 : Int).toNat + 1), k_LawReader_sum_l13 (fun k58 k59 g60 I_88 F_89 b_90 b_91 b_92 => ?_) hQ ((400 - 0 : Int).toNat + 1) I_3 F_5 ⟨by omega, by omega⟩ ⟨by omega, by omega⟩ ⟨by omega, by omega⟩ (by first | exact zSml_m (by assumption) (by assumption) (by assumption) (by assumption) (by assumption) (by assumption) (by assumption) (by assumption) (by assumption) (by assumption) | exact zSml_d (by assumption) (by assumption) (by assumption) (by assumption) (by assumption) (by assumption) (by assumption) (by assumption) | exact zSml_p (by assumption) (by assumption) (by assumption) (by assumption) (by assumption) (by assumption) (by assumption) (by assumption) (by assumption) | exact zSml_s (by assumption) (by assumption) (by assumption) (by assumption) (by assumption) (by assumption) (by assumption) (by assumption) | exact zSml_0 (by assumption)) (by omega)⟩
  have m_93 : 0 ≤ (g60 196 2) ∧ (g60 196 2) ≤ 400 := I_88.1 196 2
  refine k_LawReader_addLate I_88 ⟨by omega, by omega⟩ (fun g62 I_95 F_96 b_94 => ?_)
  have F_97 : zk_fr fr_LawReader_sum g g62 := zk_ft F_89 F_96 (fun a i => (fun h => Or.elim h (fun h => (Or.inl h)) (fun h => Or.elim h (fun h => (Or.inr (Or.inl h))) (fun h => (Or.inr (Or.inr (Or.inr (Or.inr (Or.inr h)))))))))
  refine ⟨(by omega), ?_⟩
  exact hQ _ _ I_95 F_97 ⟨by omega, by omega⟩ (by exact zSx_c (by assumption) (by assumption) (by assumption))
