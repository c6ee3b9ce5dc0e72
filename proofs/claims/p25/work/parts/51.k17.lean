-- by program (wip/gen/mkz.py)
-- SpoutNews$Law.addLine(III)V
set_option maxRecDepth 100000 in
set_option maxHeartbeats 4000000 in
theorem k_Law_addLine {l1 : Int} {l2 : Int} {l3 : Int} {g : zi_M} {Q : Int → zi_M → Prop} (I : zk_I g) (p1 : 0 ≤ l1 ∧ l1 ≤ 2) (p2 : 0 ≤ l2 ∧ l2 ≤ 400) (p3 : 0 ≤ l3 ∧ l3 ≤ 400) (hQ : ∀ g' : zi_M, zk_I g' → zk_fr fr_Law_addLine g g' → (zAld l1 l2 l3 g g') → Q 0 g') : w_Law_addLine l1 l2 l3 g Q := by
  unfold w_Law_addLine
  have m_1 : 0 ≤ (g 196 7) ∧ (g 196 7) ≤ 16 := I.1 196 7
  refine ⟨⟨by omega, by omega⟩, ?_⟩
  refine ⟨fun c11 => ?_, fun c11 => ?_⟩
  · exact hQ _ I (zk_f0 _) (by first | exact zAld_n (by assumption) | exact zAld_y (by assumption) (by assumption) (by assumption) (by assumption) (by assumption))
  · refine ⟨⟨by omega, by omega⟩, ?_⟩
    intro g3 e_2
    have I_3 : zk_I g3 := by rw [e_2]; exact zk_upd (L := (-2147483648)) (H := 2147483647) rfl rfl I ⟨by omega, by omega⟩
    have F_4 : zk_fr fr_Law_addLine g g3 := by rw [e_2]; exact zk_fu (zk_f0 _) (Or.inl rfl)
    have m_8 : 0 ≤ (g3 196 7) ∧ (g3 196 7) ≤ 16 := I_3.1 196 7
    have m_9 : g3 196 7 = g 196 7 := by rw [e_2]; exact zi_u_ne (by decide)
    refine ⟨⟨by omega, by omega⟩, ?_⟩
    intro g5 e_5
    have I_6 : zk_I g5 := by rw [e_5]; exact zk_upd (L := 0) (H := 400) rfl rfl I_3 ⟨by omega, by omega⟩
    have F_7 : zk_fr fr_Law_addLine g g5 := by rw [e_5]; exact zk_fu F_4 (Or.inr (Or.inl rfl))
    have m_13 : 0 ≤ (g5 196 7) ∧ (g5 196 7) ≤ 16 := I_6.1 196 7
    have m_14 : g5 196 7 = g3 196 7 := by rw [e_5]; exact zi_u_ne (by decide)
    refine ⟨⟨by omega, by omega⟩, ?_⟩
    intro g7 e_10
    have I_11 : zk_I g7 := by rw [e_10]; exact zk_upd (L := 0) (H := 400) rfl rfl I_6 ⟨by omega, by omega⟩
    have F_12 : zk_fr fr_Law_addLine g g7 := by rw [e_10]; exact zk_fu F_7 (Or.inr (Or.inr (Or.inl rfl)))
    have m_18 : 0 ≤ (g7 196 7) ∧ (g7 196 7) ≤ 16 := I_11.1 196 7
    have m_19 : g7 196 7 = g5 196 7 := by rw [e_10]; exact zi_u_ne (by decide)
    refine ⟨⟨by omega, by omega⟩, ?_⟩
    have m_20 : 0 ≤ (g7 196 2) ∧ (g7 196 2) ≤ 400 := I_11.1 196 2
    have m_21 : g7 196 2 = g5 196 2 := by rw [e_10]; exact zi_u_ne (by decide)
    have m_22 : 0 ≤ (g5 196 2) ∧ (g5 196 2) ≤ 400 := I_6.1 196 2
    have m_23 : g5 196 2 = g3 196 2 := by rw [e_5]; exact zi_u_ne (by decide)
    have m_24 : 0 ≤ (g3 196 2) ∧ (g3 196 2) ≤ 400 := I_3.1 196 2
    have m_25 : g3 196 2 = g 196 2 := by rw [e_2]; exact zi_u_ne (by decide)
    have m_26 : 0 ≤ (g 196 2) ∧ (g 196 2) ≤ 400 := I.1 196 2
    intro g9 e_15
    have I_16 : zk_I g9 := by rw [e_15]; exact zk_upd (L := 0) (H := 400) rfl rfl I_11 ⟨by omega, by omega⟩
    have F_17 : zk_fr fr_Law_addLine g g9 := by rw [e_15]; exact zk_fu F_12 (Or.inr (Or.inr (Or.inr (Or.inl rfl))))
    have m_30 : 0 ≤ (g9 196 7) ∧ (g9 196 7) ≤ 16 := I_16.1 196 7
    have m_31 : g9 196 7 = g7 196 7 := by rw [e_15]; exact zi_u_ne (by decide)
    intro g10 e_27
    have I_28 : zk_I g10 := by rw [e_27]; exact zk_upd (L := 0) (H := 16) rfl rfl I_16 ⟨by omega, by omega⟩
    have F_29 : zk_fr fr_Law_addLine g g10 := by rw [e_27]; exact zk_fu F_17 (Or.inr (Or.inr (Or.inr (Or.inr ⟨rfl, rfl⟩))))
    exact hQ _ I_28 F_29 (by first | exact zAld_n (by assumption) | exact zAld_y (by assumption) (by assumption) (by assumption) (by assumption) (by assumption))
-- SpoutNews$LawReader.push(I)V
theorem k_LawReader_push {l1 : Int} {g : zi_M} {Q : Int → zi_M → Prop} (I : zk_I g) (p1 : (-1) ≤ l1 ∧ l1 ≤ 9999) (hQ : ∀ g' : zi_M, zk_I g' → zk_fr fr_LawReader_push g g' → (g 212 1 < 40 → g' 212 1 = g 212 1 + 1 ∧ g' 213 (g 212 1) = l1 ∧ ∀ i : Int, ¬ i = g 212 1 → g' 213 i = g 213 i) → Q 0 g') : w_LawReader_push l1 g Q := by
  unfold w_LawReader_push
  have h0 : 0 ≤ g 212 1 := (I.1 212 1).1
  have h1 : g 212 1 ≤ 40 := (I.1 212 1).2
  refine ⟨zk_rng I _ _, fun h => hQ g I (zk_f0 _) (fun q => by omega), fun h => ⟨⟨h0, h⟩, ?_⟩⟩
  intro g3 e3 g4 e4
  have I3 : zk_I g3 := by rw [e3]; exact zk_upd (L := -2147483648) (H := 2147483647) rfl rfl I ⟨by omega, by omega⟩
  have a1 : g3 212 1 = g 212 1 := by rw [e3]; exact zi_u_ne (by decide)
  have I4 : zk_I g4 := by rw [e4]; exact zk_upd (L := 0) (H := 40) rfl rfl I3 ⟨by omega, by omega⟩
  refine hQ g4 I4 ?_ (fun _ => ⟨?_, ?_, ?_⟩)
  · rw [e4, e3]; exact zk_fu (zk_fu (zk_f0 _) (Or.inl rfl)) (Or.inr ⟨rfl, rfl⟩)
  · rw [e4, zi_u_eq, a1]
  · rw [e4, zi_u_ne (by decide), e3, zi_u_eq]
  · intro i hi
    rw [e4, zi_u_ne (by decide), e3, zi_u_ni hi]

-- SpoutNews$LawReader.openAll(LSpoutNews$Tokens;)Z
theorem k_LawReader_openAll_l2 {g0 : zi_M} {P0 : List Int} {K29 K40 K94 : zi_M → Prop} {Q : Int → zi_M → Prop} (hK29 : ∀ (g : zi_M) (P : List Int) (k : Nat), zk_I g → zk_fr fr_LawReader_openAll g0 g → zB P g → (∀ (T : zyT) (t0 : Int), zyC T g0 t0 → zyE T → zyC T g (t0 + (k : Int)) ∧ (∀ n : Nat, zCd T (n + k) 1 P0 t0 = zCd T n 1 P (t0 + (k : Int))) ∧ ¬ zOp T (t0 + (k : Int))) → (P.length : Int) = P0.length + (k : Int) → K29 g)
    (hK40 : ∀ (g : zi_M) (P : List Int) (k : Nat), zk_I g → zk_fr fr_LawReader_openAll g0 g → (∀ (T : zyT) (t0 : Int), zyC T g0 t0 → zyE T → zyC T g (t0 + (k : Int)) ∧ ∀ n : Nat, zCd T (n + k + 1) 1 P0 t0 = ([], 3, t0 + (k : Int))) → K40 g) :
    ∀ (n : Nat) (l2 : Int) (P : List Int) (k : Nat) (g : zi_M), zk_I g → zk_fr fr_LawReader_openAll g0 g → zB P g → (∀ (T : zyT) (t0 : Int), zyC T g0 t0 → zyE T → zyC T g (t0 + (k : Int)) ∧ ∀ n : Nat, zCd T (n + k) 1 P0 t0 = zCd T n 1 P (t0 + (k : Int))) → (P.length : Int) = P0.length + (k : Int) → l2 ≤ zl_of 6 0 P → 0 ≤ l2 → l2 ≤ 9 → 9 - l2 < (n : Int) → w_LawReader_openAll_l2 K29 K40 K94 Q n l2 g
  | 0, l2, P, k, g, I, F, h, hS, hl, ho, h0, h1, hm => by exfalso; omega
  | n + 1, l2, P, k, g, I, F, h, hS, hl, ho, h0, h1, hm => by
    have b0 : 0 ≤ g 212 2 := (I.1 212 2).1
    have b8 : g 212 2 ≤ 8 := (I.1 212 2).2
    have p0 : 0 ≤ g 212 3 := (I.1 212 3).1
    have ln := h.len I
    have q := h.q1
    have hop := h.op
    have b31 : ∀ v : Int, (v = 0 ∨ v = 1) → l2 ≤ 8 → (∀ (T : zyT) (t : Int), zyC T g t → zOp T t ∧ (v = 0 → T.1 t = 2) ∧ (¬ v = 0 → T.1 t = 3)) → w_LawReader_openAll_b31 l2 v g (w_LawReader_openAll_l2 K29 K40 K94 Q n) K29 K40 K94 Q := by
      intro v hv hl2 hz
      unfold w_LawReader_openAll_b31
      refine ⟨zk_rng I _ _, fun h8 => ?_, fun h8 => hK40 g P k I F (fun T t0 hC hE => ?_)⟩
      · intro g6 e6
        have I6 : zk_I g6 := by rw [e6]; exact zk_upd (L := 0) (H := 8) rfl rfl I ⟨by omega, by omega⟩
        have F6 : zk_fr fr_LawReader_openAll g0 g6 := by rw [e6]; exact zk_fu F (Or.inr (Or.inr (Or.inr (Or.inr (Or.inr (Or.inl ⟨rfl, rfl⟩))))))
        have fin : ∀ (x : Int) (g' : zi_M), (x = 6 ∨ x = 0) → (x = (if v = 0 then 6 else 0)) → (∀ (a : Nat) (i : Int), 191 ≤ a → a ≤ 194 → g' a i = g a i) → zk_I g' → zk_fr fr_LawReader_openAll g0 g' → g' 212 1 = g 212 1 → g' 212 2 = g 212 2 + 1 → g' 212 3 = g 212 3 + (if x = 0 ∨ x = 0 then 1 else 0) → (∀ i, g' 213 i = g 213 i) → w_LawReader_push x g' (fun _ g10 => w_Tokens_step g10 (fun _ g13 => w_LawReader_openAll_l2 K29 K40 K94 Q n (l2 + 1) g13)) := by
          intro x g' hx ex f' I' F' a1 a2 a3 a4
          refine k_LawReader_push I' ⟨by omega, by omega⟩ (fun g10 I10 F10 hp => ?_)
          obtain ⟨w1, w2, w3⟩ := hp (by omega)
          have z10 : zB (x :: P) g10 := by
            refine h.u ⟨h.ok, by omega⟩ (by rw [w1, a1]) (by rw [← a1]; exact w2) (fun i hi => by rw [w3 i (by omega), a4]) ?_ ?_
            · rw [F10 _ _ (by unfold fr_LawReader_push; omega), a2, if_pos hx]
            · rw [F10 _ _ (by unfold fr_LawReader_push; omega), a3]
          have G10 : zk_fr fr_LawReader_openAll g0 g10 := zk_ft F' F10 (fun a i h => h.elim Or.inl (fun h => Or.inr (Or.inr (Or.inr (Or.inr (Or.inl h))))))
          have f10 : ∀ (a : Nat) (i : Int), 191 ≤ a → a ≤ 194 → g10 a i = g a i := fun a i h1 h2 => by rw [F10 a i (fun q => by unfold fr_LawReader_push at q; omega), f' a i h1 h2]
          refine k_Tokens_step I10 (fun g13 I13 F13 st => ?_)
          have ofx : zl_of 6 0 (x :: P) = zl_of 6 0 P + 1 := by
            show zl_of 6 0 P + (if x = 6 ∨ x = 0 then 1 else 0) = _
            rw [if_pos hx]
          refine k_LawReader_openAll_l2 hK29 hK40 n (l2 + 1) (x :: P) (k + 1) g13 I13 (zk_ft G10 F13 (fun a i h => Or.inr (Or.inl h))) (z10.c ?_ ?_ ?_ (fun i => ?_)) (fun T t0 hC hE => ?_) (by rw [List.length_cons]; omega) (by omega) (by omega) (by omega) (by omega)
          · exact F13 _ _ (by unfold fr_Tokens_step; omega)
          · exact F13 _ _ (by unfold fr_Tokens_step; omega)
          · exact F13 _ _ (by unfold fr_Tokens_step; omega)
          · exact F13 _ _ (by unfold fr_Tokens_step; omega)
          · obtain ⟨s1, s2⟩ := hS T t0 hC hE
            obtain ⟨y1, y2, y3⟩ := hz T _ s1
            have nt : ¬ T.1 (t0 + (k : Int)) = 4 := fun z => by
              rcases y1 with y | y
              · have := y.1; omega
              · have := y.1; omega
            have c13 := st T _ (zyC_m s1 f10) hE nt
            have ek : t0 + (k : Int) + 1 = t0 + ((k + 1 : Nat) : Int) := by omega
            rw [ek] at c13
            refine ⟨c13, fun m => ?_⟩
            rw [show m + (k + 1) = (m + 1) + k by omega, s2 (m + 1), zCd_o y1 (by omega), ek, ex]
            by_cases v0 : v = 0
            · rw [if_pos (y2 v0), if_pos v0]
            · rw [if_neg (by have := y3 v0; omega), if_neg v0]
        have c1 : g6 212 1 = g 212 1 := by rw [e6]; exact zi_u_ni (by decide)
        have c2 : g6 212 2 = g 212 2 + 1 := by rw [e6, zi_u_eq]
        have c3 : g6 212 3 = g 212 3 := by rw [e6]; exact zi_u_ni (by decide)
        have c4 : ∀ i, g6 213 i = g 213 i := fun i => by rw [e6]; exact zi_u_ne (by decide)
        have f6 : ∀ (a : Nat) (i : Int), 191 ≤ a → a ≤ 194 → g6 a i = g a i := fun a i h1 h2 => by rw [e6]; exact zi_u_ne (by omega)
        refine ⟨⟨by omega, by omega⟩, fun ez => ?_, fun nz => ?_⟩
        · unfold w_LawReader_openAll_b70
          exact ⟨⟨by omega, by omega⟩, fun _ => fin 6 g6 (Or.inl rfl) (by rw [if_pos ez]) f6 I6 F6 c1 c2 (by rw [c3, if_neg (by decide)]; omega) c4, fun n => absurd ez n⟩
        · intro g22 e22
          have pl : zl_of 0 0 P ≤ P.length := zl_ofl 0 0 P
          have po : zl_of 0 0 P ≤ zl_of 6 0 P := zl_of_le P
          have h3 := h.pr
          have h2 := h.op
          have I22 : zk_I g22 := by rw [e22]; exact zk_upd (L := 0) (H := 8) rfl rfl I6 ⟨by omega, by omega⟩
          have F22 : zk_fr fr_LawReader_openAll g0 g22 := by rw [e22]; exact zk_fu F6 (Or.inr (Or.inr (Or.inr (Or.inr (Or.inr (Or.inr ⟨rfl, rfl⟩))))))
          unfold w_LawReader_openAll_b70
          exact ⟨⟨by omega, by omega⟩, fun e => absurd e nz, fun _ => fin 0 g22 (Or.inr rfl) (by rw [if_neg nz]) (fun a i h1 h2 => by rw [e22, zi_u_ne (by omega)]; exact f6 a i h1 h2) I22 F22 (by rw [e22, zi_u_ni (by decide)]; exact c1) (by rw [e22, zi_u_ni (by decide)]; exact c2) (by rw [e22, zi_u_eq, c3, if_pos (Or.inl rfl)]) (fun i => by rw [e22, zi_u_ne (by decide)]; exact c4 i)⟩
      · obtain ⟨s1, s2⟩ := hS T t0 hC hE
        obtain ⟨y1, y2, y3⟩ := hz T _ s1
        refine ⟨s1, fun m => ?_⟩
        rw [show m + k + 1 = (m + 1) + k by omega, s2 (m + 1), zCd_8 y1 (by omega)]
    unfold w_LawReader_openAll_l2
    refine ⟨⟨by omega, by omega⟩, fun _ => by exfalso; omega, fun hl2 => ?_⟩
    refine k_Tokens_isAt I ⟨by decide, by decide⟩ ⟨by decide, by decide⟩ (fun v2 d1 d2 d3 d4 => ?_)
    have hv2 : v2 = 0 ∨ v2 = 1 := by omega
    refine ⟨fun n2 => b31 v2 hv2 hl2 (fun T t hC => ?_), fun z2 => ?_⟩
    · have y := zis_y hC d2 d3 n2
      exact ⟨Or.inr y, fun q => absurd q n2, fun _ => y.1⟩
    have r := I.1 193 (g 191 4)
    have r1 : -1 ≤ g 193 (g 191 4) := r.1
    have r2 : g 193 (g 191 4) ≤ 9999 := r.2
    refine k_Tokens_keyword I (fun v25 f1 f2 f3 => ⟨⟨by omega, by omega⟩, fun e6 => b31 v2 hv2 hl2 (fun T t hC => ?_), fun n6 => hK29 g P k I F h (fun T t0 hC hE => ?_) hl⟩)
    · have a := zyC_a hC
      rw [a.1] at f2 f3
      rw [a.2.1] at f3
      have e1 : T.1 t = 2 := Classical.byContradiction (fun q => by have := f2 a.2.2.2 q; omega)
      have e2 := f3 a.2.2.2 e1
      exact ⟨Or.inl ⟨e1, by omega⟩, fun _ => e1, fun q => absurd z2 q⟩
    · obtain ⟨s1, s2⟩ := hS T t0 hC hE
      refine ⟨s1, s2, fun o => ?_⟩
      rcases o with o | o
      · have a := zyC_a s1
        rw [a.1, a.2.1] at f3
        have := f3 a.2.2.2 o.1
        omega
      · exact zis_n s1 d4 z2 o
theorem k_LawReader_openAll {g : zi_M} {Q : Int → zi_M → Prop} (I : zk_I g) (px0 : ∃ P, zB P g) (hQ : ∀ (v : Int) (g' : zi_M), zk_I g' → zk_fr fr_LawReader_openAll g g' → (0 ≤ v ∧ v ≤ 1) → (¬ v = 0 → ∃ P, zB P g') → (∀ (T : zyT) (t : Int) (P : List Int), zyC T g t → zyE T → zB P g → zoS T P t v g g') → Q v g') : w_LawReader_openAll g Q := by
  unfold w_LawReader_openAll
  obtain ⟨P, hP⟩ := px0
  have o0 := zl_of0 6 0 P
  refine ⟨10, k_LawReader_openAll_l2 (g0 := g) (P0 := P) (fun g' P' k I' F' z hs hl => hQ _ _ I' F' ⟨by decide, by decide⟩ (fun _ => ⟨_, z⟩) (fun T t P1 hC hE h1 => ?_)) (fun g' P' k I' F' hs => ?_) 10 0 P 0 g I (zk_f0 _) hP (fun T t0 hC hE => ⟨by rw [show t0 + ((0 : Nat) : Int) = t0 by omega]; exact hC, fun n => by rw [show t0 + ((0 : Nat) : Int) = t0 by omega]; rfl⟩) (by omega) (by omega) (by omega) (by omega) (by omega)⟩
  · rw [← zB_u hP h1]
    obtain ⟨s1, s2, s3⟩ := hs T t hC hE
    exact Or.inl ⟨rfl, P', _, k, s1, z, s2, s3, rfl, hl⟩
  refine k_Tokens_refuse I' ⟨by decide, by decide⟩ (fun v g'' I'' F'' hv rf => hQ _ _ I'' (zk_ft F' F'' (fun a i h => ?_)) ⟨by omega, by omega⟩ (fun n => by omega) (fun T t P1 hC hE h1 => ?_))
  · unfold fr_Tokens_refuse at h
    unfold fr_LawReader_openAll
    rcases h with h | h <;> simp [h]
  · rw [← zB_u hP h1]
    obtain ⟨s1, s2⟩ := hs T t hC hE
    exact Or.inr ⟨by omega, _, k, rf T _ s1, s2, rfl, (zyC_b s1 hE).2.1⟩

-- SpoutNews$LawReader.comparison(LSpoutNews$Tokens;LSpoutNews$Law;)Z
set_option maxRecDepth 100000 in
set_option maxHeartbeats 4000000 in
theorem k_LawReader_comparison_b57 {s0 : Int} {Q : Int → zi_M → Prop} {g : zi_M} {g0 : zi_M} (I : zk_I g) (F : zk_fr fr_LawReader_comparison g0 g) (ix0 : zCj s0 g0 g) (ps0 : (-1) ≤ s0 ∧ s0 ≤ 8) (hQ : ∀ (v : Int) (g' : zi_M), zk_I g' → zk_fr fr_LawReader_comparison g0 g' → (0 ≤ v ∧ v ≤ 1) → (zcon zCp v g0 g') → Q v g') : w_LawReader_comparison_b57 s0 g Q := by
  unfold w_LawReader_comparison_b57
  refine ⟨⟨by omega, by omega⟩, ?_⟩
  refine ⟨fun c27 => ?_, fun c27 => ?_⟩
  · refine k_Tokens_step I (fun g15 I_29 F_30 b_28 => ?_)
    have F_31 : zk_fr fr_LawReader_comparison g0 g15 := zk_ft F F_30 (fun a i => (fun h => (Or.inr (Or.inr (Or.inl h)))))
    refine k_LawReader_sum I_29 (fun v17 g18 I_34 F_35 b_32 b_33 => ?_)
    have F_36 : zk_fr fr_LawReader_comparison g0 g18 := zk_ft F_31 F_35 (fun a i => (fun h => Or.elim h (fun h => (Or.inl h)) (fun h => Or.elim h (fun h => (Or.inr (Or.inl h))) (fun h => Or.elim h (fun h => (Or.inr (Or.inr (Or.inl h)))) (fun h => Or.elim h (fun h => (Or.inr (Or.inr (Or.inr (Or.inl h))))) (fun h => Or.elim h (fun h => (Or.inr (Or.inr (Or.inr (Or.inr (Or.inl h)))))) (fun h => (Or.inr (Or.inr (Or.inr (Or.inr (Or.inr h))))))))))))
    refine ⟨fun c23 => ?_, fun c23 => ?_⟩
    · have m_37 : 0 ≤ (g18 196 2) ∧ (g18 196 2) ≤ 400 := I_34.1 196 2
      refine k_Law_add I_34 ⟨by omega, by omega⟩ ⟨by omega, by omega⟩ (fun g21 I_39 F_40 b_38 => ?_)
      have F_41 : zk_fr fr_LawReader_comparison g0 g21 := zk_ft F_36 F_40 (fun a i => (fun h => Or.elim h (fun h => (Or.inl h)) (fun h => Or.elim h (fun h => (Or.inr (Or.inl h))) (fun h => (Or.inr (Or.inr (Or.inr (Or.inr (Or.inr h)))))))))
      exact hQ _ _ I_39 F_41 ⟨by omega, by omega⟩ (by first | exact zCj_y (by assumption) (by assumption) (by assumption) (by assumption) (by assumption) (by assumption) (by assumption) (by assumption) | exact zCj_g (by assumption) (by assumption) (by assumption) (by assumption) (by assumption) (by assumption) | exact zCj_r (by assumption) (by assumption) (by assumption) (by assumption) | exact zCp_f (by assumption) (by assumption))
    · exact hQ _ _ I_34 F_36 ⟨by omega, by omega⟩ (by first | exact zCj_y (by assumption) (by assumption) (by assumption) (by assumption) (by assumption) (by assumption) (by assumption) (by assumption) | exact zCj_g (by assumption) (by assumption) (by assumption) (by assumption) (by assumption) (by assumption) | exact zCj_r (by assumption) (by assumption) (by assumption) (by assumption) | exact zCp_f (by assumption) (by assumption))
  · refine k_Tokens_refuse I ⟨by omega, by omega⟩ (fun v24 g25 I_44 F_45 b_42 b_43 => ?_)
    have F_46 : zk_fr fr_LawReader_comparison g0 g25 := zk_ft F F_45 (fun a i => (fun h => Or.elim h (fun h => (Or.inr (Or.inr (Or.inr (Or.inl h))))) (fun h => (Or.inr (Or.inr (Or.inr (Or.inr (Or.inl h))))))))
    exact hQ _ _ I_44 F_46 ⟨by omega, by omega⟩ (by first | exact zCj_y (by assumption) (by assumption) (by assumption) (by assumption) (by assumption) (by assumption) (by assumption) (by assumption) | exact zCj_g (by assumption) (by assumption) (by assumption) (by assumption) (by assumption) (by assumption) | exact zCj_r (by assumption) (by assumption) (by assumption) (by assumption) | exact zCp_f (by assumption) (by assumption))
set_option maxRecDepth 100000 in
set_option maxHeartbeats 4000000 in
theorem k_LawReader_comparison {g : zi_M} {Q : Int → zi_M → Prop} (I : zk_I g) (hQ : ∀ (v : Int) (g' : zi_M), zk_I g' → zk_fr fr_LawReader_comparison g g' → (0 ≤ v ∧ v ≤ 1) → (zcon zCp v g g') → Q v g') : w_LawReader_comparison g Q := by
  unfold w_LawReader_comparison
  refine k_LawReader_sum I (fun v1 g2 I_3 F_4 b_1 b_2 => ?_)
  have F_5 : zk_fr fr_LawReader_comparison g g2 := zk_ft (zk_f0 _) F_4 (fun a i => (fun h => Or.elim h (fun h => (Or.inl h)) (fun h => Or.elim h (fun h => (Or.inr (Or.inl h))) (fun h => Or.elim h (fun h => (Or.inr (Or.inr (Or.inl h)))) (fun h => Or.elim h (fun h => (Or.inr (Or.inr (Or.inr (Or.inl h))))) (fun h => Or.elim h (fun h => (Or.inr (Or.inr (Or.inr (Or.inr (Or.inl h)))))) (fun h => (Or.inr (Or.inr (Or.inr (Or.inr (Or.inr h))))))))))))
  refine ⟨fun c31 => ?_, fun c31 => ?_⟩
  · have m_10 : 0 ≤ (g2 191 4) ∧ (g2 191 4) ≤ 401 := I_3.1 191 4
    have m_11 : 0 ≤ (g2 191 3) ∧ (g2 191 3) ≤ 401 := I_3.1 191 3
    have m_12 : g2 191 3 = g 191 3 := F_4 _ _ (by unfold fr_LawReader_sum; omega)
    have m_13 : 0 ≤ (g 191 3) ∧ (g 191 3) ≤ 401 := I.1 191 3
    have m_14 : 0 ≤ (g2 192 (g2 191 4)) ∧ (g2 192 (g2 191 4)) ≤ 4 := I_3.1 192 (g2 191 4)
    have m_15 : g2 192 (g2 191 4) = g 192 (g2 191 4) := F_4 _ _ (by unfold fr_LawReader_sum; omega)
    have m_16 : 0 ≤ (g 192 (g2 191 4)) ∧ (g 192 (g2 191 4)) ≤ 4 := I.1 192 (g2 191 4)
    have m_17 : (-1) ≤ (g2 193 (g2 191 4)) ∧ (g2 193 (g2 191 4)) ≤ 9999 := I_3.1 193 (g2 191 4)
    have m_18 : g2 193 (g2 191 4) = g 193 (g2 191 4) := F_4 _ _ (by unfold fr_LawReader_sum; omega)
    have m_19 : (-1) ≤ (g 193 (g2 191 4)) ∧ (g 193 (g2 191 4)) ≤ 9999 := I.1 193 (g2 191 4)
    refine k_Tokens_isAt I_3 ⟨by omega, by omega⟩ ⟨by omega, by omega⟩ (fun v4 b_6 b_7 b_8 b_9 => ?_)
    refine ⟨fun c30 => ?_, fun c30 => ?_⟩
    · refine k_Tokens_isAt I_3 ⟨by omega, by omega⟩ ⟨by omega, by omega⟩ (fun v7 b_20 b_21 b_22 b_23 => ?_)
      refine ⟨fun c29 => ?_, fun c29 => ?_⟩
      · refine k_Tokens_isAt I_3 ⟨by omega, by omega⟩ ⟨by omega, by omega⟩ (fun v10 b_24 b_25 b_26 b_27 => ?_)
        refine ⟨fun c28 => ?_, fun c28 => ?_⟩
        · exact k_LawReader_comparison_b57 I_3 F_5 (by first | exact zCj_6 (by assumption) (by assumption) (by assumption) (by assumption) (by assumption) | exact zCj_7 (by assumption) (by assumption) (by assumption) (by assumption) (by assumption) | exact zCj_8 (by assumption) (by assumption) (by assumption) (by assumption) (by assumption) | exact zCj_n (by assumption) (by assumption) (by assumption) (by assumption) (by assumption) (by assumption) (by assumption) (by assumption)) ⟨by omega, by omega⟩ hQ
        · exact k_LawReader_comparison_b57 I_3 F_5 (by first | exact zCj_6 (by assumption) (by assumption) (by assumption) (by assumption) (by assumption) | exact zCj_7 (by assumption) (by assumption) (by assumption) (by assumption) (by assumption) | exact zCj_8 (by assumption) (by assumption) (by assumption) (by assumption) (by assumption) | exact zCj_n (by assumption) (by assumption) (by assumption) (by assumption) (by assumption) (by assumption) (by assumption) (by assumption)) ⟨by omega, by omega⟩ hQ
      · exact k_LawReader_comparison_b57 I_3 F_5 (by first | exact zCj_6 (by assumption) (by assumption) (by assumption) (by assumption) (by assumption) | exact zCj_7 (by assumption) (by assumption) (by assumption) (by assumption) (by assumption) | exact zCj_8 (by assumption) (by assumption) (by assumption) (by assumption) (by assumption) | exact zCj_n (by assumption) (by assumption) (by assumption) (by assumption) (by assumption) (by assumption) (by assumption) (by assumption)) ⟨by omega, by omega⟩ hQ
    · exact k_LawReader_comparison_b57 I_3 F_5 (by first | exact zCj_6 (by assumption) (by assumption) (by assumption) (by assumption) (by assumption) | exact zCj_7 (by assumption) (by assumption) (by assumption) (by assumption) (by assumption) | exact zCj_8 (by assumption) (by assumption) (by assumption) (by assumption) (by assumption) | exact zCj_n (by assumption) (by assumption) (by assumption) (by assumption) (by assumption) (by assumption) (by assumption) (by assumption)) ⟨by omega, by omega⟩ hQ
  · exact hQ _ _ I_3 F_5 ⟨by omega, by omega⟩ (by first | exact zCj_y (by assumption) (by assumption) (by assumption) (by assumption) (by assumption) (by assumption) (by assumption) (by assumption) | exact zCj_g (by assumption) (by assumption) (by assumption) (by assumption) (by assumption) (by assumption) | exact zCj_r (by assumption) (by assumption) (by assumption) (by assumption) | exact zCp_f (by assumption) (by assumption))
-- SpoutNews$LawReader.settleNots(LSpoutNews$Law;)V
theorem k_LawReader_settleNots_l2 {g0 : zi_M} {K : zi_M → Prop} {Q : Int → zi_M → Prop} {P0 : List Int} (hK : ∀ g, zk_I g → zk_fr fr_LawReader_settleNots g0 g → zB (zsnP P0) g → (g0 196 2 + ((zsnL P0).length : Int) ≤ 400 → zEa (zsnL P0) g0 g) → K g) :
    ∀ (P : List Int) (n : Nat) (l2 : Int) (M : List (Int × Int)) (g : zi_M), zk_I g → zk_fr fr_LawReader_settleNots g0 g → zB P g → zsnP P = zsnP P0 → M ++ zsnL P = zsnL P0 → (g0 196 2 + ((zsnL P0).length : Int) ≤ 400 → zEa M g0 g) → 0 ≤ l2 → l2 + g 212 2 ≤ 8 → P.length < n → w_LawReader_settleNots_l2 K Q n l2 g
  | P, 0, l2, M, g, I, F, h, e, eM, eE, h0, h1, hm => absurd hm (Nat.not_lt_zero _)
  | [], n + 1, l2, M, g, I, F, h, e, eM, eE, h0, h1, hm => by
    have q : g 212 1 = 0 := h.q1
    have b2 : 0 ≤ g 212 2 := (I.1 212 2).1
    unfold w_LawReader_settleNots_l2
    have eM' : M = zsnL P0 := by rw [← eM]; exact (List.append_nil M).symm
    have hk := hK g I F (by rw [← e]; exact h) (by rw [← eM']; rw [← eM'] at eE; exact eE)
    exact ⟨⟨by omega, by omega⟩, fun _ => hk, fun _ => ⟨zk_rng I _ _, fun _ => hk, fun n => by omega⟩⟩
  | x :: t, n + 1, l2, M, g, I, F, h, e, eM, eE, h0, h1, hm => by
    have q := h.q1
    rw [List.length_cons] at q hm
    have b2 : 0 ≤ g 212 2 := (I.1 212 2).1
    have b1 : g 212 1 ≤ 40 := (I.1 212 1).2
    have ei : g 212 1 - 1 = (t.length : Int) := by omega
    have hx : g 213 (g 212 1 - 1) = x := by rw [ei]; exact h.ql.1
    have ho : g 212 2 = zl_of 6 0 t + (if x = 6 ∨ x = 0 then 1 else 0) := h.op
    have o0 := zl_of0 6 0 t
    unfold w_LawReader_settleNots_l2
    by_cases e6 : x = 6
    · rw [if_pos (Or.inl e6)] at ho
      refine ⟨⟨by omega, by omega⟩, fun q => by omega, fun _ => ⟨zk_rng I _ _, fun q => by omega, fun _ => ⟨⟨by omega, by omega⟩, zk_rng I _ _, fun q => absurd (hx.trans e6) q, fun _ => ?_⟩⟩⟩
      refine k_Law_add I ⟨by decide, by decide⟩ ⟨by decide, by decide⟩ (fun g6 I6 F6 a6 => ?_)
      intro g8 e8 g9 e9
      have c1 : g6 212 1 = g 212 1 := F6 _ _ (by unfold fr_Law_add; omega)
      have c2 : g6 212 2 = g 212 2 := F6 _ _ (by unfold fr_Law_add; omega)
      have c3 : g6 212 3 = g 212 3 := F6 _ _ (by unfold fr_Law_add; omega)
      have z6 := h.c c1 c2 c3 (fun i => F6 _ _ (by unfold fr_Law_add; omega))
      rw [e6] at z6 e eM
      have z9 := z6.n e8 e9
      have d2 : g8 212 2 = g6 212 2 := by rw [e8]; exact zi_u_ni (by decide)
      have d9 : g9 212 2 = g 212 2 - 1 := by rw [e9, zi_u_eq, d2, c2]
      have b8 : g 212 2 ≤ 8 := (I.1 212 2).2
      have I8 : zk_I g8 := by rw [e8]; exact zk_upd (L := 0) (H := 40) rfl rfl I6 ⟨by omega, by omega⟩
      have I9 : zk_I g9 := by rw [e9]; exact zk_upd (L := 0) (H := 8) rfl rfl I8 ⟨by omega, by omega⟩
      have F6' : zk_fr fr_LawReader_settleNots g0 g6 := zk_ft F F6 (fun a i h => h.elim Or.inl (fun h => Or.inr (h.elim Or.inl (fun h => Or.inr (Or.inl h)))))
      have f9 : ∀ (a : Nat) (i : Int), 196 ≤ a → a ≤ 198 → g9 a i = g6 a i := fun a i h1 h2 => by rw [e9, zi_u_ne (by omega), e8, zi_u_ne (by omega)]
      rw [zsnP_y.2] at eM
      have ln : M.length + ((zsnL t).length + 1) = (zsnL P0).length := by rw [← eM, List.length_append, List.length_cons]
      refine k_LawReader_settleNots_l2 hK t n (l2 + 1) (M ++ [(9, 0)]) g9 I9 ?_ z9 (by rw [← e, zsnP_y.1]) (by rw [List.append_assoc]; exact eM) (fun cap => ?_) (by omega) (by omega) (by omega)
      · rw [e9, e8]; exact zk_fu (zk_fu F6' (Or.inr (Or.inr (Or.inr (Or.inl ⟨rfl, rfl⟩))))) (Or.inr (Or.inr (Or.inr (Or.inr ⟨rfl, rfl⟩))))
      · have E := eE cap
        have n1 := zEa_len E
        exact zEa_t E (zEa_m (a6 (by omega)) f9)
    · rw [(zsnP_n e6).1] at e
      rw [(zsnP_n e6).2, List.append_nil] at eM
      have hk := hK g I F (by rw [← e]; exact h) (by rw [← eM]; rw [← eM] at eE; exact eE)
      exact ⟨⟨by omega, by omega⟩, fun _ => hk, fun _ => ⟨zk_rng I _ _, fun _ => hk, fun _ => ⟨⟨by omega, by omega⟩, zk_rng I _ _, fun _ => hk, fun q => absurd (hx.symm.trans q) e6⟩⟩⟩
theorem k_LawReader_settleNots {g : zi_M} {Q : Int → zi_M → Prop} (I : zk_I g) (px0 : ∃ P, zB P g) (hQ : ∀ g' : zi_M, zk_I g' → zk_fr fr_LawReader_settleNots g g' → (∃ P, zB P g' ∧ zl_top P ≠ 6) → (∀ P : List Int, zB P g → zB (zsnP P) g' ∧ (g 196 2 + ((zsnL P).length : Int) ≤ 400 → zEa (zsnL P) g g')) → Q 0 g') : w_LawReader_settleNots g Q := by
  unfold w_LawReader_settleNots
  obtain ⟨P, hP⟩ := px0
  have b8 : g 212 2 ≤ 8 := (I.1 212 2).2
  have o := hP.op
  exact ⟨P.length + 1, k_LawReader_settleNots_l2 (g0 := g) (P0 := P) (fun g' I' F' z zE => hQ g' I' F' ⟨_, z, zsn_t P⟩ (fun P' h' => by rw [← zB_u hP h']; exact ⟨z, zE⟩)) P (P.length + 1) 0 [] g I (zk_f0 _) hP rfl rfl (fun _ => zEa_0) (by omega) (by omega) (Nat.lt_succ_self _)⟩

