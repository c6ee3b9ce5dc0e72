-- by program (wip/gen/mkz.py)
-- SpoutNews$Law.addLine(III)V
set_option maxRecDepth 100000 in
set_option maxHeartbeats 4000000 in
theorem k_Law_addLine {l1 : Int} {l2 : Int} {l3 : Int} {g : zi_M} {Q : Int → zi_M → Prop} (I : zk_I g) (p1 : 0 ≤ l1 ∧ l1 ≤ 2) (p2 : 0 ≤ l2 ∧ l2 ≤ 400) (p3 : 0 ≤ l3 ∧ l3 ≤ 400) (hQ : ∀ g' : zi_M, zk_I g' → zk_fr fr_Law_addLine g g' → (zAld l1 l2 l3 g g') → Q 0 g') : w_Law_addLine l1 l2 l3 g Q := by
  unfold w_Law_addLine
  have m_1 : 0 ≤ (g 196 7) ∧ (g 196 7) ≤ 16 := I.1 196 7
  refine ⟨⟨by omega, by omega⟩, ?_⟩
  refine ⟨fun c11 => ?_, fun c11 => ?_⟩
  · exact hQ _ I (zk_f0 _) (by first | exact zAld_n (by assumption) | exact zAld_y (by assumption) (by assumption) (by assumption) (by assumption) (by assumption))
  · refine ⟨⟨by omega, by omega⟩, ?_⟩
    intro g3 e_2
    have I_3 : zk_I g3 := by rw [e_2]; exact zk_upd (L := (-2147483648)) (H := 2147483647) rfl rfl I ⟨by omega, by omega⟩
    have F_4 : zk_fr fr_Law_addLine g g3 := by rw [e_2]; exact zk_fu (zk_f0 _) (Or.inl rfl)
    have m_8 : 0 ≤ (g3 196 7) ∧ (g3 196 7) ≤ 16 := I_3.1 196 7
    have m_9 : g3 196 7 = g 196 7 := by rw [e_2]; exact zi_u_ne (by decide)
    refine ⟨⟨by omega, by omega⟩, ?_⟩
    intro g5 e_5
    have I_6 : zk_I g5 := by rw [e_5]; exact zk_upd (L := 0) (H := 400) rfl rfl I_3 ⟨by omega, by omega⟩
    have F_7 : zk_fr fr_Law_addLine g g5 := by rw [e_5]; exact zk_fu F_4 (Or.inr (Or.inl rfl))
    have m_13 : 0 ≤ (g5 196 7) ∧ (g5 196 7) ≤ 16 := I_6.1 196 7
    have m_14 : g5 196 7 = g3 196 7 := by rw [e_5]; exact zi_u_ne (by decide)
    refine ⟨⟨by omega, by omega⟩, ?_⟩
    intro g7 e_10
    have I_11 : zk_I g7 := by rw [e_10]; exact zk_upd (L := 0) (H := 400) rfl rfl I_6 ⟨by omega, by omega⟩
    have F_12 : zk_fr fr_Law_addLine g g7 := by rw [e_10]; exact zk_fu F_7 (Or.inr (Or.inr (Or.inl rfl)))
    have m_18 : 0 ≤ (g7 196 7) ∧ (g7 196 7) ≤ 16 := I_11.1 196 7
    have m_19 : g7 196 7 = g5 196 7 := by rw [e_10]; exact zi_u_ne (by decide)
    refine ⟨⟨by omega, by omega⟩, ?_⟩
    have m_20 : 0 ≤ (g7 196 2) ∧ (g7 196 2) ≤ 400 := I_11.1 196 2
    have m_21 : g7 196 2 = g5 196 2 := by rw [e_10]; exact zi_u_ne (by decide)
    have m_22 : 0 ≤ (g5 196 2) ∧ (g5 196 2) ≤ 400 := I_6.1 196 2
    have m_23 : g5 196 2 = g3 196 2 := by rw [e_5]; exact zi_u_ne (by decide)
    have m_24 : 0 ≤ (g3 196 2) ∧ (g3 196 2) ≤ 400 := I_3.1 196 2
    have m_25 : g3 196 2 = g 196 2 := by rw [e_2]; exact zi_u_ne (by decide)
    have m_26 : 0 ≤ (g 196 2) ∧ (g 196 2) ≤ 400 := I.1 196 2
    intro g9 e_15
    have I_16 : zk_I g9 := by rw [e_15]; exact zk_upd (L := 0) (H := 400) rfl rfl I_11 ⟨by omega, by omega⟩
    have F_17 : zk_fr fr_Law_addLine g g9 := by rw [e_15]; exact zk_fu F_12 (Or.inr (Or.inr (Or.inr (Or.inl rfl))))
    have m_30 : 0 ≤ (g9 196 7) ∧ (g9 196 7) ≤ 16 := I_16.1 196 7
    have m_31 : g9 196 7 = g7 196 7 := by rw [e_15]; exact zi_u_ne (by decide)
    intro g10 e_27
    have I_28 : zk_I g10 := by rw [e_27]; exact zk_upd (L := 0) (H := 16) rfl rfl I_16 ⟨by omega, by omega⟩
    have F_29 : zk_fr fr_Law_addLine g g10 := by rw [e_27]; exact zk_fu F_17 (Or.inr (Or.inr (Or.inr (Or.inr ⟨rfl, rfl⟩))))
    exact hQ _ I_28 F_29 (by first | exact zAld_n (by assumption) | exact zAld_y (by assumption) (by assumption) (by assumption) (by assumption) (by assumption))
-- SpoutNews$LawReader.push(I)V
theorem k_LawReader_push {l1 : Int} {g : zi_M} {Q : Int → zi_M → Prop} (I : zk_I g) (p1 : (-1) ≤ l1 ∧ l1 ≤ 9999) (hQ : ∀ g' : zi_M, zk_I g' → zk_fr fr_LawReader_push g g' → (g 212 1 < 40 → g' 212 1 = g 212 1 + 1 ∧ g' 213 (g 212 1) = l1 ∧ ∀ i : Int, ¬ i = g 212 1 → g' 213 i = g 213 i) → Q 0 g') : w_LawReader_push l1 g Q := by
  unfold w_LawReader_push
  have h0 : 0 ≤ g 212 1 := (I.1 212 1).1
  have h1 : g 212 1 ≤ 40 := (I.1 212 1).2
  refine ⟨zk_rng I _ _, fun h => hQ g I (zk_f0 _) (fun q => by omega), fun h => ⟨⟨h0, h⟩, ?_⟩⟩
  intro g3 e3 g4 e4
  have I3 : zk_I g3 := by rw [e3]; exact zk_upd (L := -2147483648) (H := 2147483647) rfl rfl I ⟨by omega, by omega⟩
  have a1 : g3 212 1 = g 212 1 := by rw [e3]; exact zi_u_ne (by decide)
  have I4 : zk_I g4 := by rw [e4]; exact zk_upd (L := 0) (H := 40) rfl rfl I3 ⟨by omega, by omega⟩
  refine hQ g4 I4 ?_ (fun _ => ⟨?_, ?_, ?_⟩)
  · rw [e4, e3]; exact zk_fu (zk_fu (zk_f0 _) (Or.inl rfl)) (Or.inr ⟨rfl, rfl⟩)
  · rw [e4, zi_u_eq, a1]
  · rw [e4, zi_u_ne (by decide), e3, zi_u_eq]
  · intro i hi
    rw [e4, zi_u_ne (by decide), e3, zi_u_ni hi]

-- SpoutNews$LawReader.openAll(LSpoutNews$Tokens;)Z
theorem k_LawReader_openAll_l2 {g0 : zi_M} {P0 : List Int} {K29 K40 K94 : zi_M → Prop} {Q : Int → zi_M → Prop} (hK29 : ∀ (g : zi_M) (P : List Int) (k : Nat), zk_I g → zk_fr fr_LawReader_openAll g0 g → zB P g → (∀ (T : zyT) (t0 : Int), zyC T g0 t0 → zyE T → zyC T g (t0 + (k : Int)) ∧ (∀ n : Nat, zCd T (n + k) 1 P0 t0 = zCd T n 1 P (t0 + (k : Int))) ∧ ¬ zOp T (t0 + (k : Int))) → (P.length : Int) = P0.length + (k : Int) → K29 g)
    (hK40 : ∀ (g : zi_M) (P : List Int) (k : Nat), zk_I g → zk_fr fr_LawReader_openAll g0 g → (∀ (T : zyT) (t0 : Int), zyC T g0 t0 → zyE T → zyC T g (t0 + (k : Int)) ∧ ∀ n : Nat, zCd T (n + k + 1) 1 P0 t0 = ([], 3, t0 + (k : Int))) → K40 g) :
    ∀ (n : Nat) (l2 : Int) (P : List Int) (k : Nat) (g : zi_M), zk_I g → zk_fr fr_LawReader_openAll g0 g → zB P g → (∀ (T : zyT) (t0 : Int), zyC T g0 t0 → zyE T → zyC T g (t0 + (k : Int)) ∧ ∀ n : Nat, zCd T (n + k) 1 P0 t0 = zCd T n 1 P (t0 + (k : Int))) → (P.length : Int) = P0.length + (k : Int) → l2 ≤ zl_of 6 0 P → 0 ≤ l2 → l2 ≤ 9 → 9 - l2 < (n : Int) → w_LawReader_openAll_l2 K29 K40 K94 Q n l2 g
  | 0, l2, P, k, g, I, F, h, hS, hl, ho, h0, h1, hm => by exfalso; omega
  | n + 1, l2, P, k, g, I, F, h, hS, hl, ho, h0, h1, hm => by
    have b0 : 0 ≤ g 212 2 := (I.1 212 2).1
    have b8 : g 212 2 ≤ 8 := (I.1 212 2).2
    have p0 : 0 ≤ g 212 3 := (I.1 212 3).1
    have ln := h.len I
    have q := h.q1
    have hop := h.op
    have b31 : ∀ v : Int, (v = 0 ∨ v = 1) → l2 ≤ 8 → (∀ (T : zyT) (t : Int), zyC T g t → zOp T t ∧ (v = 0 → T.1 t = 2) ∧ (¬ v = 0 → T.1 t = 3)) → w_LawReader_openAll_b31 l2 v g (w_LawReader_openAll_l2 K29 K40 K94 Q n) K29 K40 K94 Q := by
      intro v hv hl2 hz
      unfold w_LawReader_openAll_b31
      refine ⟨zk_rng I _ _, fun h8 => ?_, fun h8 => hK40 g P k I F (fun T t0 hC hE => ?_)⟩
      · intro g6 e6
        have I6 : zk_I g6 := by rw [e6]; exact zk_upd (L := 0) (H := 8) rfl rfl I ⟨by omega, by omega⟩
        have F6 : zk_fr fr_LawReader_openAll g0 g6 := by rw [e6]; exact zk_fu F (Or.inr (Or.inr (Or.inr (Or.inr (Or.inr (Or.inl ⟨rfl, rfl⟩))))))
        have fin : ∀ (x : Int) (g' : zi_M), (x = 6 ∨ x = 0) → (x = (if v = 0 then 6 else 0)) → (∀ (a : Nat) (i : Int), 191 ≤ a → a ≤ 194 → g' a i = g a i) → zk_I g' → zk_fr fr_LawReader_openAll g0 g' → g' 212 1 = g 212 1 → g' 212 2 = g 212 2 + 1 → g' 212 3 = g 212 3 + (if x = 0 ∨ x = 0 then 1 else 0) → (∀ i, g' 213 i = g 213 i) → w_LawReader_push x g' (fun _ g10 => w_Tokens_step g10 (fun _ g13 => w_LawReader_openAll_l2 K29 K40 K94 Q n (l2 + 1) g13)) := by
          intro x g' hx ex f' I' F' a1 a2 a3 a4
          refine k_LawReader_push I' ⟨by omega, by omega⟩ (fun g10 I10 F10 hp => ?_)
          obtain ⟨w1, w2, w3⟩ := hp (by omega)
          have z10 : zB (x :: P) g10 := by
            refine h.u ⟨h.ok, by omega⟩ (by rw [w1, a1]) (by rw [← a1]; exact w2) (fun i hi => by rw [w3 i (by omega), a4]) ?_ ?_
            · rw [F10 _ _ (by unfold fr_LawReader_push; omega), a2, if_pos hx]
            · rw [F10 _ _ (by unfold fr_LawReader_push; omega), a3]
          have G10 : zk_fr fr_LawReader_openAll g0 g10 := zk_ft F' F10 (fun a i h => h.elim Or.inl (fun h => Or.inr (Or.inr (Or.inr (Or.inr (Or.inl h))))))
          have f10 : ∀ (a : Nat) (i : Int), 191 ≤ a → a ≤ 194 → g10 a i = g a i := fun a i h1 h2 => by rw [F10 a i (fun q => by unfold fr_LawReader_push at q; omega), f' a i h1 h2]
          refine k_Tokens_step I10 (fun g13 I13 F13 st => ?_)
          have ofx : zl_of 6 0 (x :: P) = zl_of 6 0 P + 1 := by
            show zl_of 6 0 P + (if x = 6 ∨ x = 0 then 1 else 0) = _
            rw [if_pos hx]
          refine k_LawReader_openAll_l2 hK29 hK40 n (l2 + 1) (x :: P) (k + 1) g13 I13 (zk_ft G10 F13 (fun a i h => Or.inr (Or.inl h))) (z10.c ?_ ?_ ?_ (fun i => ?_)) (fun T t0 hC hE => ?_) (by rw [List.length_cons]; omega) (by omega) (by omega) (by omega) (by omega)
          · exact F13 _ _ (by unfold fr_Tokens_step; omega)
          · exact F13 _ _ (by unfold fr_Tokens_step; omega)
          · exact F13 _ _ (by unfold fr_Tokens_step; omega)
          · exact F13 _ _ (by unfold fr_Tokens_step; omega)
          · obtain ⟨s1, s2⟩ := hS T t0 hC hE
            obtain ⟨y1, y2, y3⟩ := hz T _ s1
            have nt : ¬ T.1 (t0 + (k : Int)) = 4 := fun z => by
              rcases y1 with y | y
              · have := y.1; omega
              · have := y.1; omega
            have c13 := st T _ (zyC_m s1 f10) hE nt
            have ek : t0 + (k : Int) + 1 = t0 + ((k + 1 : Nat) : Int) := by omega
            rw [ek] at c13
            refine ⟨c13, fun m => ?_⟩
            rw [show m + (k + 1) = (m + 1) + k by omega, s2 (m + 1), zCd_o y1 (by omega), ek, ex]
            by_cases v0 : v = 0
            · rw [if_pos (y2 v0), if_pos v0]
            · rw [if_neg (by have := y3 v0; omega), if_neg v0]
        have c1 : g6 212 1 = g 212 1 := by rw [e6]; exact zi_u_ni (by decide)
        have c2 : g6 212 2 = g 212 2 + 1 := by rw [e6, zi_u_eq]
        have c3 : g6 212 3 = g 212 3 := by rw [e6]; exact zi_u_ni (by decide)
        have c4 : ∀ i, g6 213 i = g 213 i := fun i => by rw [e6]; exact zi_u_ne (by decide)
        have f6 : ∀ (a : Nat) (i : Int), 191 ≤ a → a ≤ 194 → g6 a i = g a i := fun a i h1 h2 => by rw [e6]; exact zi_u_ne (by omega)
        refine ⟨⟨by omega, by omega⟩, fun ez => ?_, fun nz => ?_⟩
        · unfold w_LawReader_openAll_b70
          exact ⟨⟨by omega, by omega⟩, fun _ => fin 6 g6 (Or.inl rfl) (by rw [if_pos ez]) f6 I6 F6 c1 c2 (by rw [c3, if_neg (by decide)]; omega) c4, fun n => absurd ez n⟩
        · intro g22 e22
          have pl : zl_of 0 0 P ≤ P.length := zl_ofl 0 0 P
          have po : zl_of 0 0 P ≤ zl_of 6 0 P := zl_of_le P
          have h3 := h.pr
          have h2 := h.op
          have I22 : zk_I g22 := by rw [e22]; exact zk_upd (L := 0) (H := 8) rfl rfl I6 ⟨by omega, by omega⟩
          have F22 : zk_fr fr_LawReader_openAll g0 g22 := by rw [e22]; exact zk_fu F6 (Or.inr (Or.inr (Or.inr (Or.inr (Or.inr (Or.inr ⟨rfl, rfl⟩))))))
          unfold w_LawReader_openAll_b70
          exact ⟨⟨by omega, by omega⟩, fun e => absurd e nz, fun _ => fin 0 g22 (Or.inr rfl) (by rw [if_neg nz]) (fun a i h1 h2 => by rw [e22, zi_u_ne (by omega)]; exact f6 a i h1 h2) I22 F22 (by rw [e22, zi_u_ni (by decide)]; exact c1) (by rw [e22, zi_u_ni (by decide)]; exact c2) (by rw [e22, zi_u_eq, c3, if_pos (Or.inl rfl)]) (fun i => by rw [e22, zi_u_ne (by decide)]; exact c4 i)⟩
      · obtain ⟨s1, s2⟩ := hS T t0 hC hE
        obtain ⟨y1, y2, y3⟩ := hz T _ s1
        refine ⟨s1, fun m => ?_⟩
        rw [show m + k + 1 = (m + 1) + k by omega, s2 (m + 1), zCd_8 y1 (by omega)]
    unfold w_LawReader_openAll_l2
    refine ⟨⟨by omega, by omega⟩, fun _ => by exfalso; omega, fun hl2 => ?_⟩
    refine k_Tokens_isAt I ⟨by decide, by decide⟩ ⟨by decide, by decide⟩ (fun v2 d1 d2 d3 d4 => ?_)
    have hv2 : v2 = 0 ∨ v2 = 1 := by omega
    refine ⟨fun n2 => b31 v2 hv2 hl2 (fun T t hC => ?_), fun z2 => ?_⟩
    · have y := zis_y hC d2 d3 n2
      exact ⟨Or.inr y, fun q => absurd q n2, fun _ => y.1⟩
    have r := I.1 193 (g 191 4)
    have r1 : -1 ≤ g 193 (g 191 4) := r.1
    have r2 : g 193 (g 191 4) ≤ 9999 := r.2
    refine k_Tokens_keyword I (fun v25 f1 f2 f3 => ⟨⟨by omega, by omega⟩, fun e6 => b31 v2 hv2 hl2 (fun T t hC => ?_), fun n6 => hK29 g P k I F h (fun T t0 hC hE => ?_) hl⟩)
    · have a := zyC_a hC
      rw [a.1] at f2 f3
      rw [a.2.1] at f3
      have e1 : T.1 t = 2 := Classical.byContradiction (fun q => by have := f2 a.2.2.2 q; omega)
      have e2 := f3 a.2.2.2 e1
      exact ⟨Or.inl ⟨e1, by omega⟩, fun _ => e1, fun q => absurd z2 q⟩
    · obtain ⟨s1, s2⟩ := hS T t0 hC hE
      refine ⟨s1, s2, fun o => ?_⟩
      rcases o with o | o
      · have a := zyC_a s1
        rw [a.1, a.2.1] at f3
        have := f3 a.2.2.2 o.1
        omega
      · exact zis_n s1 d4 z2 o
theorem k_LawReader_openAll {g : zi_M} {Q : Int → zi_M → Prop} (I : zk_I g) (px0 : ∃ P, zB P g) (hQ : ∀ (v : Int) (g' : zi_M), zk_I g' → zk_fr fr_LawReader_openAll g g' → (0 ≤ v ∧ v ≤ 1) → (¬ v = 0 → ∃ P, zB P g') → (∀ (T : zyT) (t : Int) (P : List Int), zyC T g t → zyE T → zB P g → zoS T P t v g g') → Q v g') : w_LawReader_openAll g Q := by
  unfold w_LawReader_openAll
  obtain ⟨P, hP⟩ := px0
  have o0 := zl_of0 6 0 P
  refine ⟨10, k_LawReader_openAll_l2 (g0 := g) (P0 := P) (fun g' P' k I' F' z hs hl => hQ _ _ I' F' ⟨by decide, by decide⟩ (fun _ => ⟨_, z⟩) (fun T t P1 hC hE h1 => ?_)) (fun g' P' k I' F' hs => ?_) 10 0 P 0 g I (zk_f0 _) hP (fun T t0 hC hE => ⟨by rw [show t0 + ((0 : Nat) : Int) = t0 by omega]; exact hC, fun n => by rw [show t0 + ((0 : Nat) : Int) = t0 by omega]; rfl⟩) (by omega) (by omega) (by omega) (by omega) (by omega)⟩
  · rw [← zB_u hP h1]
    obtain ⟨s1, s2, s3⟩ := hs T t hC hE
    exact Or.inl ⟨rfl, P', _, k, s1, z, s2, s3, rfl, hl⟩
  refine k_Tokens_refuse I' ⟨by decide, by decide⟩ (fun v g'' I'' F'' hv rf => hQ _ _ I'' (zk_ft F' F'' (fun a i h => ?_)) ⟨by omega, by omega⟩ (fun n => by omega) (fun T t P1 hC hE h1 => ?_))
  · unfold fr_Tokens_refuse at h
    unfold fr_LawReader_openAll
    rcases h with h | h <;> simp [h]
  · rw [← zB_u hP h1]
    obtain ⟨s1, s2⟩ := hs T t hC hE
    exact Or.inr ⟨by omega, _, k, rf T _ s1, s2, rfl, (zyC_b s1 hE).2.1⟩

-- SpoutNews$LawReader.comparison(LSpoutNews$Tokens;LSpoutNews$Law;)Z
set_option maxRecDepth 100000 in
set_option maxHeartbeats 4000000 in
theorem k_LawReader_comparison_b57 {s0 : Int} {Q : Int → zi_M → Prop} {g : zi_M} {g0 : zi_M} (I : zk_I g) (F : zk_fr fr_LawReader_comparison g0 g) (ix0 : zCj s0 g0 g) (ps0 : (-1) ≤ s0 ∧ s0 ≤ 8) (hQ : ∀ (v : Int) (g' : zi_M), zk_I g' → zk_fr fr_LawReader_comparison g0 g' → (0 ≤ v ∧ v ≤ 1) → (zcon zCp v g0 g') → Q v g') : w_LawReader_comparison_b57 s0 g Q := by
  unfold w_LawReader_comparison_b57
  refine ⟨⟨by omega, by omega⟩, ?_⟩
  refine ⟨fun c27 => ?_, fun c27 => ?_⟩
  · refine k_Tokens_step I (fun g15 I_29 F_30 b_28 => ?_)
    have F_31 : zk_fr fr_LawReader_comparison g0 g15 := zk_ft F F_30 (fun a i => (fun h => (Or.inr (Or.inr (Or.inl h)))))
    refine k_LawReader_sum I_29 (fun v17 g18 I_34 F_35 b_32 b_33 => ?_)
    have F_36 : zk_fr fr_LawReader_comparison g0 g18 := zk_ft F_31 F_35 (fun a i => (fun h => Or.elim h (fun h => (Or.inl h)) (fun h => Or.elim h (fun h => (Or.inr (Or.inl h))) (fun h => Or.elim h (fun h => (Or.inr (Or.inr (Or.inl h)))) (fun h => Or.elim h (fun h => (Or.inr (Or.inr (Or.inr (Or.inl h))))) (fun h => Or.elim h (fun h => (Or.inr (Or.inr (Or.inr (Or.inr (Or.inl h)))))) (fun h => (Or.inr (Or.inr (Or.inr (Or.inr (Or.inr h))))))))))))
    refine ⟨fun c23 => ?_, fun c23 => ?_⟩
    · have m_37 : 0 ≤ (g18 196 2) ∧ (g18 196 2) ≤ 400 := I_34.1 196 2
      refine k_Law_add I_34 ⟨by omega, by omega⟩ ⟨by omega, by omega⟩ (fun g21 I_39 F_40 b_38 => ?_)
      have F_41 : zk_fr fr_LawReader_comparison g0 g21 := zk_ft F_36 F_40 (fun a i => (fun h => Or.elim h (fun h => (Or.inl h)) (fun h => Or.elim h (fun h => (Or.inr (Or.inl h))) (fun h => (Or.inr (Or.inr (Or.inr (Or.inr (Or.inr h)))))))))
      exact hQ _ _ I_39 F_41 ⟨by omega, by omega⟩ (by first | exact zCj_y (by assumption) (by assumption) (by assumption) (by assumption) (by assumption) (by assumption) (by assumption) (by assumption) | exact zCj_g (by assumption) (by assumption) (by assumption) (by assumption) (by assumption) (by assumption) | exact zCj_r (by assumption) (by assumption) (by assumption) (by assumption) | exact zCp_f (by assumption) (by assumption))
    · exact hQ _ _ I_34 F_36 ⟨by omega, by omega⟩ (by first | exact zCj_y (by assumption) (by assumption) (by assumption) (by assumption) (by assumption) (by assumption) (by assumption) (by assumption) | exact zCj_g (by assumption) (by assumption) (by assumption) (by assumption) (by assumption) (by assumption) | exact zCj_r (by assumption) (by assumption) (by assumption) (by assumption) | exact zCp_f (by assumption) (by assumption))
  · refine k_Tokens_refuse I ⟨by omega, by omega⟩ (fun v24 g25 I_44 F_45 b_42 b_43 => ?_)
    have F_46 : zk_fr fr_LawReader_comparison g0 g25 := zk_ft F F_45 (fun a i => (fun h => Or.elim h (fun h => (Or.inr (Or.inr (Or.inr (Or.inl h))))) (fun h => (Or.inr (Or.inr (Or.inr (Or.inr (Or.inl h))))))))
    exact hQ _ _ I_44 F_46 ⟨by omega, by omega⟩ (by first | exact zCj_y (by assumption) (by assumption) (by assumption) (by assumption) (by assumption) (by assumption) (by assumption) (by assumption) | exact zCj_g (by assumption) (by assumption) (by assumption) (by assumption) (by assumption) (by assumption) | exact zCj_r (by assumption) (by assumption) (by assumption) (by assumption) | exact zCp_f (by assumption) (by assumption))
set_option maxRecDepth 100000 in
set_option maxHeartbeats 4000000 in
theorem k_LawReader_comparison {g : zi_M} {Q : Int → zi_M → Prop} (I : zk_I g) (hQ : ∀ (v : Int) (g' : zi_M), zk_I g' → zk_fr fr_LawReader_comparison g g' → (0 ≤ v ∧ v ≤ 1) → (zcon zCp v g g') → Q v g') : w_LawReader_comparison g Q := by
  unfold w_LawReader_comparison
  refine k_LawReader_sum I (fun v1 g2 I_3 F_4 b_1 b_2 => ?_)
  have F_5 : zk_fr fr_LawReader_comparison g g2 := zk_ft (zk_f0 _) F_4 (fun a i => (fun h => Or.elim h (fun h => (Or.inl h)) (fun h => Or.elim h (fun h => (Or.inr (Or.inl h))) (fun h => Or.elim h (fun h => (Or.inr (Or.inr (Or.inl h)))) (fun h => Or.elim h (fun h => (Or.inr (Or.inr (Or.inr (Or.inl h))))) (fun h => Or.elim h (fun h => (Or.inr (Or.inr (Or.inr (Or.inr (Or.inl h)))))) (fun h => (Or.inr (Or.inr (Or.inr (Or.inr (Or.inr h))))))))))))
  refine ⟨fun c31 => ?_, fun c31 => ?_⟩
  · have m_10 : 0 ≤ (g2 191 4) ∧ (g2 191 4) ≤ 401 := I_3.1 191 4
    have m_11 : 0 ≤ (g2 191 3) ∧ (g2 191 3) ≤ 401 := I_3.1 191 3
    have m_12 : g2 191 3 = g 191 3 := F_4 _ _ (by unfold fr_LawReader_sum; omega)
    have m_13 : 0 ≤ (g 191 3) ∧ (g 191 3) ≤ 401 := I.1 191 3
    have m_14 : 0 ≤ (g2 192 (g2 191 4)) ∧ (g2 192 (g2 191 4)) ≤ 4 := I_3.1 192 (g2 191 4)
    have m_15 : g2 192 (g2 191 4) = g 192 (g2 191 4) := F_4 _ _ (by unfold fr_LawReader_sum; omega)
    have m_16 : 0 ≤ (g 192 (g2 191 4)) ∧ (g 192 (g2 191 4)) ≤ 4 := I.1 192 (g2 191 4)
    have m_17 : (-1) ≤ (g2 193 (g2 191 4)) ∧ (g2 193 (g2 191 4)) ≤ 9999 := I_3.1 193 (g2 191 4)
    have m_18 : g2 193 (g2 191 4) = g 193 (g2 191 4) := F_4 _ _ (by unfold fr_LawReader_sum; omega)
    have m_19 : (-1) ≤ (g 193 (g2 191 4)) ∧ (g 193 (g2 191 4)) ≤ 9999 := I.1 193 (g2 191 4)
    refine k_Tokens_isAt I_3 ⟨by omega, by omega⟩ ⟨by omega, by omega⟩ (fun v4 b_6 b_7 b_8 b_9 => ?_)
    refine ⟨fun c30 => ?_, fun c30 => ?_⟩
    · refine k_Tokens_isAt I_3 ⟨by omega, by omega⟩ ⟨by omega, by omega⟩ (fun v7 b_20 b_21 b_22 b_23 => ?_)
      refine ⟨fun c29 => ?_, fun c29 => ?_⟩
      · refine k_Tokens_isAt I_3 ⟨by omega, by omega⟩ ⟨by omega, by omega⟩ (fun v10 b_24 b_25 b_26 b_27 => ?_)
        refine ⟨fun c28 => ?_, fun c28 => ?_⟩
        · exact k_LawReader_comparison_b57 I_3 F_5 (by first | exact zCj_6 (by assumption) (by assumption) (by assumption) (by assumption) (by assumption) | exact zCj_7 (by assumption) (by assumption) (by assumption) (by assumption) (by assumption) | exact zCj_8 (by assumption) (by assumption) (by assumption) (by assumption) (by assumption) | exact zCj_n (by assumption) (by assumption) (by assumption) (by assumption) (by assumption) (by assumption) (by assumption) (by assumption)) ⟨by omega, by omega⟩ hQ
        · exact k_LawReader_comparison_b57 I_3 F_5 (by first | exact zCj_6 (by assumption) (by assumption) (by assumption) (by assumption) (by assumption) | exact zCj_7 (by assumption) (by assumption) (by assumption) (by assumption) (by assumption) | exact zCj_8 (by assumption) (by assumption) (by assumption) (by assumption) (by assumption) | exact zCj_n (by assumption) (by assumption) (by assumption) (by assumption) (by assumption) (by assumption) (by assumption) (by assumption)) ⟨by omega, by omega⟩ hQ
      · exact k_LawReader_comparison_b57 I_3 F_5 (by first | exact zCj_6 (by assumption) (by assumption) (by assumption) (by assumption) (by assumption) | exact zCj_7 (by assumption) (by assumption) (by assumption) (by assumption) (by assumption) | exact zCj_8 (by assumption) (by assumption) (by assumption) (by assumption) (by assumption) | exact zCj_n (by assumption) (by assumption) (by assumption) (by assumption) (by assumption) (by assumption) (by assumption) (by assumption)) ⟨by omega, by omega⟩ hQ
    · exact k_LawReader_comparison_b57 I_3 F_5 (by first | exact zCj_6 (by assumption) (by assumption) (by assumption) (by assumption) (by assumption) | exact zCj_7 (by assumption) (by assumption) (by assumption) (by assumption) (by assumption) | exact zCj_8 (by assumption) (by assumption) (by assumption) (by assumption) (by assumption) | exact zCj_n (by assumption) (by assumption) (by assumption) (by assumption) (by assumption) (by assumption) (by assumption) (by assumption)) ⟨by omega, by omega⟩ hQ
  · exact hQ _ _ I_3 F_5 ⟨by omega, by omega⟩ (by first | exact zCj_y (by assumption) (by assumption) (by assumption) (by assumption) (by assumption) (by assumption) (by assumption) (by assumption) | exact zCj_g (by assumption) (by assumption) (by assumption) (by assumption) (by assumption) (by assumption) | exact zCj_r (by assumption) (by assumption) (by assumption) (by assumption) | exact zCp_f (by assumption) (by assumption))
-- SpoutNews$LawReader.settleNots(LSpoutNews$Law;)V
theorem k_LawReader_settleNots_l2 {g0 : zi_M} {K : zi_M → Prop} {Q : Int → zi_M → Prop} {P0 : List Int} (hK : ∀ g, zk_I g → zk_fr fr_LawReader_settleNots g0 g → zB (zsnP P0) g → (g0 196 2 + ((zsnL P0).length : Int) ≤ 400 → zEa (zsnL P0) g0 g) → K g) :
    ∀ (P : List Int) (n : Nat) (l2 : Int) (M : List (Int × Int)) (g : zi_M), zk_I g → zk_fr fr_LawReader_settleNots g0 g → zB P g → zsnP P = zsnP P0 → M ++ zsnL P = zsnL P0 → (g0 196 2 + ((zsnL P0).length : Int) ≤ 400 → zEa M g0 g) → 0 ≤ l2 → l2 + g 212 2 ≤ 8 → P.length < n → w_LawReader_settleNots_l2 K Q n l2 g
  | P, 0, l2, M, g, I, F, h, e, eM, eE, h0, h1, hm => absurd hm (Nat.not_lt_zero _)
  | [], n + 1, l2, M, g, I, F, h, e, eM, eE, h0, h1, hm => by
    have q : g 212 1 = 0 := h.q1
    have b2 : 0 ≤ g 212 2 := (I.1 212 2).1
    unfold w_LawReader_settleNots_l2
    have eM' : M = zsnL P0 := by rw [← eM]; exact (List.append_nil M).symm
    have hk := hK g I F (by rw [← e]; exact h) (by rw [← eM']; rw [← eM'] at eE; exact eE)
    exact ⟨⟨by omega, by omega⟩, fun _ => hk, fun _ => ⟨zk_rng I _ _, fun _ => hk, fun n => by omega⟩⟩
  | x :: t, n + 1, l2, M, g, I, F, h, e, eM, eE, h0, h1, hm => by
    have q := h.q1
    rw [List.length_cons] at q hm
    have b2 : 0 ≤ g 212 2 := (I.1 212 2).1
    have b1 : g 212 1 ≤ 40 := (I.1 212 1).2
    have ei : g 212 1 - 1 = (t.length : Int) := by omega
    have hx : g 213 (g 212 1 - 1) = x := by rw [ei]; exact h.ql.1
    have ho : g 212 2 = zl_of 6 0 t + (if x = 6 ∨ x = 0 then 1 else 0) := h.op
    have o0 := zl_of0 6 0 t
    unfold w_LawReader_settleNots_l2
    by_cases e6 : x = 6
    · rw [if_pos (Or.inl e6)] at ho
      refine ⟨⟨by omega, by omega⟩, fun q => by omega, fun _ => ⟨zk_rng I _ _, fun q => by omega, fun _ => ⟨⟨by omega, by omega⟩, zk_rng I _ _, fun q => absurd (hx.trans e6) q, fun _ => ?_⟩⟩⟩
      refine k_Law_add I ⟨by decide, by decide⟩ ⟨by decide, by decide⟩ (fun g6 I6 F6 a6 => ?_)
      intro g8 e8 g9 e9
      have c1 : g6 212 1 = g 212 1 := F6 _ _ (by unfold fr_Law_add; omega)
      have c2 : g6 212 2 = g 212 2 := F6 _ _ (by unfold fr_Law_add; omega)
      have c3 : g6 212 3 = g 212 3 := F6 _ _ (by unfold fr_Law_add; omega)
      have z6 := h.c c1 c2 c3 (fun i => F6 _ _ (by unfold fr_Law_add; omega))
      rw [e6] at z6 e eM
      have z9 := z6.n e8 e9
      have d2 : g8 212 2 = g6 212 2 := by rw [e8]; exact zi_u_ni (by decide)
      have d9 : g9 212 2 = g 212 2 - 1 := by rw [e9, zi_u_eq, d2, c2]
      have b8 : g 212 2 ≤ 8 := (I.1 212 2).2
      have I8 : zk_I g8 := by rw [e8]; exact zk_upd (L := 0) (H := 40) rfl rfl I6 ⟨by omega, by omega⟩
      have I9 : zk_I g9 := by rw [e9]; exact zk_upd (L := 0) (H := 8) rfl rfl I8 ⟨by omega, by omega⟩
      have F6' : zk_fr fr_LawReader_settleNots g0 g6 := zk_ft F F6 (fun a i h => h.elim Or.inl (fun h => Or.inr (h.elim Or.inl (fun h => Or.inr (Or.inl h)))))
      have f9 : ∀ (a : Nat) (i : Int), 196 ≤ a → a ≤ 198 → g9 a i = g6 a i := fun a i h1 h2 => by rw [e9, zi_u_ne (by omega), e8, zi_u_ne (by omega)]
      rw [zsnP_y.2] at eM
      have ln : M.length + ((zsnL t).length + 1) = (zsnL P0).length := by rw [← eM, List.length_append, List.length_cons]
      refine k_LawReader_settleNots_l2 hK t n (l2 + 1) (M ++ [(9, 0)]) g9 I9 ?_ z9 (by rw [← e, zsnP_y.1]) (by rw [List.append_assoc]; exact eM) (fun cap => ?_) (by omega) (by omega) (by omega)
      · rw [e9, e8]; exact zk_fu (zk_fu F6' (Or.inr (Or.inr (Or.inr (Or.inl ⟨rfl, rfl⟩))))) (Or.inr (Or.inr (Or.inr (Or.inr ⟨rfl, rfl⟩))))
      · have E := eE cap
        have n1 := zEa_len E
        exact zEa_t E (zEa_m (a6 (by omega)) f9)
    · rw [(zsnP_n e6).1] at e
      rw [(zsnP_n e6).2, List.append_nil] at eM
      have hk := hK g I F (by rw [← e]; exact h) (by rw [← eM]; rw [← eM] at eE; exact eE)
      exact ⟨⟨by omega, by omega⟩, fun _ => hk, fun _ => ⟨zk_rng I _ _, fun _ => hk, fun _ => ⟨⟨by omega, by omega⟩, zk_rng I _ _, fun _ => hk, fun q => absurd (hx.symm.trans q) e6⟩⟩⟩
theorem k_LawReader_settleNots {g : zi_M} {Q : Int → zi_M → Prop} (I : zk_I g) (px0 : ∃ P, zB P g) (hQ : ∀ g' : zi_M, zk_I g' → zk_fr fr_LawReader_settleNots g g' → (∃ P, zB P g' ∧ zl_top P ≠ 6) → (∀ P : List Int, zB P g → zB (zsnP P) g' ∧ (g 196 2 + ((zsnL P).length : Int) ≤ 400 → zEa (zsnL P) g g')) → Q 0 g') : w_LawReader_settleNots g Q := by
  unfold w_LawReader_settleNots
  obtain ⟨P, hP⟩ := px0
  have b8 : g 212 2 ≤ 8 := (I.1 212 2).2
  have o := hP.op
  exact ⟨P.length + 1, k_LawReader_settleNots_l2 (g0 := g) (P0 := P) (fun g' I' F' z zE => hQ g' I' F' ⟨_, z, zsn_t P⟩ (fun P' h' => by rw [← zB_u hP h']; exact ⟨z, zE⟩)) P (P.length + 1) 0 [] g I (zk_f0 _) hP rfl rfl (fun _ => zEa_0) (by omega) (by omega) (Nat.lt_succ_self _)⟩

-- SpoutNews$LawReader.settleBinary(LSpoutNews$Law;I)V
theorem k_LawReader_settleBinary_l2 {g0 : zi_M} {l2 : Int} {P0 : List Int} {K45 K82 : zi_M → Prop} {Q : Int → zi_M → Prop} (q2 : l2 = 4 ∨ l2 = 5) (hK : ∀ g, zk_I g → zk_fr fr_LawReader_settleBinary g0 g → zB (zsbP l2 P0) g → (g0 196 2 + ((zsbL l2 P0).length : Int) ≤ 400 → zEa (zsbL l2 P0) g0 g) → K45 g ∧ K82 g) :
    ∀ (P : List Int) (n : Nat) (l3 : Int) (M : List (Int × Int)) (g : zi_M), zk_I g → zk_fr fr_LawReader_settleBinary g0 g → zB P g → zsbP l2 P = zsbP l2 P0 → M ++ zsbL l2 P = zsbL l2 P0 → (g0 196 2 + ((zsbL l2 P0).length : Int) ≤ 400 → zEa M g0 g) → 0 ≤ l3 → l3 + g 212 1 ≤ 40 → P.length < n → w_LawReader_settleBinary_l2 l2 K45 K82 Q n l3 g
  | P, 0, l3, M, g, I, F, h, e, eM, eE, h0, h1, hm => absurd hm (Nat.not_lt_zero _)
  | [], n + 1, l3, M, g, I, F, h, e, eM, eE, h0, h1, hm => by
    have q : g 212 1 = 0 := h.q1
    have eM' : M = zsbL l2 P0 := by rw [← eM]; exact (List.append_nil M).symm
    have hk := (hK g I F (by rw [← e]; exact h) (by rw [← eM']; rw [← eM'] at eE; exact eE)).2
    unfold w_LawReader_settleBinary_l2
    exact ⟨⟨by omega, by omega⟩, fun _ => hk, fun _ => ⟨zk_rng I _ _, fun _ => hk, fun n => by omega⟩⟩
  | x :: t, n + 1, l3, M, g, I, F, h, e, eM, eE, h0, h1, hm => by
    have q := h.q1
    rw [List.length_cons] at q hm
    have b1 : g 212 1 ≤ 40 := (I.1 212 1).2
    have ei : g 212 1 - 1 = (t.length : Int) := by omega
    have hx : g 213 (g 212 1 - 1) = x := by rw [ei]; exact h.ql.1
    have b48 : x = 5 ∨ (x = 4 ∧ l2 = 4) → w_LawReader_settleBinary_b48 l2 l3 (g 213 (g 212 1 - 1)) g (w_LawReader_settleBinary_l2 l2 K45 K82 Q n) K45 K82 Q := by
      intro hx2
      rw [(zsbP_y hx2).1] at e
      rw [(zsbP_y hx2).2] at eM
      have ln : M.length + ((zsbL l2 t).length + 1) = (zsbL l2 P0).length := by rw [← eM, List.length_append, List.length_cons]
      have go : ∀ w : Int, w = (if x = 5 then 10 else 11) → 0 ≤ w ∧ w ≤ 11 → w_Law_add w 0 g (fun _ g7 => (∀ g9, g9 = zi_u g7 212 1 ((g7 212 1) - 1) → w_LawReader_settleBinary_l2 l2 K45 K82 Q n (l3 + 1) g9)) := by
        intro w ew hw
        refine k_Law_add I hw ⟨by decide, by decide⟩ (fun g6 I6 F6 a6 => ?_)
        intro g9 e9
        have c1 : g6 212 1 = g 212 1 := F6 _ _ (by unfold fr_Law_add; omega)
        have c2 : g6 212 2 = g 212 2 := F6 _ _ (by unfold fr_Law_add; omega)
        have c3 : g6 212 3 = g 212 3 := F6 _ _ (by unfold fr_Law_add; omega)
        have z6 := h.c c1 c2 c3 (fun i => F6 _ _ (by unfold fr_Law_add; omega))
        have z9 := z6.b (by omega) e9
        have d1 : g9 212 1 = g 212 1 - 1 := by rw [e9, zi_u_eq, c1]
        have I9 : zk_I g9 := by rw [e9]; exact zk_upd (L := 0) (H := 40) rfl rfl I6 ⟨by omega, by omega⟩
        have F6' : zk_fr fr_LawReader_settleBinary g0 g6 := zk_ft F F6 (fun a i h => h.elim Or.inl (fun h => Or.inr (h.elim Or.inl (fun h => Or.inr (Or.inl h)))))
        have f9 : ∀ (a : Nat) (i : Int), 196 ≤ a → a ≤ 198 → g9 a i = g6 a i := fun a i h1 h2 => by rw [e9, zi_u_ne (by omega)]
        refine k_LawReader_settleBinary_l2 q2 hK t n (l3 + 1) (M ++ [(w, 0)]) g9 I9 (by rw [e9]; exact zk_fu F6' (Or.inr (Or.inr (Or.inr ⟨rfl, rfl⟩)))) z9 e (by rw [List.append_assoc, ew]; exact eM) (fun cap => ?_) (by omega) (by omega) (by omega)
        have E := eE cap
        have n1 := zEa_len E
        exact zEa_t E (zEa_m (a6 (by omega)) f9)
      unfold w_LawReader_settleBinary_b48
      refine ⟨zk_rng I _ _, fun n5 => go 11 ?_ ⟨by decide, by decide⟩, fun e5 => go 10 ?_ ⟨by decide, by decide⟩⟩
      · rw [if_neg (fun q => by omega)]
      · rw [if_pos (by omega)]
    have st : ¬ (x = 5 ∨ (x = 4 ∧ l2 = 4)) → K45 g ∧ K82 g := fun nx => by
      rw [(zsbP_n nx).1] at e
      rw [(zsbP_n nx).2, List.append_nil] at eM
      exact hK g I F (by rw [← e]; exact h) (by rw [← eM]; rw [← eM] at eE; exact eE)
    unfold w_LawReader_settleBinary_l2
    refine ⟨⟨by omega, by omega⟩, fun q => by omega, fun _ => ⟨zk_rng I _ _, fun q => by omega, fun _ => ⟨⟨by omega, by omega⟩, zk_rng I _ _, fun e5 => b48 (by omega), fun n5 => ⟨fun n4 => ?_, fun e4 => ⟨⟨by omega, by omega⟩, fun el => b48 (by omega), fun nl => ?_⟩⟩⟩⟩⟩
    · rw [hx] at n5 n4
      exact (st (by omega)).2
    · rw [hx] at n5
      exact (st (by omega)).1
theorem k_LawReader_settleBinary {l2 : Int} {g : zi_M} {Q : Int → zi_M → Prop} (I : zk_I g) (p2 : (-1) ≤ l2 ∧ l2 ≤ 9999) (px0 : l2 = 4 ∨ l2 = 5) (px1 : ∃ P, zB P g ∧ zl_top P ≠ 6) (hQ : ∀ g' : zi_M, zk_I g' → zk_fr fr_LawReader_settleBinary g g' → (∃ P, zB P g' ∧ zl_top P ≠ 6 ∧ zl_top P ≠ 5 ∧ (l2 = 4 → zl_top P ≠ 4)) → (∀ P : List Int, zB P g → zB (zsbP l2 P) g' ∧ (g 196 2 + ((zsbL l2 P).length : Int) ≤ 400 → zEa (zsbL l2 P) g g')) → Q 0 g') : w_LawReader_settleBinary l2 g Q := by
  unfold w_LawReader_settleBinary
  obtain ⟨P, hP, ht⟩ := px1
  have b1 : g 212 1 ≤ 40 := (I.1 212 1).2
  have hh : ∀ g', zk_I g' → zk_fr fr_LawReader_settleBinary g g' → zB (zsbP l2 P) g' → (g 196 2 + ((zsbL l2 P).length : Int) ≤ 400 → zEa (zsbL l2 P) g g') → Q 0 g' := fun g' I' F' z zE => by
    have tp := zsb_top px0 hP.ok ht
    exact hQ g' I' F' ⟨_, z, tp.1, tp.2.1, tp.2.2⟩ (fun P' h' => by rw [← zB_u hP h']; exact ⟨z, zE⟩)
  exact ⟨P.length + 1, k_LawReader_settleBinary_l2 (g0 := g) (P0 := P) px0 (fun g' I' F' z zE => ⟨hh g' I' F' z zE, hh g' I' F' z zE⟩) P (P.length + 1) 0 [] g I (zk_f0 _) hP rfl rfl (fun _ => zEa_0) (by omega) (by omega) (Nat.lt_succ_self _)⟩

-- SpoutNews$LawReader.closeAll(LSpoutNews$Tokens;LSpoutNews$Law;)V
theorem k_LawReader_closeAll_l7 {g0 gA : zi_M} {PA : List Int} {K : zi_M → Prop} {Q : Int → zi_M → Prop} (hK : ∀ (g : zi_M) (P : List Int) (L : List (Int × Int)) (k : Nat), zk_I g → zk_fr fr_LawReader_closeAll g0 g → zB P g → zl_top P ≠ 6 → (∀ (T : zyT) (t0 : Int), zyC T gA t0 → zyE T → gA 196 2 + (PA.length : Int) ≤ t0 → zyC T g (t0 + (k : Int)) ∧ zEa L gA g ∧ (∀ n : Nat, zCd T (n + k) 0 PA t0 = zpre L (zCd T n 0 P (t0 + (k : Int)))) ∧ g 196 2 + (P.length : Int) ≤ t0 + (k : Int) ∧ ¬ (1 ≤ zl_of 0 0 P ∧ zSg T 41 (t0 + (k : Int)))) → K g) :
    ∀ (n : Nat) (l3 : Int) (P : List Int) (L : List (Int × Int)) (k : Nat) (g : zi_M), zk_I g → zk_fr fr_LawReader_closeAll g0 g → zB P g → zl_top P ≠ 6 → (∀ (T : zyT) (t0 : Int), zyC T gA t0 → zyE T → gA 196 2 + (PA.length : Int) ≤ t0 → zyC T g (t0 + (k : Int)) ∧ zEa L gA g ∧ (∀ n : Nat, zCd T (n + k) 0 PA t0 = zpre L (zCd T n 0 P (t0 + (k : Int)))) ∧ g 196 2 + (P.length : Int) ≤ t0 + (k : Int)) → l3 + zl_of 0 0 P ≤ 8 → 0 ≤ l3 → l3 ≤ 8 → 8 - l3 < (n : Int) → w_LawReader_closeAll_l7 K Q n l3 g
  | 0, l3, P, L, k, g, I, F, h, ht, hS, hp8, h0, h1, hm => by exfalso; omega
  | n + 1, l3, P, L, k, g, I, F, h, ht, hS, hp8, h0, h1, hm => by
    have pr0 := h.pr
    have p00 := zl_of0 0 0 P
    unfold w_LawReader_closeAll_l7
    have hk : (∀ (T : zyT) (t : Int), zyC T g t → ¬ (1 ≤ zl_of 0 0 P ∧ zSg T 41 t)) → K g := fun hn => hK g P L k I F h ht (fun T t0 hC hE hs => by
      obtain ⟨s1, s2, s3, s4⟩ := hS T t0 hC hE hs
      exact ⟨s1, s2, s3, s4, hn T _ s1⟩)
    refine ⟨⟨by omega, by omega⟩, fun _ => hk (fun T t _ w => by have := w.1; omega), fun _ => ⟨zk_rng I _ _, fun _ => hk (fun T t _ w => by have := w.1; omega), fun hp => ?_⟩⟩
    refine k_Tokens_isAt I ⟨by decide, by decide⟩ ⟨by decide, by decide⟩ (fun v6 d1 d2 d3 d4 => ⟨fun z6 => hk (fun T t hC w => zis_n hC d4 z6 w.2), fun n6 => ?_⟩)
    have c1 : 1 ≤ zl_of 0 0 P := by omega
    obtain ⟨t, et⟩ := zsb_0 h.ok ht c1
    refine k_LawReader_settleBinary I ⟨by decide, by decide⟩ (Or.inl rfl) ⟨P, h, ht⟩ (fun g10 I10 F10 hz sb => ?_)
    have z2 := (sb P h).1
    rw [et] at z2
    intro g12 e12 g13 e13 g14 e14
    have z14 := z2.p e12 e13 e14
    have q1 := z2.q1
    rw [List.length_cons] at q1
    have o : g10 212 2 = zl_of 6 0 t + 1 := z2.op
    have p : g10 212 3 = zl_of 0 0 t + 1 := z2.pr
    have o0 := zl_of0 6 0 t
    have p0 := zl_of0 0 0 t
    have r1 : g10 212 1 ≤ 40 := (I10.1 212 1).2
    have r2 : g10 212 2 ≤ 8 := (I10.1 212 2).2
    have r3 : g10 212 3 ≤ 8 := (I10.1 212 3).2
    have a3 : g12 212 3 = g10 212 3 := by rw [e12]; exact zi_u_ni (by decide)
    have a2 : g13 212 2 = g10 212 2 := by rw [e13, zi_u_ni (by decide), e12]; exact zi_u_ni (by decide)
    have I12 : zk_I g12 := by rw [e12]; exact zk_upd (L := 0) (H := 40) rfl rfl I10 ⟨by omega, by omega⟩
    have I13 : zk_I g13 := by rw [e13]; exact zk_upd (L := 0) (H := 8) rfl rfl I12 ⟨by omega, by omega⟩
    have I14 : zk_I g14 := by rw [e14]; exact zk_upd (L := 0) (H := 8) rfl rfl I13 ⟨by omega, by omega⟩
    have G10 : zk_fr fr_LawReader_closeAll g0 g10 := zk_ft F F10 (fun a i h => h.elim Or.inl (fun h => Or.inr (h.elim Or.inl (fun h => Or.inr (Or.inr (h.elim Or.inl (fun h => Or.inr (Or.inl h))))))))
    have G14 : zk_fr fr_LawReader_closeAll g0 g14 := by
      rw [e14, e13, e12]
      exact zk_fu (zk_fu (zk_fu G10 (Or.inr (Or.inr (Or.inr (Or.inr (Or.inl ⟨rfl, rfl⟩)))))) (Or.inr (Or.inr (Or.inr (Or.inr (Or.inr (Or.inr ⟨rfl, rfl⟩))))))) (Or.inr (Or.inr (Or.inr (Or.inr (Or.inr (Or.inl ⟨rfl, rfl⟩))))))
    have f14 : ∀ (a : Nat) (i : Int), 191 ≤ a → a ≤ 198 → g14 a i = g10 a i := fun a i h1 h2 => by rw [e14, zi_u_ne (by omega), e13, zi_u_ne (by omega), e12, zi_u_ne (by omega)]
    have f10 : ∀ (a : Nat) (i : Int), 191 ≤ a → a ≤ 194 → g10 a i = g a i := fun a i h1 h2 => F10 a i (fun q => by unfold fr_LawReader_settleBinary at q; omega)
    refine k_Tokens_step I14 (fun g16 I16 F16 st => ?_)
    have z16 : zB t g16 := z14.c (F16 _ _ (by unfold fr_Tokens_step; omega)) (F16 _ _ (by unfold fr_Tokens_step; omega)) (F16 _ _ (by unfold fr_Tokens_step; omega)) (fun i => F16 _ _ (by unfold fr_Tokens_step; omega))
    have G16 : zk_fr fr_LawReader_closeAll g0 g16 := zk_ft G14 F16 (fun a i h => Or.inr (Or.inr (Or.inl h)))
    have f16 : ∀ (a : Nat) (i : Int), 196 ≤ a → a ≤ 198 → g16 a i = g10 a i := fun a i h1 h2 => by rw [zsf_196 F16 a i h1 h2]; exact f14 a i (by omega) h2
    refine k_LawReader_settleNots I16 ⟨t, z16⟩ (fun g19 I19 F19 hz sn => ?_)
    have z19 := (sn t z16).1
    have f19 : ∀ (a : Nat) (i : Int), 191 ≤ a → a ≤ 194 → g19 a i = g16 a i := fun a i h1 h2 => F19 a i (fun q => by unfold fr_LawReader_settleNots at q; omega)
    have pof : zl_of 0 0 (zsnP t) + 1 = zl_of 0 0 P := by
      rw [zsn_of, ← zsb_of 4 P, et]
      show _ = zl_of 0 0 t + (if (0 : Int) = 0 ∨ (0 : Int) = 0 then 1 else 0)
      rw [if_pos (Or.inl rfl)]
    refine k_LawReader_closeAll_l7 hK n (l3 + 1) (zsnP t) (L ++ (zsbL 4 P ++ zsnL t)) (k + 1) g19 I19 (zk_ft G16 F19 (fun a i h => h.elim Or.inl (fun h => Or.inr (h.elim Or.inl (fun h => Or.inr (Or.inr (h.elim Or.inl (fun h => Or.inr (h.elim Or.inl (fun h => Or.inr (Or.inl h))))))))))) z19 (zsn_t t) (fun T t0 hC hE hs => ?_) (by omega) (by omega) (by omega) (by omega)
    obtain ⟨s1, s2, s3, s4⟩ := hS T t0 hC hE hs
    have y := zis_y s1 d2 d3 n6
    have b := zyC_b s1 hE
    have l1 := zsb_l 4 P
    rw [et, List.length_cons] at l1
    have l2 := zsn_l t
    have E1 := (sb P h).2 (by omega)
    have n1 := zEa_len E1
    have n16 : g16 196 2 = g10 196 2 := f16 196 2 (by decide) (by decide)
    have E2 := (sn t z16).2 (by omega)
    have n2 := zEa_len E2
    have c14 : zyC T g14 (t0 + (k : Int)) := zyC_m s1 (fun a i h1 h2 => by rw [f14 a i h1 (by omega), f10 a i h1 h2])
    have c16 := st T _ c14 hE (by omega)
    rw [show t0 + (k : Int) + 1 = t0 + ((k + 1 : Nat) : Int) by omega] at c16
    refine ⟨zyC_m c16 f19, zEa_t s2 (zEa_t E1 (zEa_s E2 f16)), fun m => ?_, by omega⟩
    rw [show m + (k + 1) = (m + 1) + k by omega, s3 (m + 1), zCd_p (by omega) y, et, zpre_p, show t0 + (k : Int) + 1 = t0 + ((k + 1 : Nat) : Int) by omega]
    rfl
theorem k_LawReader_closeAll {g : zi_M} {Q : Int → zi_M → Prop} (I : zk_I g) (px0 : ∃ P, zB P g) (hQ : ∀ g' : zi_M, zk_I g' → zk_fr fr_LawReader_closeAll g g' → (∃ P, zB P g' ∧ zl_top P ≠ 6) → (∀ (T : zyT) (t : Int) (P : List Int), zyC T g t → zyE T → zB P g → g 196 2 + (P.length : Int) ≤ t → ∃ g2 : zi_M, zEa (zsnL P) g g2 ∧ zclS T (zsnP P) t g2 g') → Q 0 g') : w_LawReader_closeAll g Q := by
  unfold w_LawReader_closeAll
  obtain ⟨P, hP⟩ := px0
  refine k_LawReader_settleNots I ⟨P, hP⟩ (fun g2 I2 F2 hz sn => ?_)
  obtain ⟨z, zE⟩ := sn P hP
  have G2 : zk_fr fr_LawReader_closeAll g g2 := zk_ft (zk_f0 _) F2 (fun a i h => h.elim Or.inl (fun h => Or.inr (h.elim Or.inl (fun h => Or.inr (Or.inr (h.elim Or.inl (fun h => Or.inr (h.elim Or.inl (fun h => Or.inr (Or.inl h)))))))))) 
  have f2 : ∀ (a : Nat) (i : Int), 191 ≤ a → a ≤ 194 → g2 a i = g a i := fun a i h1 h2 => F2 a i (fun q => by unfold fr_LawReader_settleNots at q; omega)
  have r3 : g2 212 3 ≤ 8 := (I2.1 212 3).2
  have pr := z.pr
  refine ⟨9, k_LawReader_closeAll_l7 (gA := g2) (PA := zsnP P) (fun g' P' L k I' F' z' t' hS => hQ g' I' F' ⟨_, z', t'⟩ (fun T t P1 hC hE h1 hs => ?_)) 9 0 (zsnP P) [] 0 g2 I2 G2 z (zsn_t P) (fun T t0 hC hE hs => ?_) (by omega) (by omega) (by omega) (by omega)⟩
  · have e1 := zB_u hP h1
    subst e1
    have b := zyC_b hC hE
    have ln := zsn_l P
    have E := zE (by omega)
    have n1 := zEa_len E
    obtain ⟨s1, s2, s3, s4, s5⟩ := hS T t (zyC_m hC f2) hE (by omega)
    exact ⟨g2, E, P', _, L, k, s1, z', s2, s3, t', s5, rfl, s4⟩
  · have e0 : t0 + ((0 : Nat) : Int) = t0 := by omega
    rw [e0]
    exact ⟨hC, zEa_0, fun n => rfl, hs⟩

-- SpoutNews$LawReader.conditions(LSpoutNews$Tokens;LSpoutNews$Law;)Z
theorem k_LawReader_conditions_l17 {g0 : zi_M} {K41 K65 K97 : zi_M → Prop} {Q : Int → zi_M → Prop} (hK41 : ∀ g, zk_I g → zk_fr fr_LawReader_conditions g0 g → zkF g0 g → K41 g) (hK65 : ∀ g P, zk_I g → zk_fr fr_LawReader_conditions g0 g → zB P g → zl_top P ≠ 6 → zkE P g0 g → K65 g) (hK97 : ∀ g P, zk_I g → zk_fr fr_LawReader_conditions g0 g → zB P g → zl_top P ≠ 6 → zkE P g0 g → K97 g) :
    ∀ (n : Nat) (l3 : Int) (P : List Int) (g : zi_M), zk_I g → zk_fr fr_LawReader_conditions g0 g → zB P g → zl_top P ≠ 6 → zkD l3 P g0 g → 0 ≤ l3 → l3 ≤ 401 → 401 - l3 < (n : Int) → w_LawReader_conditions_l17 K41 K65 K97 Q n l3 g
  | 0, l3, P, g, I, F, h, ht, hD, h0, h1, hm => by exfalso; omega
  | n + 1, l3, P, g, I, F, h, ht, hD, h0, h1, hm => by
    unfold w_LawReader_conditions_l17
    refine ⟨⟨by omega, by omega⟩, fun c => hK97 g P I F h ht (zkD_x hD (by omega)), fun hl => ?_⟩
    have OC : ∀ a i, fr_LawReader_openAll a i → fr_LawReader_conditions a i := by
      intro a i h
      unfold fr_LawReader_openAll at h
      unfold fr_LawReader_conditions
      rcases h with h | h | h | h | h | h | h <;> simp [h]
    have CC : ∀ a i, fr_LawReader_comparison a i → fr_LawReader_conditions a i := by
      intro a i h
      unfold fr_LawReader_comparison at h
      unfold fr_LawReader_conditions
      rcases h with h | h | h | h | h | h <;> simp [h]
    have LC : ∀ a i, fr_LawReader_closeAll a i → fr_LawReader_conditions a i := by
      intro a i h
      unfold fr_LawReader_closeAll at h
      unfold fr_LawReader_conditions
      rcases h with h | h | h | h | h | h | h <;> simp [h]
    have BC : ∀ a i, fr_LawReader_settleBinary a i → fr_LawReader_conditions a i := by
      intro a i h
      unfold fr_LawReader_settleBinary at h
      unfold fr_LawReader_conditions
      rcases h with h | h | h | h <;> simp [h]
    have UC : ∀ a i, fr_LawReader_push a i → fr_LawReader_conditions a i := by
      intro a i h
      unfold fr_LawReader_push at h
      unfold fr_LawReader_conditions
      rcases h with h | h <;> simp [h]
    have SC : ∀ a i, fr_Tokens_step a i → fr_LawReader_conditions a i := by
      intro a i h
      unfold fr_Tokens_step at h
      unfold fr_LawReader_conditions
      simp [h]
    refine k_LawReader_openAll I ⟨P, h⟩ (fun v5 g6 I6 F6 hv5 hz oS => ⟨fun z5 => hK41 g6 I6 (zk_ft F F6 OC) (zk_open hD h oS z5), fun n5 => ?_⟩)
    obtain ⟨P6, z6⟩ := hz n5
    have G6 := zk_ft F F6 OC
    have f6 : ∀ (a : Nat) (i : Int), 196 ≤ a → a ≤ 198 → g6 a i = g a i := fun a i h1 h2 => F6 a i (fun q => by unfold fr_LawReader_openAll at q; omega)
    refine k_LawReader_comparison I6 (fun v8 g9 I9 F9 hv8 cm => ⟨fun n8 => ?_, fun z8 => hK41 g9 I9 (zk_ft G6 F9 CC) (zk_cmp hD h oS n5 f6 z6 cm z8)⟩)
    have z9 : zB P6 g9 := z6.c (F9 _ _ (by unfold fr_LawReader_comparison; omega)) (F9 _ _ (by unfold fr_LawReader_comparison; omega)) (F9 _ _ (by unfold fr_LawReader_comparison; omega)) (fun i => F9 _ _ (by unfold fr_LawReader_comparison; omega))
    have G9 := zk_ft G6 F9 CC
    refine k_LawReader_closeAll I9 ⟨P6, z9⟩ (fun g12 I12 F12 hz cl => ?_)
    obtain ⟨P12, z12, t12⟩ := hz
    have G12 := zk_ft G9 F12 LC
    have hM := zk_mid hD h oS n5 f6 z6 cm n8 z9 cl z12
    have r := I12.1 193 (g12 191 4)
    have r1 : -1 ≤ g12 193 (g12 191 4) := r.1
    have r2 : g12 193 (g12 191 4) ≤ 9999 := r.2
    have b68 : (g12 191 4 < g12 191 3 ∧ g12 192 (g12 191 4) = 2 ∧ (g12 193 (g12 191 4) = 4 ∨ g12 193 (g12 191 4) = 5)) → w_LawReader_conditions_b68 l3 g12 (w_LawReader_conditions_l17 K41 K65 K97 Q n) K41 K65 K97 Q := by
      intro hk
      unfold w_LawReader_conditions_b68
      refine k_Tokens_keyword I12 (fun v18 d1 d2 d3 => ?_)
      have hv := d3 hk.1 hk.2.1
      refine k_LawReader_settleBinary I12 ⟨by omega, by omega⟩ (by omega) ⟨P12, z12, t12⟩ (fun g22 I22 F22 hz sb => ?_)
      obtain ⟨P22', z22', t6', t5', t4'⟩ := hz
      have z22 := (sb P12 z12).1
      have e22 := zB_u z22 z22'
      have t6 : zl_top (zsbP v18 P12) ≠ 6 := by rw [e22]; exact t6'
      have t5 : zl_top (zsbP v18 P12) ≠ 5 := by rw [e22]; exact t5'
      have t4 : v18 = 4 → zl_top (zsbP v18 P12) ≠ 4 := by rw [e22]; exact t4'
      have G22 := zk_ft G12 F22 BC
      have ln := z22.len I22
      have q1 := z22.q1
      refine k_LawReader_push I22 ⟨by omega, by omega⟩ (fun g25 I25 F25 hp => ?_)
      obtain ⟨w1, w2, w3⟩ := hp (by omega)
      have z25 : zB (v18 :: zsbP v18 P12) g25 := by
        refine z22.u ⟨z22.ok, ?_⟩ w1 w2 w3 ?_ ?_
        · by_cases e : v18 = 5
          · exact Or.inr (Or.inr (Or.inl ⟨e, t6, t5⟩))
          · exact Or.inr (Or.inr (Or.inr ⟨by omega, t6, t5, t4 (by omega)⟩))
        · rw [F25 _ _ (by unfold fr_LawReader_push; omega), if_neg (by omega)]; omega
        · rw [F25 _ _ (by unfold fr_LawReader_push; omega), if_neg (by omega)]; omega
      have G25 := zk_ft G22 F25 UC
      have f22 : ∀ (a : Nat) (i : Int), 191 ≤ a → a ≤ 194 → g22 a i = g12 a i := fun a i h1 h2 => F22 a i (fun q => by unfold fr_LawReader_settleBinary at q; omega)
      have f25 : ∀ (a : Nat) (i : Int), 191 ≤ a → a ≤ 198 → g25 a i = g22 a i := fun a i h1 h2 => F25 a i (fun q => by unfold fr_LawReader_push at q; omega)
      refine k_Tokens_step I25 (fun g28 I28 F28 st => ?_)
      refine k_LawReader_conditions_l17 hK41 hK65 hK97 n (l3 + 1) (v18 :: zsbP v18 P12) g28 I28 (zk_ft G25 F28 SC) (z25.c ?_ ?_ ?_ (fun i => ?_)) (show v18 ≠ 6 by omega) (zk_and hM z12 (by omega) d2 d3 sb f22 f25 st F28) (by omega) (by omega) (by omega)
      · exact F28 _ _ (by unfold fr_Tokens_step; omega)
      · exact F28 _ _ (by unfold fr_Tokens_step; omega)
      · exact F28 _ _ (by unfold fr_Tokens_step; omega)
      · exact F28 _ _ (by unfold fr_Tokens_step; omega)
    refine k_Tokens_keyword I12 (fun v14 d1 d2 d3 => ⟨⟨by omega, by omega⟩, fun e5 => b68 (by omega), fun n5 => ?_⟩)
    refine k_Tokens_keyword I12 (fun v30 f1 f2 f3 => ⟨⟨by omega, by omega⟩, fun e4 => b68 (by omega), fun n4 => hK65 g12 P12 I12 G12 z12 t12 (zk_end hM z12 d3 n5 f3 n4)⟩)
theorem k_LawReader_conditions {g : zi_M} {Q : Int → zi_M → Prop} (I : zk_I g) (hQ : ∀ (v : Int) (g' : zi_M), zk_I g' → zk_fr fr_LawReader_conditions g g' → (0 ≤ v ∧ v ≤ 1) → (zcon zCnd v g g') → Q v g') : w_LawReader_conditions g Q := by
  unfold w_LawReader_conditions
  intro g1 e1 g2 e2 g3 e3
  have I1 : zk_I g1 := by rw [e1]; exact zk_upd (L := 0) (H := 40) rfl rfl I ⟨by decide, by decide⟩
  have I2 : zk_I g2 := by rw [e2]; exact zk_upd (L := 0) (H := 8) rfl rfl I1 ⟨by decide, by decide⟩
  have I3 : zk_I g3 := by rw [e3]; exact zk_upd (L := 0) (H := 8) rfl rfl I2 ⟨by decide, by decide⟩
  have w : ∀ k : Int, k = 1 ∨ k = 2 ∨ k = 3 → fr_LawReader_conditions 212 k := by
    intro k hk
    unfold fr_LawReader_conditions
    rcases hk with h | h | h <;> simp [h]
  have F3 : zk_fr fr_LawReader_conditions g g3 := by
    rw [e3, e2, e1]
    exact zk_fu (zk_fu (zk_fu (zk_f0 _) (w 1 (Or.inl rfl))) (w 2 (Or.inr (Or.inl rfl)))) (w 3 (Or.inr (Or.inr rfl)))
  have z3 : zB [] g3 := ⟨by rw [e3, zi_u_ni (by decide), e2, zi_u_ni (by decide), e1, zi_u_eq]; rfl, trivial, trivial, by rw [e3, zi_u_ni (by decide), e2, zi_u_eq]; rfl, by rw [e3, zi_u_eq]; rfl⟩
  have f3 : ∀ (a : Nat) (i : Int), 191 ≤ a → a ≤ 198 → g3 a i = g a i := fun a i h1 h2 => by rw [e3, zi_u_ne (by omega), e2, zi_u_ne (by omega), e1, zi_u_ne (by omega)]
  have b97 : ∀ g' P, zk_I g' → zk_fr fr_LawReader_conditions g g' → zB P g' → zl_top P ≠ 6 → zkE P g g' → w_LawReader_conditions_b97 g' Q := by
    intro g' P I' F' z' t' hE'
    have pr := z'.pr
    have p0 := zl_of0 0 0 P
    unfold w_LawReader_conditions_b97
    refine ⟨zk_rng I' _ _, fun c => ?_, fun c => ?_⟩
    · refine k_LawReader_settleBinary I' ⟨by decide, by decide⟩ (Or.inl rfl) ⟨P, z', t'⟩ (fun g'' I'' F'' _ sb => hQ _ _ I'' (zk_ft F' F'' (fun a i h => ?_)) ⟨by decide, by decide⟩ (zkE_y hE' z' (by omega) sb (fun a i h1 h2 => F'' a i (fun q => by unfold fr_LawReader_settleBinary at q; omega))))
      unfold fr_LawReader_settleBinary at h
      unfold fr_LawReader_conditions
      rcases h with h | h | h | h <;> simp [h]
    · refine k_Tokens_refuse I' ⟨by decide, by decide⟩ (fun v g'' I'' F'' hv rf => hQ _ _ I'' (zk_ft F' F'' (fun a i h => ?_)) ⟨by omega, by omega⟩ (zkE_n hE' (by omega) rf (by omega)))
      unfold fr_Tokens_refuse at h
      unfold fr_LawReader_conditions
      rcases h with h | h <;> simp [h]
  exact ⟨402, k_LawReader_conditions_l17 (fun g' I' F' hF => hQ _ _ I' F' ⟨by decide, by decide⟩ (zkF_c hF)) (fun g' P I' F' z' t' hE' => b97 g' P I' F' z' t' hE') (fun g' P I' F' z' t' hE' => b97 g' P I' F' z' t' hE') 402 0 [] g3 I3 F3 z3 (show (0 : Int) ≠ 6 by decide) (zkD_0 f3) (by omega) (by omega) (by omega)⟩

-- SpoutNews$LawReader.readLaw(LSpoutNews$Tokens;LSpoutNews$Law;)Z
theorem k_LawReader_readLaw_l6 {g0 : zi_M} {K36 K67 K96 K108 K126 : zi_M → Prop} {Q : Int → zi_M → Prop} (hK36 : ∀ g, zk_I g → zk_fr fr_LawReader_readLaw g0 g → (∀ (v : Int) (g1 : zi_M), v = 0 → (∀ (T : zyT) (t : Int), zyC T g t → zyF T g1 1 t) → zLwf v g0 g1) → K36 g) (hK67 : ∀ g, zk_I g → zk_fr fr_LawReader_readLaw g0 g → zLwf 0 g0 g → K67 g) (hK96 : ∀ g, zk_I g → zk_fr fr_LawReader_readLaw g0 g → zLwf 0 g0 g → K96 g) (hK108 : ∀ g, zk_I g → zk_fr fr_LawReader_readLaw g0 g → zLwf 0 g0 g → K108 g) (hK126 : ∀ g, zk_I g → zk_fr fr_LawReader_readLaw g0 g → zLwf 1 g0 g → K126 g) :
    ∀ (n : Nat) (l3 : Int) (g : zi_M), zk_I g → zk_fr fr_LawReader_readLaw g0 g → zLwl l3 g0 g → 0 ≤ l3 → l3 ≤ 17 → 17 - l3 < (n : Int) → w_LawReader_readLaw_l6 K36 K67 K96 K108 K126 Q n l3 g
  | 0, l3, g, I, F, h, h0, h1, hm => by exfalso; omega
  | n + 1, l3, g, I, F, h, h0, h1, hm => by
    unfold w_LawReader_readLaw_l6
    refine ⟨⟨by omega, by omega⟩, fun c => hK126 g I F (zLwl_x h c), fun hl => ?_⟩
    refine k_Tokens_isAtEnd I (fun v5 b0 b1 b2 => ⟨fun n5 => hK126 g I F (zLwl_e h b1 n5), fun z5 => ?_⟩)
    have r := I.1 193 (g 191 4)
    have r1 : -1 ≤ g 193 (g 191 4) := r.1
    have r2 : g 193 (g 191 4) ≤ 9999 := r.2
    refine k_Tokens_keyword I (fun v8 d1 d2 d3 => ⟨⟨by omega, by omega⟩, fun c => hK36 g I F (fun v g1 hv rf => zLwl_1 h b2 z5 d3 (Or.inl c) rf hv), fun c0 => ⟨fun c2 => ?_, fun c => hK36 g I F (fun v g1 hv rf => zLwl_1 h b2 z5 d3 (Or.inr c) rf hv)⟩⟩)
    have TC : ∀ a i, fr_Tokens_takeLineStart a i → fr_LawReader_readLaw a i := (fun a i h => by unfold fr_Tokens_takeLineStart at h; unfold fr_LawReader_readLaw; rcases h with h | h | h <;> simp [h])
    have SC : ∀ a i, fr_LawReader_sum a i → fr_LawReader_readLaw a i := (fun a i h => by unfold fr_LawReader_sum at h; unfold fr_LawReader_readLaw; rcases h with h | h | h | h | h | h <;> simp [h])
    have PC : ∀ a i, fr_Tokens_step a i → fr_LawReader_readLaw a i := (fun a i h => by unfold fr_Tokens_step at h; unfold fr_LawReader_readLaw; simp [h])
    have CC : ∀ a i, fr_LawReader_conditions a i → fr_LawReader_readLaw a i := (fun a i h => by unfold fr_LawReader_conditions at h; unfold fr_LawReader_readLaw; rcases h with h | h | h | h | h | h | h | h | h | h <;> simp [h])
    have KC : ∀ a i, fr_Tokens_take a i → fr_LawReader_readLaw a i := (fun a i h => by unfold fr_Tokens_take at h; unfold fr_LawReader_readLaw; rcases h with h | h | h <;> simp [h])
    have AC : ∀ a i, fr_Law_addLine a i → fr_LawReader_readLaw a i := (fun a i h => by unfold fr_Law_addLine at h; unfold fr_LawReader_readLaw; rcases h with h | h | h | h | h <;> simp [h])
    refine k_Tokens_takeLineStart I ⟨by omega, by omega⟩ ⟨by omega, by omega⟩ (fun v12 g13 I13 F13 hv12 tk => ⟨fun z12 => hK67 g13 I13 (zk_ft F F13 TC) (zLwl_t h d2 d3 c0 c2 tk z12), fun n12 => ?_⟩)
    have G13 := zk_ft F F13 TC
    refine k_LawReader_sum I13 (fun v15 g16 I16 F16 hv15 su => ⟨fun n15 => ?_, fun z15 => hK67 g16 I16 (zk_ft G13 F16 SC) (zLwl_s h d2 d3 c0 c2 tk F13 n12 su z15)⟩)
    have G16 := zk_ft G13 F16 SC
    have ra : 0 ≤ g 196 2 ∧ g 196 2 ≤ 400 := I.1 196 2
    have rb : 0 ≤ g16 196 2 ∧ g16 196 2 ≤ 400 := I16.1 196 2
    have b98 : ∀ g19, zk_I g19 → zk_fr fr_LawReader_readLaw g0 g19 → zLwj l3 v8 (g 196 2) (g16 196 2) g0 g19 → w_LawReader_readLaw_b98 l3 v8 (g 196 2) (g16 196 2) g19 (w_LawReader_readLaw_l6 K36 K67 K96 K108 K126 Q n) K36 K67 K96 K108 K126 Q := by
      intro g19 I19 F19 j
      unfold w_LawReader_readLaw_b98
      refine k_Tokens_take I19 ⟨by decide, by decide⟩ ⟨by decide, by decide⟩ (fun v22 g23 I23 F23 hv22 tk2 => ⟨fun n22 => ?_, fun z22 => hK108 g23 I23 (zk_ft F19 F23 KC) (zLwj_f j tk2 z22)⟩)
      refine k_Law_addLine I23 ⟨by omega, by omega⟩ ⟨by omega, by omega⟩ ⟨by omega, by omega⟩ (fun g26 I26 F26 al => ?_)
      exact k_LawReader_readLaw_l6 hK36 hK67 hK96 hK108 hK126 n (l3 + 1) g26 I26 (zk_ft (zk_ft F19 F23 KC) F26 AC) (zLwj_y j tk2 F23 n22 al F26) (by omega) (by omega) (by omega)
    have s16 := I16.1 193 (g16 191 4)
    have s1 : -1 ≤ g16 193 (g16 191 4) := s16.1
    have s2 : g16 193 (g16 191 4) ≤ 9999 := s16.2
    refine k_Tokens_keyword I16 (fun v18 w1 w2 w3 => ⟨⟨by omega, by omega⟩, fun n18 => b98 g16 I16 G16 (zLwj_1 h d2 d3 c0 c2 tk F13 n12 su F16 n15 w3 n18), fun e18 => ?_⟩)
    refine k_Tokens_step I16 (fun g30 I30 F30 st => ?_)
    refine k_LawReader_conditions I30 (fun v32 g33 I33 F33 hv32 cd => ?_)
    have G33 := zk_ft (zk_ft G16 F30 PC) F33 CC
    have X := zLwj_2 h d2 d3 c0 c2 tk F13 n12 su F16 n15 w2 w3 e18 st F30 cd F33
    exact ⟨fun n32 => b98 g33 I33 G33 (X.1 n32), fun z32 => hK96 g33 I33 G33 (X.2 z32)⟩
theorem k_LawReader_readLaw {g : zi_M} {Q : Int → zi_M → Prop} (I : zk_I g) (hQ : ∀ (v : Int) (g' : zi_M), zk_I g' → zk_fr fr_LawReader_readLaw g g' → (0 ≤ v ∧ v ≤ 1) → (zLwf v g g') → Q v g') : w_LawReader_readLaw g Q := by
  unfold w_LawReader_readLaw
  refine k_Law_clear I (fun g2 I2 F2 e2 e7 => ?_)
  have f2 : ∀ (a : Nat) (i : Int), 191 ≤ a → a ≤ 194 → g2 a i = g a i := fun a i h1 h2 => F2 a i (fun q => by unfold fr_Law_clear at q; omega)
  have LC : ∀ a i, fr_Law_clear a i → fr_LawReader_readLaw a i := (fun a i h => by unfold fr_Law_clear at h; unfold fr_LawReader_readLaw; rcases h with h | h <;> simp [h])
  have RC : ∀ a i, fr_Tokens_refuse a i → fr_LawReader_readLaw a i := (fun a i h => by unfold fr_Tokens_refuse at h; unfold fr_LawReader_readLaw; rcases h with h | h <;> simp [h])
  refine ⟨18, k_LawReader_readLaw_l6 (fun g' I' F' hr => ?_) (fun g' I' F' hf => hQ _ _ I' F' ⟨by decide, by decide⟩ hf) (fun g' I' F' hf => hQ _ _ I' F' ⟨by decide, by decide⟩ hf) (fun g' I' F' hf => hQ _ _ I' F' ⟨by decide, by decide⟩ hf) (fun g' I' F' hf => hQ _ _ I' F' ⟨by decide, by decide⟩ hf) 18 0 g2 I2 (zk_ft (zk_f0 _) F2 LC) (zLwl_0 f2 e2 e7) (by decide) (by decide) (by decide)⟩
  refine k_Tokens_refuse I' ⟨by decide, by decide⟩ (fun v g'' I'' F'' hv rf => hQ _ _ I'' (zk_ft F' F'' RC) ⟨by omega, by omega⟩ (hr v g'' (by omega) rf))

-- SpoutNews$Law.copyFrom(LSpoutNews$Law;)V
set_option maxRecDepth 100000 in
set_option maxHeartbeats 4000000 in
theorem k_Law_copyFrom {r0 : Nat} (hr0 : zs_sh r0 = some (3, 10)) {r1 : Nat} (hr1 : zs_sh r1 = some (3, 10)) {g : zi_M} {Q : Int → zi_M → Prop} (I : zk_I g) (hQ : ∀ g' : zi_M, zk_I g' → zk_fr (fr_Law_copyFrom r0 r1) g g' → (zLcp r0 r1 g g') → Q 0 g') : w_Law_copyFrom r0 r1 g Q := by
  unfold w_Law_copyFrom
  have m_4 := zk_c3_2 hr1 I
  refine ⟨⟨⟨by omega, by omega, by omega⟩, by omega, by omega⟩, ?_⟩
  intro g2 e_1
  have I_2 : zk_I g2 := by rw [e_1]; exact zk_cp (L := (-2147483648)) (H := 2147483647) (fun i => zk_la3_1 hr1 (i := i)) (fun i => zk_la3_1 hr0 (i := i)) I (zj_a3_1 hr0)
  have F_3 : zk_fr (fr_Law_copyFrom r0 r1) g g2 := by rw [e_1]; exact zk_fc (zk_f0 _) (fun i => (Or.inl rfl))
  have m_8 := zk_c3_2 hr1 I_2
  refine ⟨⟨⟨by omega, by omega, by omega⟩, by omega, by omega⟩, ?_⟩
  intro g4 e_5
  have I_6 : zk_I g4 := by rw [e_5]; exact zk_cp (L := 0) (H := 9999) (fun i => zk_la3_2 hr1 (i := i)) (fun i => zk_la3_2 hr0 (i := i)) I_2 (zj_a3_2 hr0)
  have F_7 : zk_fr (fr_Law_copyFrom r0 r1) g g4 := by rw [e_5]; exact zk_fc F_3 (fun i => (Or.inr (Or.inl rfl)))
  have m_12 := zk_c3_2 hr1 I_6
  intro g5 e_9
  have I_10 : zk_I g5 := by rw [e_9]; exact zk_upd (zk_lc3_2 hr0).1 (zk_lc3_2 hr0).2 I_6 ⟨by omega, by omega⟩ (zj_w3 hr0)
  have F_11 : zk_fr (fr_Law_copyFrom r0 r1) g g5 := by rw [e_9]; exact zk_fu F_7 (Or.inr (Or.inr (Or.inr (Or.inr (Or.inr (Or.inr (Or.inl ⟨rfl, rfl⟩)))))))
  intro g7 e_13
  have I_14 : zk_I g7 := by rw [e_13]; exact zk_cp (L := (-2147483648)) (H := 2147483647) (fun i => zk_la3_3 hr1 (i := i)) (fun i => zk_la3_3 hr0 (i := i)) I_10 (zj_a3_3 hr0)
  have F_15 : zk_fr (fr_Law_copyFrom r0 r1) g g7 := by rw [e_13]; exact zk_fc F_11 (fun i => (Or.inr (Or.inr (Or.inl rfl))))
  intro g9 e_16
  have I_17 : zk_I g9 := by rw [e_16]; exact zk_cp (L := 0) (H := 400) (fun i => zk_la3_4 hr1 (i := i)) (fun i => zk_la3_4 hr0 (i := i)) I_14 (zj_a3_4 hr0)
  have F_18 : zk_fr (fr_Law_copyFrom r0 r1) g g9 := by rw [e_16]; exact zk_fc F_15 (fun i => (Or.inr (Or.inr (Or.inr (Or.inl rfl)))))
  intro g11 e_19
  have I_20 : zk_I g11 := by rw [e_19]; exact zk_cp (L := 0) (H := 400) (fun i => zk_la3_5 hr1 (i := i)) (fun i => zk_la3_5 hr0 (i := i)) I_17 (zj_a3_5 hr0)
  have F_21 : zk_fr (fr_Law_copyFrom r0 r1) g g11 := by rw [e_19]; exact zk_fc F_18 (fun i => (Or.inr (Or.inr (Or.inr (Or.inr (Or.inl rfl))))))
  intro g13 e_22
  have I_23 : zk_I g13 := by rw [e_22]; exact zk_cp (L := 0) (H := 400) (fun i => zk_la3_6 hr1 (i := i)) (fun i => zk_la3_6 hr0 (i := i)) I_20 (zj_a3_6 hr0)
  have F_24 : zk_fr (fr_Law_copyFrom r0 r1) g g13 := by rw [e_22]; exact zk_fc F_21 (fun i => (Or.inr (Or.inr (Or.inr (Or.inr (Or.inr (Or.inl rfl)))))))
  have m_28 := zk_c3_7 hr1 I_23
  intro g14 e_25
  have I_26 : zk_I g14 := by rw [e_25]; exact zk_upd (zk_lc3_7 hr0).1 (zk_lc3_7 hr0).2 I_23 ⟨by omega, by omega⟩ (zj_w3 hr0)
  have F_27 : zk_fr (fr_Law_copyFrom r0 r1) g g14 := by rw [e_25]; exact zk_fu F_24 (Or.inr (Or.inr (Or.inr (Or.inr (Or.inr (Or.inr (Or.inr ⟨rfl, rfl⟩)))))))
  exact hQ _ I_26 F_27 (by exact zLcp_all hr0 hr1 (by assumption) (by assumption) (by assumption) (by assumption) (by assumption) (by assumption) (by assumption) (by assumption))
-- SpoutNews.takeLaw(I)I
theorem k_S_takeLaw {l1 : Int} {g : zi_M} {Q : Int → zi_M → Prop} (I : zk_I g) (p1 : 0 ≤ l1 ∧ l1 ≤ 400) (hQ : ∀ (v : Int) (g' : zi_M), zk_I g' → zk_fr fr_S_takeLaw g g' → ((-1) ≤ v ∧ v ≤ 16) → (zySs 1000000001 (g 190) l1 g') → (zqVc v g') → (zlcS v g g') → Q v g') : w_S_takeLaw l1 g Q := by
  unfold w_S_takeLaw
  refine k_Tokens_split (show zs_str 1000000001 from rfl) I p1 (fun g2 I2 F2 s2 c2 => ?_)
  have S2 : zySs 1000000001 (g 190) l1 g2 := ⟨s2, c2.2.2.2⟩
  have C2 := zySs_C S2 c2
  have sub2 : ∀ a i, fr_Tokens_split 1000000001 a i → fr_S_takeLaw a i := (fun a i h => by unfold fr_Tokens_split at h; unfold fr_S_takeLaw; rcases h with h | h | h | h | h | h | h <;> simp [h])
  have subR : ∀ a i, fr_LawReader_readLaw a i → fr_S_takeLaw a i := (fun a i h => by unfold fr_LawReader_readLaw at h; unfold fr_S_takeLaw; rcases h with h | h | h | h | h | h | h | h | h | h | h | h | h | h | h <;> simp [h])
  have G2 := zk_ft (zk_f0 _) F2 sub2
  refine k_LawReader_readLaw I2 (fun v4 g5 I5 F5 b5 rl => ?_)
  have G5 := zk_ft G2 F5 subR
  have k5 : ∀ (a : Nat) (i : Int), a = 192 ∨ a = 193 ∨ a = 194 ∨ (a = 191 ∧ i = 3) → g5 a i = g2 a i := fun a i h => F5 a i (by unfold fr_LawReader_readLaw; omega)
  have S5 := zySs_m S2 k5
  have m5 := zyM_m k5
  have x5 := rl (zyM g2) C2.1 C2.2
  refine ⟨fun ne => ?_, fun e => ?_⟩
  · have z : (zLaw (zyM g2)).2.1 = 0 := Classical.byContradiction (fun z => ne (x5.2 z).1)
    refine k_Law_copyFrom rfl rfl I5 (fun g8 I8 F8 cp => ?_)
    have G8 := zk_ft G5 F8 (fun a i h => by unfold fr_Law_copyFrom at h; unfold fr_S_takeLaw; rcases h with h | h | h | h | h | h | h | h <;> simp [h])
    have k8 : ∀ (a : Nat) (i : Int), 190 ≤ a → g8 a i = g5 a i := fun a i h => F8 a i (by unfold fr_Law_copyFrom; omega)
    have m8 : zyM g8 = zyM g2 := (zyM_m (fun a i h => k8 a i (by omega))).trans m5
    have b : 0 ≤ g8 196 7 ∧ g8 196 7 ≤ 16 := I8.1 196 7
    have b5 : g5 196 7 ≤ 16 := (I5.1 196 7).2
    exact hQ _ g8 I8 G8 ⟨by omega, by omega⟩ (zySs_m S5 (fun a i h => k8 a i (by omega))) (zqVc_y (fun q => by have := x5.1 q; exact ⟨rfl, this.2⟩) z m8 (k8 _ _ (by decide)) (k8 _ _ (by decide)) (k8 _ _ (by decide))) ⟨fun _ => (by rw [m8]; exact ⟨z, zlcL_cp (r1 := 196) ⟨(x5.1 z).2.1, (x5.1 z).2.2.1⟩ b5 cp⟩), fun q => by exfalso; omega⟩
  · have z : ¬ (zLaw (zyM g2)).2.1 = 0 := fun z => by have := (x5.1 z).1; omega
    exact hQ (-1) g5 I5 G5 ⟨by decide, by decide⟩ S5 (zqVc_n z (x5.2 z).2 m5) ⟨fun n => absurd rfl n, fun _ a i a0 a1 => by rw [F5 a i (by unfold fr_LawReader_readLaw; omega), F2 a i (by unfold fr_Tokens_split; omega)]⟩

