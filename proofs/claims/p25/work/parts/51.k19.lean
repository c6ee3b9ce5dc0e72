-- by program (wip/gen/mkz.py)
-- SpoutNews$Law.copyFrom(LSpoutNews$Law;)V
set_option maxRecDepth 100000 in
set_option maxHeartbeats 4000000 in
theorem k_Law_copyFrom {r0 : Nat} (hr0 : zs_sh r0 = some (3, 10)) {r1 : Nat} (hr1 : zs_sh r1 = some (3, 10)) {g : zi_M} {Q : Int → zi_M → Prop} (I : zk_I g) (hQ : ∀ g' : zi_M, zk_I g' → zk_fr (fr_Law_copyFrom r0 r1) g g' → (zLcp r0 r1 g g') → Q 0 g') : w_Law_copyFrom r0 r1 g Q := by
  unfold w_Law_copyFrom
  have m_4 := zk_c3_2 hr1 I
  refine ⟨⟨⟨by omega, by omega, by omega⟩, by omega, by omega⟩, ?_⟩
  intro g2 e_1
  have I_2 : zk_I g2 := by rw [e_1]; exact zk_cp (L := (-2147483648)) (H := 2147483647) (fun i => zk_la3_1 hr1 (i := i)) (fun i => zk_la3_1 hr0 (i := i)) I (zj_a3_1 hr0)
  have F_3 : zk_fr (fr_Law_copyFrom r0 r1) g g2 := by rw [e_1]; exact zk_fc (zk_f0 _) (fun i => (Or.inl rfl))
  have m_8 := zk_c3_2 hr1 I_2
  refine ⟨⟨⟨by omega, by omega, by omega⟩, by omega, by omega⟩, ?_⟩
  intro g4 e_5
  have I_6 : zk_I g4 := by rw [e_5]; exact zk_cp (L := 0) (H := 9999) (fun i => zk_la3_2 hr1 (i := i)) (fun i => zk_la3_2 hr0 (i := i)) I_2 (zj_a3_2 hr0)
  have F_7 : zk_fr (fr_Law_copyFrom r0 r1) g g4 := by rw [e_5]; exact zk_fc F_3 (fun i => (Or.inr (Or.inl rfl)))
  have m_12 := zk_c3_2 hr1 I_6
  intro g5 e_9
  have I_10 : zk_I g5 := by rw [e_9]; exact zk_upd (zk_lc3_2 hr0).1 (zk_lc3_2 hr0).2 I_6 ⟨by omega, by omega⟩ (zj_w3 hr0)
  have F_11 : zk_fr (fr_Law_copyFrom r0 r1) g g5 := by rw [e_9]; exact zk_fu F_7 (Or.inr (Or.inr (Or.inr (Or.inr (Or.inr (Or.inr (Or.inl ⟨rfl, rfl⟩)))))))
  intro g7 e_13
  have I_14 : zk_I g7 := by rw [e_13]; exact zk_cp (L := (-2147483648)) (H := 2147483647) (fun i => zk_la3_3 hr1 (i := i)) (fun i => zk_la3_3 hr0 (i := i)) I_10 (zj_a3_3 hr0)
  have F_15 : zk_fr (fr_Law_copyFrom r0 r1) g g7 := by rw [e_13]; exact zk_fc F_11 (fun i => (Or.inr (Or.inr (Or.inl rfl))))
  intro g9 e_16
  have I_17 : zk_I g9 := by rw [e_16]; exact zk_cp (L := 0) (H := 400) (fun i => zk_la3_4 hr1 (i := i)) (fun i => zk_la3_4 hr0 (i := i)) I_14 (zj_a3_4 hr0)
  have F_18 : zk_fr (fr_Law_copyFrom r0 r1) g g9 := by rw [e_16]; exact zk_fc F_15 (fun i => (Or.inr (Or.inr (Or.inr (Or.inl rfl)))))
  intro g11 e_19
  have I_20 : zk_I g11 := by rw [e_19]; exact zk_cp (L := 0) (H := 400) (fun i => zk_la3_5 hr1 (i := i)) (fun i => zk_la3_5 hr0 (i := i)) I_17 (zj_a3_5 hr0)
  have F_21 : zk_fr (fr_Law_copyFrom r0 r1) g g11 := by rw [e_19]; exact zk_fc F_18 (fun i => (Or.inr (Or.inr (Or.inr (Or.inr (Or.inl rfl))))))
  intro g13 e_22
  have I_23 : zk_I g13 := by rw [e_22]; exact zk_cp (L := 0) (H := 400) (fun i => zk_la3_6 hr1 (i := i)) (fun i => zk_la3_6 hr0 (i := i)) I_20 (zj_a3_6 hr0)
  have F_24 : zk_fr (fr_Law_copyFrom r0 r1) g g13 := by rw [e_22]; exact zk_fc F_21 (fun i => (Or.inr (Or.inr (Or.inr (Or.inr (Or.inr (Or.inl rfl)))))))
  have m_28 := zk_c3_7 hr1 I_23
  intro g14 e_25
  have I_26 : zk_I g14 := by rw [e_25]; exact zk_upd (zk_lc3_7 hr0).1 (zk_lc3_7 hr0).2 I_23 ⟨by omega, by omega⟩ (zj_w3 hr0)
  have F_27 : zk_fr (fr_Law_copyFrom r0 r1) g g14 := by rw [e_25]; exact zk_fu F_24 (Or.inr (Or.inr (Or.inr (Or.inr (Or.inr (Or.inr (Or.inr ⟨rfl, rfl⟩)))))))
  exact hQ _ I_26 F_27 (by exact zLcp_all hr0 hr1 (by assumption) (by assumption) (by assumption) (by assumption) (by assumption) (by assumption) (by assumption) (by assumption))
-- SpoutNews.takeLaw(I)I
theorem k_S_takeLaw {l1 : Int} {g : zi_M} {Q : Int → zi_M → Prop} (I : zk_I g) (p1 : 0 ≤ l1 ∧ l1 ≤ 400) (hQ : ∀ (v : Int) (g' : zi_M), zk_I g' → zk_fr fr_S_takeLaw g g' → ((-1) ≤ v ∧ v ≤ 16) → (zySs 1000000001 (g 190) l1 g') → (zqVc v g') → (zlcS v g g') → Q v g') : w_S_takeLaw l1 g Q := by
  unfold w_S_takeLaw
  refine k_Tokens_split (show zs_str 1000000001 from rfl) I p1 (fun g2 I2 F2 s2 c2 => ?_)
  have S2 : zySs 1000000001 (g 190) l1 g2 := ⟨s2, c2.2.2.2⟩
  have C2 := zySs_C S2 c2
  have sub2 : ∀ a i, fr_Tokens_split 1000000001 a i → fr_S_takeLaw a i := (fun a i h => by unfold fr_Tokens_split at h; unfold fr_S_takeLaw; rcases h with h | h | h | h | h | h | h <;> simp [h])
  have subR : ∀ a i, fr_LawReader_readLaw a i → fr_S_takeLaw a i := (fun a i h => by unfold fr_LawReader_readLaw at h; unfold fr_S_takeLaw; rcases h with h | h | h | h | h | h | h | h | h | h | h | h | h | h | h <;> simp [h])
  have G2 := zk_ft (zk_f0 _) F2 sub2
  refine k_LawReader_readLaw I2 (fun v4 g5 I5 F5 b5 rl => ?_)
  have G5 := zk_ft G2 F5 subR
  have k5 : ∀ (a : Nat) (i : Int), a = 192 ∨ a = 193 ∨ a = 194 ∨ (a = 191 ∧ i = 3) → g5 a i = g2 a i := fun a i h => F5 a i (by unfold fr_LawReader_readLaw; omega)
  have S5 := zySs_m S2 k5
  have m5 := zyM_m k5
  have x5 := rl (zyM g2) C2.1 C2.2
  refine ⟨fun ne => ?_, fun e => ?_⟩
  · have z : (zLaw (zyM g2)).2.1 = 0 := Classical.byContradiction (fun z => ne (x5.2 z).1)
    refine k_Law_copyFrom rfl rfl I5 (fun g8 I8 F8 cp => ?_)
    have G8 := zk_ft G5 F8 (fun a i h => by unfold fr_Law_copyFrom at h; unfold fr_S_takeLaw; rcases h with h | h | h | h | h | h | h | h <;> simp [h])
    have k8 : ∀ (a : Nat) (i : Int), 190 ≤ a → g8 a i = g5 a i := fun a i h => F8 a i (by unfold fr_Law_copyFrom; omega)
    have m8 : zyM g8 = zyM g2 := (zyM_m (fun a i h => k8 a i (by omega))).trans m5
    have b : 0 ≤ g8 196 7 ∧ g8 196 7 ≤ 16 := I8.1 196 7
    have b5 : g5 196 7 ≤ 16 := (I5.1 196 7).2
    exact hQ _ g8 I8 G8 ⟨by omega, by omega⟩ (zySs_m S5 (fun a i h => k8 a i (by omega))) (zqVc_y (fun q => by have := x5.1 q; exact ⟨rfl, this.2⟩) z m8 (k8 _ _ (by decide)) (k8 _ _ (by decide)) (k8 _ _ (by decide))) ⟨fun _ => (by rw [m8]; exact ⟨z, zlcL_cp (r1 := 196) ⟨(x5.1 z).2.1, (x5.1 z).2.2.1⟩ b5 cp⟩), fun q => by exfalso; omega⟩
  · have z : ¬ (zLaw (zyM g2)).2.1 = 0 := fun z => by have := (x5.1 z).1; omega
    exact hQ (-1) g5 I5 G5 ⟨by decide, by decide⟩ S5 (zqVc_n z (x5.2 z).2 m5) ⟨fun n => absurd rfl n, fun _ a i a0 a1 => by rw [F5 a i (by unfold fr_LawReader_readLaw; omega), F2 a i (by unfold fr_Tokens_split; omega)]⟩

-- SpoutNews$Tokens.takeBelow(I)I
theorem k_Tokens_takeBelow {l1 : Int} {g : zi_M} {Q : Int → zi_M → Prop} (I : zk_I g) (p1 : 0 ≤ l1 ∧ l1 ≤ 1000) (hQ : ∀ (v : Int) (g' : zi_M), zk_I g' → zk_fr fr_Tokens_takeBelow g g' → ((-1) ≤ v ∧ v ≤ 999) → (¬ v = -1 → v < l1) → (∀ (T : zyT) (t : Int), zyC T g t → zyE T → zyS T g' t (zyN T l1 t) ∧ (zyN T l1 t = 0 → v = T.2.1 t) ∧ (¬ zyN T l1 t = 0 → v = -1)) → Q v g') : w_Tokens_takeBelow l1 g Q := by
  unfold w_Tokens_takeBelow
  have b4 : 0 ≤ g 191 4 ∧ g 191 4 ≤ 401 := I.1 191 4
  have b3 : 0 ≤ g 191 3 ∧ g 191 3 ≤ 401 := I.1 191 3
  have r : -1 ≤ g 193 (g 191 4) ∧ g 193 (g 191 4) ≤ 9999 := I.1 193 (g 191 4)
  have key : ∀ (v : Int) (T : zyT) (t : Int), ((g 191 3) ≤ (g 191 4) → v = (-1)) → ((g 191 4) < (g 191 3) → ¬ (g 192 (g 191 4)) = 1 → v = (-1)) → ((g 191 4) < (g 191 3) → (g 192 (g 191 4)) = 1 → v = g 193 (g 191 4)) → zyC T g t → zyE T → (T.1 t = 1 → v = T.2.1 t ∧ 0 ≤ v) ∧ (¬ T.1 t = 1 → v = -1) := by
    intro v T t a1 a2 a3 h hE
    have a := zyC_a h
    have b := h.2.1
    refine ⟨fun q => ?_, fun q => a2 a.2.2.2 (by rw [a.1]; exact q)⟩
    have e := a3 a.2.2.2 (by rw [a.1]; exact q)
    rw [a.2.1] at e
    have := hE.2.2.2 t b.2.1 b.2.2 q
    exact ⟨e, by omega⟩
  refine k_Tokens_number I (fun v1 a1 a2 a3 => ⟨⟨by omega, by omega⟩, fun ne => ⟨⟨by omega, by omega⟩, fun lt => ?_, fun ge => ?_⟩, fun e => ?_⟩)
  · refine k_Tokens_step I (fun g7 I7 F7 x7 => ?_)
    refine hQ v1 g7 I7 (zk_ft (zk_f0 _) F7 (fun a i h => Or.inl h)) ⟨by omega, by omega⟩ (by omega) (fun T t h hE => ?_)
    have k := key v1 T t a1 a2 a3 h hE
    have k1 : T.1 t = 1 := Classical.byContradiction (fun q => ne (k.2 q))
    have kv := k.1 k1
    have z := zyN_0.2 (⟨k1, by omega⟩ : T.1 t = 1 ∧ T.2.1 t < l1)
    exact ⟨⟨fun _ => x7 T t h hE (by omega), fun n => absurd z n⟩, fun _ => kv.1, fun n => absurd z n⟩
  · refine k_Tokens_refuse I ⟨by omega, by omega⟩ (fun v9 g10 I10 F10 c10 x10 => ?_)
    refine hQ (-1) g10 I10 (zk_ft (zk_f0 _) F10 (fun a i h => Or.inr h)) ⟨by omega, by omega⟩ (by omega) (fun T t h hE => ?_)
    have k := key v1 T t a1 a2 a3 h hE
    have k1 : T.1 t = 1 := Classical.byContradiction (fun q => ne (k.2 q))
    have kv := k.1 k1
    rw [zyN_2 k1 (by omega)]
    exact ⟨⟨fun n => absurd n (by decide), fun _ => x10 T t h⟩, fun n => absurd n (by decide), fun _ => rfl⟩
  · refine k_Tokens_refuse I ⟨by omega, by omega⟩ (fun v9 g10 I10 F10 c10 x10 => ?_)
    refine hQ (-1) g10 I10 (zk_ft (zk_f0 _) F10 (fun a i h => Or.inr h)) ⟨by omega, by omega⟩ (by omega) (fun T t h hE => ?_)
    have k := key v1 T t a1 a2 a3 h hE
    have k1 : ¬ T.1 t = 1 := fun q => by have := k.1 q; omega
    rw [zyN_1 k1]
    exact ⟨⟨fun n => absurd n (by decide), fun _ => x10 T t h⟩, fun n => absurd n (by decide), fun _ => rfl⟩

-- SpoutNews$Texts.readGutters(LSpoutNews$Tokens;LSpoutNews$World;)Z
theorem k_Texts_readGutters_l15 {T : zyT} (hE : zyE T) {g0 : zi_M} {K37 K64 K75 K107 K131 : zi_M → Prop} {Q : Int → zi_M → Prop}
    (hF : ∀ (g : zi_M) (s : Int), zk_I g → zk_fr fr_Texts_readGutters g0 g → zyI (zyH T (g0 2 8)) s → ¬ zyH T (g0 2 8) s = -1 → zyF T g (zyH T (g0 2 8) s) s → K37 g ∧ K64 g ∧ K107 g)
    (h75 : ∀ (g : zi_M) (s : Int), zk_I g → zk_fr fr_Texts_readGutters g0 g → zyI (zyH T (g0 2 8)) s → zyH T (g0 2 8) s = 2 → zyC T g s → K75 g)
    (hN : ∀ (g : zi_M) (n : Int), zk_I g → zk_fr fr_Texts_readGutters g0 g → 0 ≤ n → n ≤ 16 → zyC T g (5 * n) → g 195 2 = n → zyHr T (g 205) n → zyI (zyH T (g0 2 8)) (5 * n) → zyH T (g0 2 8) (5 * n) = -1 → K131 g) :
    ∀ (m : Nat) (l3 : Int) (g : zi_M), zk_I g → zk_fr fr_Texts_readGutters g0 g → (0 ≤ l3 ∧ l3 ≤ 16) → zyC T g (5 * l3) → g 195 2 = l3 → zyHr T (g 205) l3 → (∀ i : Int, 0 ≤ i → i < 5 * l3 → zyH T (g0 2 8) i = 0) → 16 - l3 < (m : Int) → w_Texts_readGutters_l15 K37 K64 K75 K107 K131 Q m l3 g
  | 0, l3, g, I, F, hl, hc, hn, hw, hz, hm => by exfalso; omega
  | m + 1, l3, g, I, F, hl, hc, hn, hw, hz, hm => by
    have a := zyC_a hc
    have sub : ∀ a i, (a = 191 ∧ i = 4) ∨ (a = 191 ∧ i = 5) ∨ (a = 191 ∧ i = 6) → fr_Texts_readGutters a i := fun a i h => by unfold fr_Texts_readGutters; omega
    have sp : ∀ g' : zi_M, zk_fr fr_Texts_readGutters g0 g' → g' 2 8 = g0 2 8 := fun g' F' => F' 2 8 (by unfold fr_Texts_readGutters; omega)
    have bsp : ∀ g' : zi_M, zk_I g' → 0 ≤ g' 2 8 ∧ g' 2 8 ≤ 10 := fun g' I' => I'.1 2 8
    unfold w_Texts_readGutters_l15
    refine ⟨⟨by omega, by omega⟩, fun c => by exfalso; omega, fun _ => ?_⟩
    refine k_Tokens_isAtEnd I (fun v3 b1 b2 b3 => ⟨fun ne => ?_, fun e => ?_⟩)
    · have k4 : T.1 (5 * l3) = 4 := Classical.byContradiction (fun q => ne (b2 a.2.2.2 (by rw [a.1]; exact q)))
      have f := zyH_e (sp := g0 2 8) k4
      exact hN g l3 I F hl.1 hl.2 hc hn hw ⟨by omega, hz, by rw [f]; decide⟩ f
    · have k4 : ¬ T.1 (5 * l3) = 4 := fun q => by
        have := b3 a.2.2.2 (by rw [a.1]; exact q)
        omega
      refine k_Tokens_takeLineStart I ⟨by omega, by omega⟩ ⟨by omega, by omega⟩ (fun v6 g7 I7 F7 c7 x7 => ?_)
      have x := x7 T _ hc hE
      have y0 := zyH_0 (sp := g0 2 8) k4
      rw [← y0] at x
      have G7 := zk_ft F F7 sub
      refine ⟨fun n6 => ?_, fun e6 => ?_⟩
      · have z0 : zyH T (g0 2 8) (5 * l3) = 0 := Classical.byContradiction (fun q => n6 (x.2.2 q))
        have l16 : l3 < 16 := (zyL_0.1 (y0.symm.trans z0)).2
        have C7 := x.1.1 z0
        have hz1 := zyI_s hz z0
        have s7 := sp g7 G7
        have t7 := bsp g7 I7
        refine k_Tokens_takeBelow I7 ⟨by omega, by omega⟩ (fun v9 g10 I10 F10 c10 d10 x10 => ?_)
        have u := x10 T _ C7 hE
        rw [s7, ← zyH_1] at u
        have G10 := zk_ft G7 F10 sub
        refine ⟨⟨by omega, by omega⟩, fun e9 => ?_, fun n9 => ?_⟩
        · have z1 : ¬ zyH T (g0 2 8) (5 * l3 + 1) = 0 := fun q => by
            have v := u.2.1 q
            have k := zyN_0.1 (zyH_1.symm.trans q)
            have := hE.2.2.2 _ C7.2.1.2.1 C7.2.1.2.2 k.1
            omega
          have z2 : ¬ zyH T (g0 2 8) (5 * l3 + 1) = -1 := by rw [zyH_1]; exact zyN_ne
          exact (hF g10 _ I10 G10 ⟨by omega, hz1, z1⟩ z2 (u.1.2 z1)).2.1
        · have z1 : zyH T (g0 2 8) (5 * l3 + 1) = 0 := Classical.byContradiction (fun q => n9 (u.2.2 q))
          have C10 := u.1.1 z1
          have w9 := u.2.1 z1
          have hz2 := zyI_s hz1 z1
          refine k_Tokens_take I10 ⟨by omega, by omega⟩ ⟨by omega, by omega⟩ (fun v13 g14 I14 F14 c14 x14 => ?_)
          have u := x14 T _ C10 hE
          rw [← zyH_2 (sp := g0 2 8)] at u
          have G14 := zk_ft G10 F14 sub
          refine ⟨fun n13 => ?_, fun e13 => ?_⟩
          · have z2 : zyH T (g0 2 8) (5 * l3 + 1 + 1) = 0 := Classical.byContradiction (fun q => n13 (u.2.2 q))
            have C14 := u.1.1 z2
            have hz3 := zyI_s hz2 z2
            have a14 := zyC_a C14
            have r93 : -1 ≤ g14 193 (g14 191 4) ∧ g14 193 (g14 191 4) ≤ 9999 := I14.1 193 _
            refine k_Tokens_number I14 (fun v17 b1 b2 b3 => ⟨⟨by omega, by omega⟩, fun n17 => ?_, fun e17 => ?_⟩)
            · have ns : ¬ (T.1 (5 * l3 + 1 + 1 + 1) = 1 ∧ T.2.1 (5 * l3 + 1 + 1 + 1) = T.2.1 (5 * l3 + 1)) := fun q => n17 (by
                have v := b3 a14.2.2.2 (by rw [a14.1]; exact q.1)
                rw [v, a14.2.1, q.2, w9])
              have y3 := zyH_3n (sp := g0 2 8) ns
              have s14 := sp g14 G14
              have t14 := bsp g14 I14
              refine k_Tokens_takeBelow I14 ⟨by omega, by omega⟩ (fun v21 g22 I22 F22 c22 d22 x22 => ?_)
              have u := x22 T _ C14 hE
              rw [s14, ← y3] at u
              have G22 := zk_ft G14 F22 sub
              refine ⟨⟨by omega, by omega⟩, fun e21 => ?_, fun n21 => ?_⟩
              · have z3 : ¬ zyH T (g0 2 8) (5 * l3 + 1 + 1 + 1) = 0 := fun q => by
                  have v := u.2.1 q
                  have k := zyN_0.1 (y3.symm.trans q)
                  have := hE.2.2.2 _ C14.2.1.2.1 C14.2.1.2.2 k.1
                  omega
                have z4 : ¬ zyH T (g0 2 8) (5 * l3 + 1 + 1 + 1) = -1 := by rw [y3]; exact zyN_ne
                exact (hF g22 _ I22 G22 ⟨by omega, hz3, z3⟩ z4 (u.1.2 z3)).2.2
              · have z3 : zyH T (g0 2 8) (5 * l3 + 1 + 1 + 1) = 0 := Classical.byContradiction (fun q => n21 (u.2.2 q))
                have C22 := u.1.1 z3
                have w21 := u.2.1 z3
                have b21 := (zyN_0.1 (y3.symm.trans z3)).2
                have hz4 := zyI_s hz3 z3
                refine k_Tokens_take I22 ⟨by omega, by omega⟩ ⟨by omega, by omega⟩ (fun v25 g26 I26 F26 c26 x26 => ?_)
                have u := x26 T _ C22 hE
                rw [← zyH_4 (sp := g0 2 8)] at u
                have G26 := zk_ft G22 F26 sub
                refine ⟨fun n25 => ⟨⟨by omega, by omega⟩, ?_⟩, fun e25 => ?_⟩
                · have z4 : zyH T (g0 2 8) (5 * l3 + 1 + 1 + 1 + 1) = 0 := Classical.byContradiction (fun q => n25 (u.2.2 q))
                  have C26 := u.1.1 z4
                  have hz5 := zyI_s hz4 z4
                  have r5 : g26 205 = g 205 := funext (fun i => by rw [F26 205 i (by unfold fr_Tokens_take; omega), F22 205 i (by unfold fr_Tokens_takeBelow; omega), F14 205 i (by unfold fr_Tokens_take; omega), F10 205 i (by unfold fr_Tokens_takeBelow; omega), F7 205 i (by unfold fr_Tokens_takeLineStart; omega)])
                  intro g29 e29 g30 e30
                  have I29 : zk_I g29 := by rw [e29]; exact zk_upd (L := -1) (H := 9) rfl rfl I26 ⟨by omega, by omega⟩
                  have I30 : zk_I g30 := by rw [e30]; exact zk_upd (L := 0) (H := 17) rfl rfl I29 ⟨by omega, by omega⟩
                  refine k_Texts_readGutters_l15 hE hF h75 hN m (l3 + 1) g30 I30 ?_ ⟨by omega, by omega⟩ ?_ (by rw [e30, zi_u_eq]) ?_ ?_ (by omega)
                  · rw [e30, e29]
                    exact zk_fu (zk_fu G26 (Or.inl rfl)) (Or.inr (Or.inr (Or.inr (Or.inr ⟨rfl, rfl⟩))))
                  · rw [show 5 * (l3 + 1) = 5 * l3 + 1 + 1 + 1 + 1 + 1 by omega]
                    exact zyC_u (zyC_u C26 e29 (Or.inr (by decide))) e30 (Or.inr (by decide))
                  · have q5 : g30 205 = zup (g 205) (T.2.1 (5 * l3 + 1)) (T.2.1 (5 * l3 + 1 + 1 + 1)) := by rw [e30, zi_u_row (by decide), e29, zup_u, r5, w9, w21]
                    rw [q5]
                    exact zyHr_s hw hl.1
                  · rw [show 5 * (l3 + 1) = 5 * l3 + 1 + 1 + 1 + 1 + 1 by omega]
                    exact hz5
                · have z4 : ¬ zyH T (g0 2 8) (5 * l3 + 1 + 1 + 1 + 1) = 0 := fun q => by
                    have := u.2.1 q
                    omega
                  have z5 : ¬ zyH T (g0 2 8) (5 * l3 + 1 + 1 + 1 + 1) = -1 := by rw [zyH_4]; exact zyK_ne
                  exact (hF g26 _ I26 G26 ⟨by omega, hz4, z4⟩ z5 (u.1.2 z4)).2.2
            · have k1 : T.1 (5 * l3 + 1 + 1 + 1) = 1 := Classical.byContradiction (fun q => by
                have v := b2 a14.2.2.2 (by rw [a14.1]; exact q)
                omega)
              have v := b3 a14.2.2.2 (by rw [a14.1]; exact k1)
              rw [a14.2.1] at v
              have z3 := zyH_3s (sp := g0 2 8) ⟨k1, by omega⟩
              exact h75 g14 _ I14 G14 ⟨by omega, hz3, by rw [z3]; decide⟩ z3 C14
          · have z2 : ¬ zyH T (g0 2 8) (5 * l3 + 1 + 1) = 0 := fun q => by
              have := u.2.1 q
              omega
            have z3 : ¬ zyH T (g0 2 8) (5 * l3 + 1 + 1) = -1 := by rw [zyH_2]; exact zyK_ne
            exact (hF g14 _ I14 G14 ⟨by omega, hz2, z2⟩ z3 (u.1.2 z2)).2.1
      · have z0 : ¬ zyH T (g0 2 8) (5 * l3) = 0 := fun q => by
          have := x.2.1 q
          omega
        have z1 : ¬ zyH T (g0 2 8) (5 * l3) = -1 := by rw [y0]; exact zyL_ne
        exact (hF g7 _ I7 G7 ⟨by omega, hz, z0⟩ z1 (x.1.2 z0)).1
theorem k_Texts_readGutters {g : zi_M} {Q : Int → zi_M → Prop} (I : zk_I g) (px0 : zyC (zyM g) g 0 ∧ zyE (zyM g)) (hQ : ∀ (v : Int) (g' : zi_M), zk_I g' → zk_fr fr_Texts_readGutters g g' → (0 ≤ v ∧ v ≤ 1) → (zyHo (zyM g) (g 2 8) g' v) → Q v g') : w_Texts_readGutters g Q := by
  unfold w_Texts_readGutters
  intro g1 e1 g2 e2
  have I1 : zk_I g1 := by rw [e1]; exact zk_fill (L := -1) (H := 9) (fun _ => rfl) (fun _ => rfl) I ⟨by decide, by decide⟩
  have I2 : zk_I g2 := by rw [e2]; exact zk_upd (L := 0) (H := 17) rfl rfl I1 ⟨by decide, by decide⟩
  have F2 : zk_fr fr_Texts_readGutters g g2 := by rw [e2, e1]; exact zk_fu (zk_ff (zk_f0 _) (fun _ => Or.inl rfl)) (Or.inr (Or.inr (Or.inr (Or.inr ⟨rfl, rfl⟩))))
  have C2 : zyC (zyM g) g2 (5 * 0) := by
    rw [Int.mul_zero]
    refine zyC_m px0.1 (fun a i h1 h2 => ?_)
    rw [e2, zi_u_ne (by omega), e1]
    unfold zi_fl
    rw [if_neg (by omega)]
  have R2 : zyHr (zyM g) (g2 205) 0 := fun k k0 k1 => by
    rw [e2, zi_u_row (by decide), e1]
    unfold zi_fl
    rw [if_pos ⟨rfl, k0, k1⟩]
    rfl
  refine ⟨17, k_Texts_readGutters_l15 px0.2 (g0 := g) (fun g' s I' F' hs hn hf => ?_) (fun g' s I' F' hs h2 hc => ?_) (fun g' n I' F' n0 n16 hc hn hw hi he => ?_) 17 0 g2 I2 F2 ⟨by decide, by decide⟩ C2 (by rw [e2, zi_u_eq]) R2 (fun i i0 i1 => by exfalso; omega) (by omega)⟩
  · have r := hQ 0 g' I' F' ⟨by decide, by decide⟩ ⟨s, hs, fun q => absurd q hn, fun _ => ⟨rfl, hf⟩⟩
    exact ⟨r, r, r⟩
  · refine k_Tokens_refuse I' ⟨by decide, by decide⟩ (fun v g'' I'' F'' c x => ?_)
    have y := x _ _ hc
    rw [← h2] at y
    exact hQ v g'' I'' (zk_ft F' F'' (fun a i h => by unfold fr_Tokens_refuse at h; unfold fr_Texts_readGutters; omega)) ⟨by omega, by omega⟩ ⟨s, hs, fun q => by omega, fun _ => ⟨by omega, y⟩⟩
  · exact hQ 1 g' I' F' ⟨by decide, by decide⟩ ⟨5 * n, hi, fun _ => ⟨rfl, by rw [hn], by rw [hn]; exact hw, hc.2.2.1, hc.2.2.2⟩, fun q => absurd he q⟩

-- SpoutNews$Texts.copyGutters(LSpoutNews$Texts;)V
set_option maxRecDepth 100000 in
set_option maxHeartbeats 4000000 in
theorem k_Texts_copyGutters {r0 : Nat} (hr0 : zs_sh r0 = some (6, 11)) {r1 : Nat} (hr1 : zs_sh r1 = some (6, 11)) {g : zi_M} {Q : Int → zi_M → Prop} (I : zk_I g) (hQ : ∀ g' : zi_M, zk_I g' → zk_fr (fr_Texts_copyGutters r0 r1) g g' → (zyTg r0 r1 g g') → Q 0 g') : w_Texts_copyGutters r0 r1 g Q := by
  unfold w_Texts_copyGutters
  intro g2 e_1
  have I_2 : zk_I g2 := by rw [e_1]; exact zk_cp (L := (-1)) (H := 9) (fun i => zk_la6_10 hr1 (i := i)) (fun i => zk_la6_10 hr0 (i := i)) I (zj_a6_10 hr0)
  have F_3 : zk_fr (fr_Texts_copyGutters r0 r1) g g2 := by rw [e_1]; exact zk_fc (zk_f0 _) (fun i => (Or.inl rfl))
  have m_7 := zk_c6_2 hr1 I_2
  intro g3 e_4
  have I_5 : zk_I g3 := by rw [e_4]; exact zk_upd (zk_lc6_2 hr0).1 (zk_lc6_2 hr0).2 I_2 ⟨by omega, by omega⟩ (zj_w6 hr0)
  have F_6 : zk_fr (fr_Texts_copyGutters r0 r1) g g3 := by rw [e_4]; exact zk_fu F_3 (Or.inr ⟨rfl, rfl⟩)
  exact hQ _ I_5 F_6 (by exact zyTg_all hr0 hr1 (by assumption) (by assumption))
-- SpoutNews.takeGutters(I)I
theorem k_S_takeGutters {l1 : Int} {g : zi_M} {Q : Int → zi_M → Prop} (I : zk_I g) (p1 : 0 ≤ l1 ∧ l1 ≤ 400) (hQ : ∀ (v : Int) (g' : zi_M), zk_I g' → zk_fr fr_S_takeGutters g g' → ((-1) ≤ v ∧ v ≤ 17) → (zySs 1000000002 (g 190) l1 g') → (zySg (g 2 8) g g' v) → Q v g') : w_S_takeGutters l1 g Q := by
  unfold w_S_takeGutters
  refine k_Tokens_split (show zs_str 1000000002 from rfl) I p1 (fun g2 I2 F2 s2 c2 => ?_)
  have S2 : zySs 1000000002 (g 190) l1 g2 := ⟨s2, c2.2.2.2⟩
  have sub2 : ∀ a i, fr_Tokens_split 1000000002 a i → fr_S_takeGutters a i := (fun a i h => by unfold fr_Tokens_split at h; unfold fr_S_takeGutters; rcases h with h | h | h | h | h | h | h <;> simp [h])
  have subR : ∀ a i, fr_Texts_readGutters a i → fr_S_takeGutters a i := (fun a i h => by unfold fr_Texts_readGutters at h; unfold fr_S_takeGutters; rcases h with h | h | h | h | h <;> simp [h])
  have G2 := zk_ft (zk_f0 _) F2 sub2
  have e8 : g2 2 8 = g 2 8 := F2 2 8 (by unfold fr_Tokens_split; omega)
  refine k_Texts_readGutters I2 (zySs_C S2 c2) (fun v4 g5 I5 F5 b5 x5 => ?_)
  have G5 := zk_ft G2 F5 subR
  have k5 : ∀ (a : Nat) (i : Int), a = 192 ∨ a = 193 ∨ a = 194 ∨ (a = 191 ∧ i = 3) → g5 a i = g2 a i := fun a i h => F5 a i (by unfold fr_Texts_readGutters; omega)
  have S5 := zySs_m S2 k5
  have m5 := zyM_m k5
  rw [← m5, e8] at x5
  have k : ∀ (a : Nat) (i : Int), a ≤ 91 → g5 a i = g a i := fun a i ha => by rw [F5 a i (by unfold fr_Texts_readGutters; omega), F2 a i (by unfold fr_Tokens_split; omega)]
  refine ⟨fun ne => ?_, fun e => ?_⟩
  · refine k_Texts_copyGutters rfl rfl I5 (fun g8 I8 F8 t8 => ?_)
    have G8 := zk_ft G5 F8 (fun a i h => by unfold fr_Texts_copyGutters at h; unfold fr_S_takeGutters; rcases h with h | h <;> simp [h])
    have k8 : ∀ (a : Nat) (i : Int), ¬ (a = 29 ∨ (a = 19 ∧ i = 2)) → g8 a i = g5 a i := fun a i h2 => F8 a i (by unfold fr_Texts_copyGutters; omega)
    have e195 : g8 195 2 = g5 195 2 := k8 195 2 (by decide)
    have b195 : 0 ≤ g5 195 2 ∧ g5 195 2 ≤ 17 := I5.1 195 2
    have m8 : zyM g8 = zyM g5 := zyM_m (fun a i h => k8 a i (by omega))
    obtain ⟨s, s1, s2, s3⟩ := x5
    by_cases z : zyH (zyM g5) (g 2 8) s = -1
    · obtain ⟨h1, h2, h3, h4, h5⟩ := s2 z
      refine hQ _ g8 I8 G8 ⟨by omega, by omega⟩ (zySs_m S5 (fun a i h => k8 a i (by omega))) ?_
      unfold zySg
      rw [m8]
      refine ⟨by rw [k8 91 1 (by decide)]; exact k 91 1 (by decide), s, s1, fun _ => ⟨by rw [e195]; exact t8.1.symm, by rw [e195]; exact h2, ?_, by rw [k8 191 5 (by decide)]; exact h4, by rw [k8 191 6 (by decide)]; exact h5⟩, fun q => absurd z q⟩
      intro m m0 m1
      rw [e195, t8.2 m m0 m1]
      exact h3 m m0 m1
    · exfalso
      have := (s3 z).1
      omega
  · obtain ⟨s, s1, s2, s3⟩ := x5
    have z : ¬ zyH (zyM g5) (g 2 8) s = -1 := fun q => by have := (s2 q).1; omega
    have h := s3 z
    exact hQ (-1) g5 I5 G5 ⟨by decide, by decide⟩ S5 ⟨k 91 1 (by decide), s, s1, fun q => absurd q z, fun _ => ⟨rfl, h.2, k 19 2 (by decide), fun i => k 29 i (by decide)⟩⟩

-- SpoutNews$Texts.readWeather(LSpoutNews$Tokens;)Z
theorem k_Texts_readWeather_l7 {T : zyT} (hE : zyE T) {g0 : zi_M} {K29 K53 K85 K115 : zi_M → Prop} {Q : Int → zi_M → Prop}
    (hF : ∀ (g : zi_M) (s : Int), zk_I g → zk_fr fr_Texts_readWeather g0 g → zyI (zyW T) s → ¬ zyW T s = -1 → zyF T g (zyW T s) s → K29 g ∧ K53 g ∧ K85 g)
    (hN : ∀ (g : zi_M) (n : Int), zk_I g → zk_fr fr_Texts_readWeather g0 g → 0 ≤ n → n ≤ 16 → zyC T g (5 * n) → g 195 5 = n → zyWr T (g 206) (g 207) n → zyI (zyW T) (5 * n) → zyW T (5 * n) = -1 → K115 g) :
    ∀ (m : Nat) (l2 : Int) (g : zi_M), zk_I g → zk_fr fr_Texts_readWeather g0 g → (0 ≤ l2 ∧ l2 ≤ 16) → zyC T g (5 * l2) → g 195 5 = l2 → zyWr T (g 206) (g 207) l2 → (∀ i : Int, 0 ≤ i → i < 5 * l2 → zyW T i = 0) → 16 - l2 < (m : Int) → w_Texts_readWeather_l7 K29 K53 K85 K115 Q m l2 g
  | 0, l2, g, I, F, hl, hc, hn, hw, hz, hm => by exfalso; omega
  | m + 1, l2, g, I, F, hl, hc, hn, hw, hz, hm => by
    have a := zyC_a hc
    have sub : ∀ a i, (a = 191 ∧ i = 4) ∨ (a = 191 ∧ i = 5) ∨ (a = 191 ∧ i = 6) → fr_Texts_readWeather a i := fun a i h => by unfold fr_Texts_readWeather; omega
    unfold w_Texts_readWeather_l7
    refine ⟨⟨by omega, by omega⟩, fun c => by exfalso; omega, fun _ => ?_⟩
    refine k_Tokens_isAtEnd I (fun v3 b1 b2 b3 => ⟨fun ne => ?_, fun e => ?_⟩)
    · have k4 : T.1 (5 * l2) = 4 := Classical.byContradiction (fun q => ne (b2 a.2.2.2 (by rw [a.1]; exact q)))
      have f := zyW_e k4
      exact hN g l2 I F hl.1 hl.2 hc hn hw ⟨by omega, hz, by rw [f]; decide⟩ f
    · have k4 : ¬ T.1 (5 * l2) = 4 := fun q => by
        have := b3 a.2.2.2 (by rw [a.1]; exact q)
        omega
      refine k_Tokens_takeLineStart I ⟨by omega, by omega⟩ ⟨by omega, by omega⟩ (fun v6 g7 I7 F7 c7 x7 => ?_)
      have x := x7 T _ hc hE
      have y0 := zyW_0 k4
      rw [← y0] at x
      have G7 := zk_ft F F7 sub
      refine ⟨fun n6 => ?_, fun e6 => ?_⟩
      · have z0 : zyW T (5 * l2) = 0 := Classical.byContradiction (fun q => n6 (x.2.2 q))
        have l16 : l2 < 16 := (zyL_0.1 (y0.symm.trans z0)).2
        have C7 := x.1.1 z0
        have hz1 := zyI_s hz z0
        refine k_Tokens_takeBelow I7 ⟨by omega, by omega⟩ (fun v9 g10 I10 F10 c10 d10 x10 => ?_)
        have u := x10 T _ C7 hE
        rw [← zyW_1] at u
        have G10 := zk_ft G7 F10 sub
        refine ⟨⟨by omega, by omega⟩, fun e9 => ?_, fun n9 => ?_⟩
        · have z1 : ¬ zyW T (5 * l2 + 1) = 0 := fun q => by
            have v := u.2.1 q
            have k := zyN_0.1 (zyW_1.symm.trans q)
            have := hE.2.2.2 _ C7.2.1.2.1 C7.2.1.2.2 k.1
            omega
          have z2 : ¬ zyW T (5 * l2 + 1) = -1 := by rw [zyW_1]; exact zyN_ne
          exact (hF g10 _ I10 G10 ⟨by omega, hz1, z1⟩ z2 (u.1.2 z1)).2.1
        · have z1 : zyW T (5 * l2 + 1) = 0 := Classical.byContradiction (fun q => n9 (u.2.2 q))
          have C10 := u.1.1 z1
          have w9 := u.2.1 z1
          have hz2 := zyI_s hz1 z1
          refine k_Tokens_take I10 ⟨by omega, by omega⟩ ⟨by omega, by omega⟩ (fun v13 g14 I14 F14 c14 x14 => ?_)
          have u := x14 T _ C10 hE
          rw [← zyW_2] at u
          have G14 := zk_ft G10 F14 sub
          refine ⟨fun n13 => ?_, fun e13 => ?_⟩
          · have z2 : zyW T (5 * l2 + 1 + 1) = 0 := Classical.byContradiction (fun q => n13 (u.2.2 q))
            have C14 := u.1.1 z2
            have hz3 := zyI_s hz2 z2
            refine k_Tokens_takeBelow I14 ⟨by omega, by omega⟩ (fun v16 g17 I17 F17 c17 d17 x17 => ?_)
            have u := x17 T _ C14 hE
            rw [← zyW_3] at u
            have G17 := zk_ft G14 F17 sub
            refine ⟨⟨by omega, by omega⟩, fun e16 => ?_, fun n16 => ?_⟩
            · have z3 : ¬ zyW T (5 * l2 + 1 + 1 + 1) = 0 := fun q => by
                have v := u.2.1 q
                have k := zyN_0.1 (zyW_3.symm.trans q)
                have := hE.2.2.2 _ C14.2.1.2.1 C14.2.1.2.2 k.1
                omega
              have z4 : ¬ zyW T (5 * l2 + 1 + 1 + 1) = -1 := by rw [zyW_3]; exact zyN_ne
              exact (hF g17 _ I17 G17 ⟨by omega, hz3, z3⟩ z4 (u.1.2 z3)).2.2
            · have z3 : zyW T (5 * l2 + 1 + 1 + 1) = 0 := Classical.byContradiction (fun q => n16 (u.2.2 q))
              have C17 := u.1.1 z3
              have w16 := u.2.1 z3
              have hz4 := zyI_s hz3 z3
              refine k_Tokens_take I17 ⟨by omega, by omega⟩ ⟨by omega, by omega⟩ (fun v20 g21 I21 F21 c21 x21 => ?_)
              have u := x21 T _ C17 hE
              rw [← zyW_4] at u
              have G21 := zk_ft G17 F21 sub
              refine ⟨fun e20 => ?_, fun n20 => ⟨fun _ => ⟨⟨by omega, by omega⟩, ?_⟩, fun ge => by exfalso; omega⟩⟩
              · have z4 : ¬ zyW T (5 * l2 + 1 + 1 + 1 + 1) = 0 := fun q => by
                  have := u.2.1 q
                  omega
                have z5 : ¬ zyW T (5 * l2 + 1 + 1 + 1 + 1) = -1 := by rw [zyW_4]; exact zyK_ne
                exact (hF g21 _ I21 G21 ⟨by omega, hz4, z4⟩ z5 (u.1.2 z4)).2.2
              · have z4 : zyW T (5 * l2 + 1 + 1 + 1 + 1) = 0 := Classical.byContradiction (fun q => n20 (u.2.2 q))
                have C21 := u.1.1 z4
                have hz5 := zyI_s hz4 z4
                have r6 : g21 206 = g 206 := funext (fun i => by rw [F21 206 i (by unfold fr_Tokens_take; omega), F17 206 i (by unfold fr_Tokens_takeBelow; omega), F14 206 i (by unfold fr_Tokens_take; omega), F10 206 i (by unfold fr_Tokens_takeBelow; omega), F7 206 i (by unfold fr_Tokens_takeLineStart; omega)])
                have r7 : g21 207 = g 207 := funext (fun i => by rw [F21 207 i (by unfold fr_Tokens_take; omega), F17 207 i (by unfold fr_Tokens_takeBelow; omega), F14 207 i (by unfold fr_Tokens_take; omega), F10 207 i (by unfold fr_Tokens_takeBelow; omega), F7 207 i (by unfold fr_Tokens_takeLineStart; omega)])
                intro g24 e24 g25 e25 g26 e26
                have I24 : zk_I g24 := by rw [e24]; exact zk_upd (L := -2147483648) (H := 2147483647) rfl rfl I21 ⟨by omega, by omega⟩
                have I25 : zk_I g25 := by rw [e25]; exact zk_upd (L := 0) (H := 9) rfl rfl I24 ⟨by omega, by omega⟩
                have I26 : zk_I g26 := by rw [e26]; exact zk_upd (L := 0) (H := 16) rfl rfl I25 ⟨by omega, by omega⟩
                refine k_Texts_readWeather_l7 hE hF hN m (l2 + 1) g26 I26 ?_ ⟨by omega, by omega⟩ ?_ (by rw [e26, zi_u_eq]) ?_ ?_ (by omega)
                · rw [e26, e25, e24]
                  exact zk_fu (zk_fu (zk_fu G21 (Or.inl rfl)) (Or.inr (Or.inl rfl))) (Or.inr (Or.inr (Or.inr (Or.inr (Or.inr ⟨rfl, rfl⟩)))))
                · rw [show 5 * (l2 + 1) = 5 * l2 + 1 + 1 + 1 + 1 + 1 by omega]
                  exact zyC_u (zyC_u (zyC_u C21 e24 (Or.inr (by decide))) e25 (Or.inr (by decide))) e26 (Or.inr (by decide))
                · have q6 : g26 206 = zup (g 206) l2 (T.2.1 (5 * l2 + 1)) := by rw [e26, zi_u_row (by decide), e25, zi_u_row (by decide), e24, zup_u, r6, w9]
                  have q7 : g26 207 = zup (g 207) l2 (T.2.1 (5 * l2 + 1 + 1 + 1)) := by rw [e26, zi_u_row (by decide), e25, zup_u, e24, zi_u_row (by decide), r7, w16]
                  rw [q6, q7]
                  exact zyWr_s hw
                · rw [show 5 * (l2 + 1) = 5 * l2 + 1 + 1 + 1 + 1 + 1 by omega]
                  exact hz5
          · have z2 : ¬ zyW T (5 * l2 + 1 + 1) = 0 := fun q => by
              have := u.2.1 q
              omega
            have z3 : ¬ zyW T (5 * l2 + 1 + 1) = -1 := by rw [zyW_2]; exact zyK_ne
            exact (hF g14 _ I14 G14 ⟨by omega, hz2, z2⟩ z3 (u.1.2 z2)).2.1
      · have z0 : ¬ zyW T (5 * l2) = 0 := fun q => by
          have := x.2.1 q
          omega
        have z1 : ¬ zyW T (5 * l2) = -1 := by rw [y0]; exact zyL_ne
        exact (hF g7 _ I7 G7 ⟨by omega, hz, z0⟩ z1 (x.1.2 z0)).1
theorem k_Texts_readWeather {g : zi_M} {Q : Int → zi_M → Prop} (I : zk_I g) (px0 : zyC (zyM g) g 0 ∧ zyE (zyM g)) (hQ : ∀ (v : Int) (g' : zi_M), zk_I g' → zk_fr fr_Texts_readWeather g g' → (0 ≤ v ∧ v ≤ 1) → (zyWo (zyM g) g' v) → Q v g') : w_Texts_readWeather g Q := by
  unfold w_Texts_readWeather
  intro g1 e1
  have I1 : zk_I g1 := by rw [e1]; exact zk_upd (L := 0) (H := 16) rfl rfl I ⟨by decide, by decide⟩
  have F1 : zk_fr fr_Texts_readWeather g g1 := by rw [e1]; exact zk_fu (zk_f0 _) (Or.inr (Or.inr (Or.inr (Or.inr (Or.inr ⟨rfl, rfl⟩)))))
  have C1 : zyC (zyM g) g1 (5 * 0) := by
    rw [Int.mul_zero]
    exact zyC_u px0.1 e1 (Or.inr (by decide))
  refine ⟨17, k_Texts_readWeather_l7 px0.2 (g0 := g) (fun g' s I' F' hs hn hf => ?_) (fun g' n I' F' n0 n16 hc hn hw hi he => ?_) 17 0 g1 I1 F1 ⟨by decide, by decide⟩ C1 (by rw [e1, zi_u_eq]) zyWr_0 (fun i i0 i1 => by exfalso; omega) (by omega)⟩
  · have r := hQ 0 g' I' F' ⟨by decide, by decide⟩ ⟨s, hs, fun q => absurd q hn, fun _ => ⟨rfl, hf⟩⟩
    exact ⟨r, r, r⟩
  · exact hQ 1 g' I' F' ⟨by decide, by decide⟩ ⟨5 * n, hi, fun _ => ⟨rfl, by rw [hn], by rw [hn]; exact hw, hc.2.2.1, hc.2.2.2⟩, fun q => absurd he q⟩

