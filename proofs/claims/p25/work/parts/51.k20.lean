-- by program (wip/gen/mkz.py)
-- SpoutNews$Texts.copyWeather(LSpoutNews$Texts;)V
set_option maxRecDepth 100000 in
set_option maxHeartbeats 4000000 in
theorem k_Texts_copyWeather {r0 : Nat} (hr0 : zs_sh r0 = some (6, 11)) {r1 : Nat} (hr1 : zs_sh r1 = some (6, 11)) {g : zi_M} {Q : Int → zi_M → Prop} (I : zk_I g) (hQ : ∀ g' : zi_M, zk_I g' → zk_fr (fr_Texts_copyWeather r0 r1) g g' → (zyTw r0 r1 g g') → Q 0 g') : w_Texts_copyWeather r0 r1 g Q := by
  unfold w_Texts_copyWeather
  intro g2 e_1
  have I_2 : zk_I g2 := by rw [e_1]; exact zk_cp (L := (-2147483648)) (H := 2147483647) (fun i => zk_la6_11 hr1 (i := i)) (fun i => zk_la6_11 hr0 (i := i)) I (zj_a6_11 hr0)
  have F_3 : zk_fr (fr_Texts_copyWeather r0 r1) g g2 := by rw [e_1]; exact zk_fc (zk_f0 _) (fun i => (Or.inl rfl))
  intro g4 e_4
  have I_5 : zk_I g4 := by rw [e_4]; exact zk_cp (L := 0) (H := 9) (fun i => zk_la6_12 hr1 (i := i)) (fun i => zk_la6_12 hr0 (i := i)) I_2 (zj_a6_12 hr0)
  have F_6 : zk_fr (fr_Texts_copyWeather r0 r1) g g4 := by rw [e_4]; exact zk_fc F_3 (fun i => (Or.inr (Or.inl rfl)))
  have m_10 := zk_c6_5 hr1 I_5
  intro g5 e_7
  have I_8 : zk_I g5 := by rw [e_7]; exact zk_upd (zk_lc6_5 hr0).1 (zk_lc6_5 hr0).2 I_5 ⟨by omega, by omega⟩ (zj_w6 hr0)
  have F_9 : zk_fr (fr_Texts_copyWeather r0 r1) g g5 := by rw [e_7]; exact zk_fu F_6 (Or.inr (Or.inr ⟨rfl, rfl⟩))
  exact hQ _ I_8 F_9 (by exact zyTw_all hr0 hr1 (by assumption) (by assumption) (by assumption))
-- SpoutNews.takeWeather(I)I
theorem k_S_takeWeather {l1 : Int} {g : zi_M} {Q : Int → zi_M → Prop} (I : zk_I g) (p1 : 0 ≤ l1 ∧ l1 ≤ 400) (hQ : ∀ (v : Int) (g' : zi_M), zk_I g' → zk_fr fr_S_takeWeather g g' → ((-1) ≤ v ∧ v ≤ 16) → (g' 91 1 = 0 ∨ g' 91 1 = g 91 1) → (zySs 1000000003 (g 190) l1 g') → (zySw g g' v) → Q v g') : w_S_takeWeather l1 g Q := by
  unfold w_S_takeWeather
  refine k_Tokens_split (show zs_str 1000000003 from rfl) I p1 (fun g2 I2 F2 s2 c2 => ?_)
  have S2 : zySs 1000000003 (g 190) l1 g2 := ⟨s2, c2.2.2.2⟩
  have sub2 : ∀ a i, fr_Tokens_split 1000000003 a i → fr_S_takeWeather a i := (fun a i h => by unfold fr_Tokens_split at h; unfold fr_S_takeWeather; rcases h with h | h | h | h | h | h | h <;> simp [h])
  have subR : ∀ a i, fr_Texts_readWeather a i → fr_S_takeWeather a i := (fun a i h => by unfold fr_Texts_readWeather at h; unfold fr_S_takeWeather; rcases h with h | h | h | h | h | h <;> simp [h])
  have G2 := zk_ft (zk_f0 _) F2 sub2
  refine k_Texts_readWeather I2 (zySs_C S2 c2) (fun v4 g5 I5 F5 b5 x5 => ?_)
  have G5 := zk_ft G2 F5 subR
  have k5 : ∀ (a : Nat) (i : Int), a = 192 ∨ a = 193 ∨ a = 194 ∨ (a = 191 ∧ i = 3) → g5 a i = g2 a i := fun a i h => F5 a i (by unfold fr_Texts_readWeather; omega)
  have S5 := zySs_m S2 k5
  have m5 := zyM_m k5
  rw [← m5] at x5
  refine ⟨fun ne => ?_, fun e => ?_⟩
  · refine k_Texts_copyWeather rfl rfl I5 (fun g8 I8 F8 t8 => ?_)
    have G8 := zk_ft G5 F8 (fun a i h => by unfold fr_Texts_copyWeather at h; unfold fr_S_takeWeather; rcases h with h | h | h <;> simp [h])
    refine k_Past_forget I8 (fun g11 I11 F11 f11 => ?_)
    have G11 := zk_ft G8 F11 (fun a i h => by unfold fr_Past_forget at h; unfold fr_S_takeWeather; simp [h])
    have k8 : ∀ (a : Nat) (i : Int), ¬ (a = 91 ∧ i = 1) → ¬ (a = 30 ∨ a = 31 ∨ (a = 19 ∧ i = 5)) → g11 a i = g5 a i := fun a i h1 h2 => by rw [F11 a i (by unfold fr_Past_forget; omega), F8 a i (by unfold fr_Texts_copyWeather; omega)]
    have k9 : ∀ (a : Nat) (i : Int), ¬ (a = 91 ∧ i = 1) → g11 a i = g8 a i := fun a i h1 => F11 a i (by unfold fr_Past_forget; omega)
    have e195 : g11 195 5 = g5 195 5 := k8 195 5 (by decide) (by decide)
    have b195 : 0 ≤ g5 195 5 ∧ g5 195 5 ≤ 16 := I5.1 195 5
    have m11 : zyM g11 = zyM g5 := zyM_m (fun a i h => k8 a i (by omega) (by omega))
    obtain ⟨s, s1, s2, s3⟩ := x5
    by_cases z : zyW (zyM g5) s = -1
    · obtain ⟨h1, h2, h3, h4, h5⟩ := s2 z
      refine hQ _ g11 I11 G11 ⟨by omega, by omega⟩ (by omega) (zySs_m S5 (fun a i h => k8 a i (by omega) (by omega))) ?_
      unfold zySw
      rw [m11]
      have e19 : g11 19 5 = g5 195 5 := by rw [k9 19 5 (by decide)]; exact t8.1
      refine ⟨s, s1, fun _ => ⟨by rw [e195, e19], by rw [e195]; exact h2, ?_, by rw [k8 191 5 (by decide) (by decide)]; exact h4, by rw [k8 191 6 (by decide) (by decide)]; exact h5, f11⟩, fun q => absurd z q⟩
      intro m m0 m1
      rw [e195] at m1
      rw [k9 30 m (by omega), k9 31 m (by omega), t8.2.1 m m0 (by omega), t8.2.2 m m0 (by omega)]
      exact h3 m m0 m1
    · exfalso
      have := (s3 z).1
      omega
  · obtain ⟨s, s1, s2, s3⟩ := x5
    have z : ¬ zyW (zyM g5) s = -1 := fun q => by have := (s2 q).1; omega
    have h := s3 z
    have k : ∀ (a : Nat) (i : Int), a ≤ 91 → g5 a i = g a i := fun a i ha => by rw [F5 a i (by unfold fr_Texts_readWeather; omega), F2 a i (by unfold fr_Tokens_split; omega)]
    exact hQ (-1) g5 I5 G5 ⟨by decide, by decide⟩ (Or.inr (k 91 1 (by decide))) S5 ⟨s, s1, fun q => absurd q z, fun _ => ⟨rfl, h.2, k 91 1 (by decide), k 19 5 (by decide), fun i => k 30 i (by decide), fun i => k 31 i (by decide)⟩⟩

-- SpoutNews$Texts.readDeed(LSpoutNews$Tokens;LSpoutNews$World;I)Z
theorem k_Texts_readDeed {l3 : Int} {g : zi_M} {Q : Int → zi_M → Prop} (I : zk_I g) (p3 : 0 ≤ l3 ∧ l3 ≤ 15) (hQ : ∀ (v : Int) (g' : zi_M), zk_I g' → zk_fr fr_Texts_readDeed g g' → (0 ≤ v ∧ v ≤ 1) → (∀ (T : zyT) (n : Int), zyC T g (zyPP T n + 2) → zyE T → 0 ≤ n → zyDc T (g 2 8) (g 2 11) g g' l3 n v) → Q v g') : w_Texts_readDeed l3 g Q := by
  have b93 : ∀ x : zi_M, zk_I x → -1 ≤ x 193 (x 191 4) ∧ x 193 (x 191 4) ≤ 9999 := fun x Ix => Ix.1 193 _
  have b8 : 0 ≤ g 2 8 ∧ g 2 8 ≤ 10 := I.1 2 8
  have b11 : 0 ≤ g 2 11 ∧ g 2 11 ≤ 8 := I.1 2 11
  have sub : ∀ a i, (a = 191 ∧ i = 4) ∨ (a = 191 ∧ i = 5) ∨ (a = 191 ∧ i = 6) → fr_Texts_readDeed a i := fun a i h => by unfold fr_Texts_readDeed; omega
  -- rows are written; what says whether that was right
  have b92 : ∀ (l4 l5 l6 : Int) (x : zi_M), zk_I x → zk_fr fr_Texts_readDeed g x → (0 ≤ l4 ∧ l4 ≤ 6) → (0 ≤ l5 ∧ l5 ≤ 9) → (-1 ≤ l6 ∧ l6 ≤ 15) → (∀ i, x 209 i = g 209 i) → (∀ i, x 210 i = g 210 i) → (∀ i, x 211 i = g 211 i) → (∀ (T : zyT) (n : Int), zyC T g (zyPP T n + 2) → zyE T → 0 ≤ n → (l6 = -1 → zyDf T (g 2 8) (g 2 11) n 2 (zyF T x)) ∧ (¬ l6 = -1 → (∀ k : Int, 2 ≤ k → k < zyPl (T.2.1 (zyPP T n + 2)) - 1 → zyPg T (g 2 8) (g 2 11) n (zyPP T n) k = 0) ∧ zyC T x (zyPP T n + (zyPl (T.2.1 (zyPP T n + 2)) - 1)) ∧ l4 = T.2.1 (zyPP T n + 2) ∧ l5 = T.2.1 (zyPP T n + 3) ∧ l6 = zyPx T (zyPP T n))) → w_Texts_readDeed_b92 l3 l4 l5 l6 x Q := by
    intro l4 l5 l6 x Ix Fx h4 h5 h6 r9 r10 r11 hT
    unfold w_Texts_readDeed_b92
    refine ⟨⟨by omega, by omega⟩, ?_⟩
    intro g23 e23 g24 e24 g25 e25
    have I23 : zk_I g23 := by rw [e23]; exact zk_upd (L := -2147483648) (H := 2147483647) rfl rfl Ix ⟨by omega, by omega⟩
    have I24 : zk_I g24 := by rw [e24]; exact zk_upd (L := -2147483648) (H := 2147483647) rfl rfl I23 ⟨by omega, by omega⟩
    have I25 : zk_I g25 := by rw [e25]; exact zk_upd (L := -2147483648) (H := 2147483647) rfl rfl I24 ⟨by omega, by omega⟩
    have F25 : zk_fr fr_Texts_readDeed g g25 := by rw [e25, e24, e23]; exact zk_fu (zk_fu (zk_fu Fx (Or.inl rfl)) (Or.inr (Or.inl rfl))) (Or.inr (Or.inr (Or.inl rfl)))
    have q9 : g25 209 = zup (g 209) l3 l4 := by rw [e25, zi_u_row (by decide), e24, zi_u_row (by decide), e23, zup_u, funext r9]
    have q10 : g25 210 = zup (g 210) l3 l5 := by rw [e25, zi_u_row (by decide), e24, zup_u, e23, zi_u_row (by decide), funext r10]
    have q11 : g25 211 = zup (g 211) l3 l6 := by rw [e25, zup_u, e24, zi_u_row (by decide), e23, zi_u_row (by decide), funext r11]
    have m : ∀ i : Int, g25 191 i = x 191 i := fun i => by rw [e25, zi_u_ne (by decide), e24, zi_u_ne (by decide), e23, zi_u_ne (by decide)]
    refine ⟨⟨by omega, by omega⟩, fun e => ?_, fun ne => ?_⟩
    · refine hQ 0 g25 I25 F25 ⟨by decide, by decide⟩ (fun T n hc hE h0 => Or.inl ⟨rfl, ?_⟩)
      obtain ⟨o, o1, o2, o3, o4⟩ := (hT T n hc hE h0).1 e
      exact ⟨o, o1, o2, o3, by rw [m]; exact o4.1, by rw [m]; exact o4.2⟩
    · refine hQ 1 g25 I25 F25 ⟨by decide, by decide⟩ (fun T n hc hE h0 => Or.inr ⟨rfl, ?_⟩)
      obtain ⟨h1, h2, h3, h4, h5⟩ := (hT T n hc hE h0).2 ne
      refine ⟨h1, zyC_u (zyC_u (zyC_u h2 e23 (Or.inr (by decide))) e24 (Or.inr (by decide))) e25 (Or.inr (by decide)), by rw [q9, h3], by rw [q10, h4], by rw [q11, h5]⟩
  have bad : ∀ (v : Int) (x : zi_M), v = 0 → zk_I x → zk_fr fr_Texts_readDeed g x → (∀ (T : zyT) (n : Int), zyC T g (zyPP T n + 2) → zyE T → 0 ≤ n → zyDf T (g 2 8) (g 2 11) n 2 (zyF T x)) → Q v x := fun v x e Ix Fx hT => hQ v x Ix Fx ⟨by omega, by omega⟩ (fun T n hc hE h0 => Or.inl ⟨e, hT T n hc hE h0⟩)
  have not2 : ∀ (v : Int) (x : zi_M), v = 0 → zk_I x → zk_fr fr_Tokens_refuse g x → (∀ (T : zyT) (t : Int), zyC T g t → zyF T x 1 t) → (∀ (T : zyT) (n : Int), zyC T g (zyPP T n + 2) → ¬ (T.1 (zyPP T n + 2) = 2 ∧ 0 ≤ T.2.1 (zyPP T n + 2) ∧ T.2.1 (zyPP T n + 2) ≤ 6)) → Q v x := fun v x e Ix Fx hx hn => bad v x e Ix (zk_ft (zk_f0 _) Fx (fun a i h => sub a i (Or.inr h))) (fun T n hc hE h0 => by
    have b := zyPl_b (T.2.1 (zyPP T n + 2))
    have z : zyPg T (g 2 8) (g 2 11) n (zyPP T n) 2 = 1 := zyPg_2n (hn T n hc)
    exact zyDf_o (o := 2) ⟨by decide, by omega⟩ zyZ_0 (by rw [z]; decide) (by rw [z]; exact hx T _ hc))
  unfold w_Texts_readDeed
  have r := b93 g I
  refine k_Tokens_keyword I (fun v1 a1 a2 a3 => ?_)
  have kw : ∀ (T : zyT) (t : Int), zyC T g t → (T.1 t = 2 → v1 = T.2.1 t) ∧ (¬ T.1 t = 2 → v1 = -1) := fun T t hc => by
    have a := zyC_a hc
    exact ⟨fun q => by rw [← a.2.1]; exact a3 a.2.2.2 (by rw [a.1]; exact q), fun q => a2 a.2.2.2 (by rw [a.1]; exact q)⟩
  refine ⟨⟨by omega, by omega⟩, fun lt => ?_, fun ge => ⟨fun le => ?_, fun gt => ?_⟩⟩
  · refine k_Tokens_refuse I ⟨by decide, by decide⟩ (fun v g' I' F' c x => not2 v g' (by omega) I' F' x (fun T n hc q => ?_))
    have := (kw T _ hc).1 q.1
    omega
  · refine k_Tokens_step I (fun g9 I9 F9 x9 => ?_)
    have G9 : zk_fr fr_Texts_readDeed g g9 := zk_ft (zk_f0 _) F9 (fun a i h => sub a i (Or.inl h))
    have e8 : g9 2 8 = g 2 8 := F9 2 8 (by unfold fr_Tokens_step; omega)
    have e11 : g9 2 11 = g 2 11 := F9 2 11 (by unfold fr_Tokens_step; omega)
    have K2 : ∀ (T : zyT) (n : Int), zyC T g (zyPP T n + 2) → zyE T → (T.1 (zyPP T n + 2) = 2 ∧ T.2.1 (zyPP T n + 2) = v1) ∧ zyC T g9 (zyPP T n + 3) := fun T n hc hE => by
      have k := kw T _ hc
      have k1 : T.1 (zyPP T n + 2) = 2 := Classical.byContradiction (fun q => by have := k.2 q; omega)
      refine ⟨⟨k1, (k.1 k1).symm⟩, ?_⟩
      have := x9 T _ hc hE (by omega)
      rw [show zyPP T n + 2 + 1 = zyPP T n + 3 by omega] at this
      exact this
    refine k_World_countOfWho rfl I9 ⟨by omega, by omega⟩ (fun v11 d1 d2 d3 d4 d5 => ?_)
    have bw : 0 ≤ v11 ∧ v11 ≤ 10 := by omega
    rw [e8, e11] at d5
    refine k_Tokens_takeBelow I9 ⟨by omega, by omega⟩ (fun v14 g15 I15 F15 c15 d15 x15 => ?_)
    have G15 : zk_fr fr_Texts_readDeed g g15 := zk_ft G9 F15 (fun a i h => sub a i h)
    have K3 : ∀ (T : zyT) (n : Int), zyC T g (zyPP T n + 2) → zyE T → (zyPg T (g 2 8) (g 2 11) n (zyPP T n) 2 = 0) ∧ (¬ v14 = -1 → zyPg T (g 2 8) (g 2 11) n (zyPP T n) 3 = 0 ∧ zyC T g15 (zyPP T n + 4) ∧ v14 = T.2.1 (zyPP T n + 3)) ∧ (v14 = -1 → ¬ zyPg T (g 2 8) (g 2 11) n (zyPP T n) 3 = 0 ∧ zyF T g15 (zyPg T (g 2 8) (g 2 11) n (zyPP T n) 3) (zyPP T n + 3)) := fun T n hc hE => by
      obtain ⟨k, C9⟩ := K2 T n hc hE
      have u := x15 T _ C9 hE
      have e : zyPg T (g 2 8) (g 2 11) n (zyPP T n) 3 = zyN T v11 (zyPP T n + 3) := by rw [zyPg_3, k.2, d5]
      rw [← e] at u
      refine ⟨zyPg_2 ⟨k.1, by omega, by omega⟩, fun ne => ?_, fun e1 => ?_⟩
      · have z : zyPg T (g 2 8) (g 2 11) n (zyPP T n) 3 = 0 := Classical.byContradiction (fun q => ne (u.2.2 q))
        have C := u.1.1 z
        rw [show zyPP T n + 3 + 1 = zyPP T n + 4 by omega] at C
        exact ⟨z, C, u.2.1 z⟩
      · have z : ¬ zyPg T (g 2 8) (g 2 11) n (zyPP T n) 3 = 0 := fun q => by
          have v := u.2.1 q
          have kk := (zyN_0.1 (e.symm.trans q)).1
          have := hE.2.2.2 _ C9.2.1.2.1 C9.2.1.2.2 kk
          omega
        exact ⟨z, u.1.2 z⟩
    have p23 : ∀ {T : zyT} {n : Int}, zyPg T (g 2 8) (g 2 11) n (zyPP T n) 2 = 0 → ∀ k : Int, 2 ≤ k → k < 3 → zyPg T (g 2 8) (g 2 11) n (zyPP T n) k = 0 := fun {T n} h => zyZ_2 zyZ_0 (by decide) h
    refine ⟨⟨by omega, by omega⟩, fun ne14 => ?_, fun e14 => ?_⟩
    · have p24 : ∀ (T : zyT) (n : Int), zyC T g (zyPP T n + 2) → zyE T → ∀ k : Int, 2 ≤ k → k < 4 → zyPg T (g 2 8) (g 2 11) n (zyPP T n) k = 0 := fun T n hc hE => by
        obtain ⟨k2, k3, -⟩ := K3 T n hc hE
        exact zyZ_2 (p23 k2) (by decide) (k3 ne14).1
      have rows : ∀ x : zi_M, zk_fr fr_Tokens_takeBelow g15 x → (∀ i, x 209 i = g 209 i) ∧ (∀ i, x 210 i = g 210 i) ∧ (∀ i, x 211 i = g 211 i) := fun x Fx => ⟨fun i => by rw [Fx 209 i (by unfold fr_Tokens_takeBelow; omega), F15 209 i (by unfold fr_Tokens_takeBelow; omega), F9 209 i (by unfold fr_Tokens_step; omega)], fun i => by rw [Fx 210 i (by unfold fr_Tokens_takeBelow; omega), F15 210 i (by unfold fr_Tokens_takeBelow; omega), F9 210 i (by unfold fr_Tokens_step; omega)], fun i => by rw [Fx 211 i (by unfold fr_Tokens_takeBelow; omega), F15 211 i (by unfold fr_Tokens_takeBelow; omega), F9 211 i (by unfold fr_Tokens_step; omega)]⟩
      have e8' : g15 2 8 = g 2 8 := by rw [F15 2 8 (by unfold fr_Tokens_takeBelow; omega)]; exact e8
      refine k_World_countOfWhat rfl I15 ⟨by omega, by omega⟩ (fun v18 f1 f2 f3 f4 => ?_)
      have b18 : -1 ≤ v18 ∧ v18 ≤ 16 := by omega
      refine ⟨⟨by omega, by omega⟩, fun e18 => ?_, fun n18 => ⟨fun e6 => ?_, fun n6 => ?_⟩⟩
      · have r0 := rows g15 (zk_f0 _)
        have hn : ¬ (v1 = 0 ∨ v1 = 2) ∧ ¬ v1 = 6 := by omega
        refine b92 v1 v14 0 g15 I15 G15 ⟨ge, le⟩ ⟨by omega, by omega⟩ ⟨by decide, by decide⟩ r0.1 r0.2.1 r0.2.2 (fun T n hc hE h0 => ⟨fun q => absurd q (by decide), fun _ => ?_⟩)
        obtain ⟨k, -⟩ := K2 T n hc hE
        obtain ⟨-, k3, -⟩ := K3 T n hc hE
        have w1 : ¬ (T.2.1 (zyPP T n + 2) = 0 ∨ T.2.1 (zyPP T n + 2) = 2) := by rw [k.2]; exact hn.1
        have w2 : ¬ T.2.1 (zyPP T n + 2) = 6 := by rw [k.2]; exact hn.2
        rw [zyPl_n w1 w2, show (5 : Int) - 1 = 4 from rfl, zyPx_e w1 w2]
        exact ⟨p24 T n hc hE, (k3 ne14).2.1, k.2.symm, (k3 ne14).2.2, rfl⟩
      · have v16 : v18 = 16 := by omega
        refine k_Tokens_takeBelow I15 ⟨by omega, by omega⟩ (fun v28 g29 I29 F29 c29 d29 x29 => ?_)
        have r0 := rows g29 F29
        refine b92 v1 v14 v28 g29 I29 (zk_ft G15 F29 (fun a i h => sub a i h)) ⟨ge, le⟩ ⟨by omega, by omega⟩ ⟨by omega, by omega⟩ r0.1 r0.2.1 r0.2.2 (fun T n hc hE h0 => ?_)
        obtain ⟨k, -⟩ := K2 T n hc hE
        obtain ⟨-, k3, -⟩ := K3 T n hc hE
        have C15 := (k3 ne14).2.1
        have w : T.2.1 (zyPP T n + 2) = 6 := by rw [k.2]; exact e6
        have e : zyPg T (g 2 8) (g 2 11) n (zyPP T n) 4 = zyN T 16 (zyPP T n + 4) := zyPg_4t w
        have u := x29 T _ C15 hE
        rw [v16, ← e] at u
        rw [zyPl_6 w, show (6 : Int) - 1 = 5 from rfl, zyPx_t w]
        refine ⟨fun q => ?_, fun ne => ?_⟩
        · have z : ¬ zyPg T (g 2 8) (g 2 11) n (zyPP T n) 4 = 0 := fun y => by
            have v := u.2.1 y
            have kk := (zyN_0.1 (e.symm.trans y)).1
            have := hE.2.2.2 _ C15.2.1.2.1 C15.2.1.2.2 kk
            omega
          exact zyDf_o (o := 4) ⟨by decide, by rw [zyPl_6 w]; decide⟩ (p24 T n hc hE) z (u.1.2 z)
        · have z : zyPg T (g 2 8) (g 2 11) n (zyPP T n) 4 = 0 := Classical.byContradiction (fun q => ne (u.2.2 q))
          have C := u.1.1 z
          rw [show zyPP T n + 4 + 1 = zyPP T n + 5 by omega] at C
          exact ⟨zyZ_2 (p24 T n hc hE) (by decide) z, C, k.2.symm, (k3 ne14).2.2, u.2.1 z⟩
      · have v0 : v18 = g 2 8 ∧ (v1 = 0 ∨ v1 = 2) := by omega
        refine k_Tokens_take I15 ⟨by decide, by decide⟩ ⟨by decide, by decide⟩ (fun v31 g32 I32 F32 c32 x32 => ?_)
        have G32 : zk_fr fr_Texts_readDeed g g32 := zk_ft G15 F32 (fun a i h => sub a i h)
        have K4 : ∀ (T : zyT) (n : Int), zyC T g (zyPP T n + 2) → zyE T → (T.2.1 (zyPP T n + 2) = 0 ∨ T.2.1 (zyPP T n + 2) = 2) ∧ zyS T g32 (zyPP T n + 4) (zyPg T (g 2 8) (g 2 11) n (zyPP T n) 4) ∧ (zyPg T (g 2 8) (g 2 11) n (zyPP T n) 4 = 0 → v31 = 1) ∧ (¬ zyPg T (g 2 8) (g 2 11) n (zyPP T n) 4 = 0 → v31 = 0) := fun T n hc hE => by
          obtain ⟨k, -⟩ := K2 T n hc hE
          obtain ⟨-, k3, -⟩ := K3 T n hc hE
          have w : T.2.1 (zyPP T n + 2) = 0 ∨ T.2.1 (zyPP T n + 2) = 2 := by rw [k.2]; exact v0.2
          have e : zyPg T (g 2 8) (g 2 11) n (zyPP T n) 4 = zyK T 2 8 (zyPP T n + 4) := zyPg_4a w
          rw [e]
          exact ⟨w, x32 T _ (k3 ne14).2.1 hE⟩
        refine ⟨fun n31 => ?_, fun e31 => ?_⟩
        · refine k_Tokens_takeBelow I32 ⟨by omega, by omega⟩ (fun v34 g35 I35 F35 c35 d35 x35 => ?_)
          have r0 := rows g35 (zk_ft F32 F35 (fun a i h => h))
          refine b92 v1 v14 v34 g35 I35 (zk_ft G32 F35 (fun a i h => sub a i h)) ⟨ge, le⟩ ⟨by omega, by omega⟩ ⟨by omega, by omega⟩ r0.1 r0.2.1 r0.2.2 (fun T n hc hE h0 => ?_)
          obtain ⟨k, -⟩ := K2 T n hc hE
          obtain ⟨-, k3, -⟩ := K3 T n hc hE
          obtain ⟨w, s4, -, n4⟩ := K4 T n hc hE
          have z4 : zyPg T (g 2 8) (g 2 11) n (zyPP T n) 4 = 0 := Classical.byContradiction (fun q => n31 (n4 q))
          have C32 := s4.1 z4
          rw [show zyPP T n + 4 + 1 = zyPP T n + 5 by omega] at C32
          have e : zyPg T (g 2 8) (g 2 11) n (zyPP T n) 5 = zyN T (g 2 8) (zyPP T n + 5) := zyPg_5a w
          have u := x35 T _ C32 hE
          rw [v0.1, ← e] at u
          have p25 := zyZ_2 (p24 T n hc hE) (show (5 : Int) = 4 + 1 by decide) z4
          rw [zyPl_2 w, show (7 : Int) - 1 = 6 from rfl, zyPx_a w]
          refine ⟨fun q => ?_, fun ne => ?_⟩
          · have z : ¬ zyPg T (g 2 8) (g 2 11) n (zyPP T n) 5 = 0 := fun y => by
              have v := u.2.1 y
              have kk := (zyN_0.1 (e.symm.trans y)).1
              have := hE.2.2.2 _ C32.2.1.2.1 C32.2.1.2.2 kk
              omega
            exact zyDf_o (o := 5) ⟨by decide, by rw [zyPl_2 w]; decide⟩ p25 z (u.1.2 z)
          · have z : zyPg T (g 2 8) (g 2 11) n (zyPP T n) 5 = 0 := Classical.byContradiction (fun q => ne (u.2.2 q))
            have C := u.1.1 z
            rw [show zyPP T n + 5 + 1 = zyPP T n + 6 by omega] at C
            exact ⟨zyZ_2 p25 (by decide) z, C, k.2.symm, (k3 ne14).2.2, u.2.1 z⟩
        · refine bad 0 g32 rfl I32 G32 (fun T n hc hE h0 => ?_)
          obtain ⟨w, s4, y4, -⟩ := K4 T n hc hE
          have z : ¬ zyPg T (g 2 8) (g 2 11) n (zyPP T n) 4 = 0 := fun q => by have := y4 q; omega
          exact zyDf_o (o := 4) ⟨by decide, by rw [zyPl_2 w]; decide⟩ (p24 T n hc hE) z (s4.2 z)
    · refine bad 0 g15 rfl I15 G15 (fun T n hc hE h0 => ?_)
      obtain ⟨k2, -, k3⟩ := K3 T n hc hE
      have b := zyPl_b (T.2.1 (zyPP T n + 2))
      exact zyDf_o (o := 3) ⟨by decide, by omega⟩ (p23 k2) (k3 e14).1 (k3 e14).2
  · refine k_Tokens_refuse I ⟨by decide, by decide⟩ (fun v g' I' F' c x => not2 v g' (by omega) I' F' x (fun T n hc q => ?_))
    have := (kw T _ hc).1 q.1
    omega

-- SpoutNews$Texts.readPlan(LSpoutNews$Tokens;LSpoutNews$World;)Z
theorem k_Texts_readPlan_l7 {T : zyT} (hE : zyE T) {g0 : zi_M} {K36 K73 K96 : zi_M → Prop} {Q : Int → zi_M → Prop}
    (hF : ∀ (g : zi_M) (n o : Int), zk_I g → zk_fr fr_Texts_readPlan g0 g → zyPi T (g0 2 8) (g0 2 11) n o → ¬ zyPg T (g0 2 8) (g0 2 11) n (zyPP T n) o = -1 → zyF T g (zyPg T (g0 2 8) (g0 2 11) n (zyPP T n) o) (zyPP T n + o) → K36 g ∧ K73 g)
    (hN : ∀ (g : zi_M) (n : Int), zk_I g → zk_fr fr_Texts_readPlan g0 g → zyC T g (zyPP T n) → g 195 10 = n → zyPc T (g 208) (g 209) (g 210) (g 211) n → zyPi T (g0 2 8) (g0 2 11) n 0 → zyPg T (g0 2 8) (g0 2 11) n (zyPP T n) 0 = -1 → K96 g) :
    ∀ (m : Nat) (l3 : Int) (g : zi_M), zk_I g → zk_fr fr_Texts_readPlan g0 g → (0 ≤ l3 ∧ l3 ≤ 16) → zyC T g (zyPP T l3) → g 195 10 = l3 → zyPc T (g 208) (g 209) (g 210) (g 211) l3 → (∀ m : Int, 0 ≤ m → m < l3 → ∀ k : Int, 0 ≤ k → k < zyPl (T.2.1 (zyPP T m + 2)) → zyPg T (g0 2 8) (g0 2 11) m (zyPP T m) k = 0) → 16 - l3 < (m : Int) → w_Texts_readPlan_l7 K36 K73 K96 Q m l3 g
  | 0, l3, g, I, F, hl, hc, hn, hw, hz, hm => by exfalso; omega
  | m + 1, l3, g, I, F, hl, hc, hn, hw, hz, hm => by
    have a := zyC_a hc
    have sub : ∀ a i, (a = 191 ∧ i = 4) ∨ (a = 191 ∧ i = 5) ∨ (a = 191 ∧ i = 6) → fr_Texts_readPlan a i := fun a i h => by unfold fr_Texts_readPlan; omega
    have e8 : ∀ x : zi_M, zk_fr fr_Texts_readPlan g0 x → x 2 8 = g0 2 8 ∧ x 2 11 = g0 2 11 := fun x Fx => ⟨Fx 2 8 (by unfold fr_Texts_readPlan; omega), Fx 2 11 (by unfold fr_Texts_readPlan; omega)⟩
    unfold w_Texts_readPlan_l7
    refine ⟨⟨by omega, by omega⟩, fun c => by exfalso; omega, fun _ => ?_⟩
    refine k_Tokens_isAtEnd I (fun v3 b1 b2 b3 => ⟨fun ne => ?_, fun e => ?_⟩)
    · have k4 : T.1 (zyPP T l3) = 4 := Classical.byContradiction (fun q => ne (b2 a.2.2.2 (by rw [a.1]; exact q)))
      have f : zyPg T (g0 2 8) (g0 2 11) l3 (zyPP T l3) 0 = -1 := zyPg_e k4
      exact hN g l3 I F hc hn hw (zyPi_0 hl.1 hz (by rw [f]; decide)) f
    · have k4 : ¬ T.1 (zyPP T l3) = 4 := fun q => by
        have := b3 a.2.2.2 (by rw [a.1]; exact q)
        omega
      have y0 : zyPg T (g0 2 8) (g0 2 11) l3 (zyPP T l3) 0 = zyL T 7 l3 (zyPP T l3) := zyPg_0 k4
      refine k_Tokens_takeLineStart I ⟨by omega, by omega⟩ ⟨by omega, by omega⟩ (fun v6 g7 I7 F7 c7 x7 => ?_)
      have x := x7 T _ hc hE
      rw [← y0] at x
      have G7 := zk_ft F F7 sub
      refine ⟨fun e6 => ?_, fun n6 => ⟨fun lt => ?_, fun ge => ?_⟩⟩
      · have z0 : ¬ zyPg T (g0 2 8) (g0 2 11) l3 (zyPP T l3) 0 = 0 := fun q => by
          have := x.2.1 q
          omega
        have f := x.1.2 z0
        exact (hF g7 l3 0 I7 G7 (zyPi_0 hl.1 hz z0) (by rw [y0]; exact zyL_ne) (by rw [Int.add_zero]; exact f)).1
      · have z0 : zyPg T (g0 2 8) (g0 2 11) l3 (zyPP T l3) 0 = 0 := Classical.byContradiction (fun q => n6 (x.2.2 q))
        have C7 := x.1.1 z0
        refine k_Tokens_takeBelow I7 ⟨by decide, by decide⟩ (fun v9 g10 I10 F10 c10 d10 x10 => ?_)
        have u := x10 T _ C7 hE
        rw [← zyPg_1 (sp := g0 2 8) (si := g0 2 11) (n := l3)] at u
        have G10 := zk_ft G7 F10 sub
        refine ⟨⟨by omega, by omega⟩, fun e9 => ?_, fun n9 => ?_⟩
        · have z1 : ¬ zyPg T (g0 2 8) (g0 2 11) l3 (zyPP T l3) 1 = 0 := fun q => by
            have v := u.2.1 q
            have k := zyN_0.1 (zyPg_1.symm.trans q)
            have := hE.2.2.2 _ C7.2.1.2.1 C7.2.1.2.2 k.1
            omega
          have b := zyPl_b (T.2.1 (zyPP T l3 + 2))
          obtain ⟨o, w1, w2, w3⟩ := zyPi_f (P := zyF T g10) hl.1 hz z0 (zyDf_o (o := 1) ⟨by decide, by omega⟩ zyZ_0 z1 (u.1.2 z1))
          exact (hF g10 l3 o I10 G10 w1 w2 w3).2
        · have z1 : zyPg T (g0 2 8) (g0 2 11) l3 (zyPP T l3) 1 = 0 := Classical.byContradiction (fun q => n9 (u.2.2 q))
          have C10 := u.1.1 z1
          rw [show zyPP T l3 + 1 + 1 = zyPP T l3 + 2 by omega] at C10
          have w9 := u.2.1 z1
          have e10 := e8 g10 G10
          refine k_Texts_readDeed I10 ⟨by omega, by omega⟩ (fun v13 g14 I14 F14 c14 x14 => ?_)
          have G14 := zk_ft G10 F14 (fun a i h => by unfold fr_Texts_readDeed at h; unfold fr_Texts_readPlan; omega)
          have y := x14 T l3 C10 hE hl.1
          rw [e10.1, e10.2] at y
          refine ⟨fun e13 => ?_, fun n13 => ?_⟩
          · rcases y with y | y
            · obtain ⟨o, w1, w2, w3⟩ := zyPi_f hl.1 hz z0 (zyDf_1 y.2 z1)
              exact (hF g14 l3 o I14 G14 w1 w2 w3).2
            · exfalso; have := y.1; omega
          · rcases y with y | ⟨-, y1, y2, y3, y4, y5⟩
            · exact absurd y.1 n13
            · refine k_Tokens_take I14 ⟨by decide, by decide⟩ ⟨by decide, by decide⟩ (fun v16 g17 I17 F17 c17 x17 => ?_)
              have G17 := zk_ft G14 F17 sub
              have u := x17 T _ y2 hE
              rw [← zyPg_l (sp := g0 2 8) (si := g0 2 11) (n := l3)] at u
              have b := zyPl_b (T.2.1 (zyPP T l3 + 2))
              have hz1 : ∀ k : Int, 1 ≤ k → k < zyPl (T.2.1 (zyPP T l3 + 2)) - 1 → zyPg T (g0 2 8) (g0 2 11) l3 (zyPP T l3) k = 0 := fun k k0 k1 => by
                by_cases q : k = 1
                · rw [q]; exact z1
                · exact y1 k (by omega) k1
              refine ⟨fun n16 => ⟨⟨by omega, by omega⟩, ?_⟩, fun e16 => ?_⟩
              · have z6 : zyPg T (g0 2 8) (g0 2 11) l3 (zyPP T l3) (zyPl (T.2.1 (zyPP T l3 + 2)) - 1) = 0 := Classical.byContradiction (fun q => n16 (u.2.2 q))
                have C17 := u.1.1 z6
                rw [show zyPP T l3 + (zyPl (T.2.1 (zyPP T l3 + 2)) - 1) + 1 = zyPP T (l3 + 1) by rw [zyPP_s hl.1]; omega] at C17
                intro g20 e20 g21 e21
                have I20 : zk_I g20 := by rw [e20]; exact zk_upd (L := -2147483648) (H := 2147483647) rfl rfl I17 ⟨by omega, by omega⟩
                have I21 : zk_I g21 := by rw [e21]; exact zk_upd (L := 0) (H := 16) rfl rfl I20 ⟨by omega, by omega⟩
                refine k_Texts_readPlan_l7 hE hF hN m (l3 + 1) g21 I21 ?_ ⟨by omega, by omega⟩ (zyC_u (zyC_u C17 e20 (Or.inr (by decide))) e21 (Or.inr (by decide))) (by rw [e21, zi_u_eq]) ?_ (zyPm_s hz z0 (zyZ_2 hz1 (by omega) z6)) (by omega)
                · rw [e21, e20]
                  exact zk_fu (zk_fu G17 (Or.inl rfl)) (by unfold fr_Texts_readPlan; omega)
                · have q8 : g21 208 = zup (g 208) l3 v9 := by
                    have r8 : g17 208 = g 208 := funext (fun i => by rw [F17 208 i (by unfold fr_Tokens_take; omega), F14 208 i (by unfold fr_Texts_readDeed; omega), F10 208 i (by unfold fr_Tokens_takeBelow; omega), F7 208 i (by unfold fr_Tokens_takeLineStart; omega)])
                    rw [e21, zi_u_row (by decide), e20, zup_u, r8]
                  have pre : ∀ (a : Nat), a = 209 ∨ a = 210 ∨ a = 211 → g21 a = g14 a ∧ g10 a = g a := fun a ha => by
                    refine ⟨?_, funext (fun i => by rw [F10 a i (by unfold fr_Tokens_takeBelow; omega), F7 a i (by unfold fr_Tokens_takeLineStart; omega)])⟩
                    rw [e21, zi_u_row (by omega), e20, zi_u_row (by omega)]
                    exact funext (fun i => F17 a i (by unfold fr_Tokens_take; omega))
                  have p9 := pre 209 (by decide)
                  have p10 := pre 210 (by decide)
                  have p11 := pre 211 (by decide)
                  intro k k0 k1
                  rw [q8, p9.1, y3, p9.2, p10.1, y4, p10.2, p11.1, y5, p11.2]
                  by_cases q : k = l3
                  · rw [q, zup_e, zup_e, zup_e, zup_e]
                    exact ⟨w9, rfl, rfl, rfl⟩
                  · rw [zup_n q, zup_n q, zup_n q, zup_n q]
                    exact hw k k0 (by omega)
              · have z6 : ¬ zyPg T (g0 2 8) (g0 2 11) l3 (zyPP T l3) (zyPl (T.2.1 (zyPP T l3 + 2)) - 1) = 0 := fun q => by
                  have := u.2.1 q
                  omega
                obtain ⟨o, w1, w2, w3⟩ := zyPi_f (P := zyF T g17) hl.1 hz z0 (zyDf_o (o := zyPl (T.2.1 (zyPP T l3 + 2)) - 1) ⟨by omega, by omega⟩ hz1 z6 (u.1.2 z6))
                exact (hF g17 l3 o I17 G17 w1 w2 w3).2
      · have z0 : zyPg T (g0 2 8) (g0 2 11) l3 (zyPP T l3) 0 = 0 := Classical.byContradiction (fun q => n6 (x.2.2 q))
        have := (zyL_0.1 (y0.symm.trans z0)).2
        exfalso; omega
theorem k_Texts_readPlan {g : zi_M} {Q : Int → zi_M → Prop} (I : zk_I g) (px0 : zyC (zyM g) g 0 ∧ zyE (zyM g)) (hQ : ∀ (v : Int) (g' : zi_M), zk_I g' → zk_fr fr_Texts_readPlan g g' → (0 ≤ v ∧ v ≤ 1) → (zyPo (zyM g) (g 2 8) (g 2 11) g' v) → Q v g') : w_Texts_readPlan g Q := by
  unfold w_Texts_readPlan
  intro g1 e1
  have I1 : zk_I g1 := by rw [e1]; exact zk_upd (L := 0) (H := 16) rfl rfl I ⟨by decide, by decide⟩
  have F1 : zk_fr fr_Texts_readPlan g g1 := by rw [e1]; exact zk_fu (zk_f0 _) (by unfold fr_Texts_readPlan; omega)
  have C1 : zyC (zyM g) g1 (zyPP (zyM g) 0) := zyC_u px0.1 e1 (Or.inr (by decide))
  refine ⟨17, k_Texts_readPlan_l7 px0.2 (g0 := g) (fun g' n o I' F' hi hn hf => ?_) (fun g' n I' F' hc hn hw hi he => ?_) 17 0 g1 I1 F1 ⟨by decide, by decide⟩ C1 (by rw [e1, zi_u_eq]) (fun k k0 k1 => by exfalso; omega) (fun k k0 k1 => by exfalso; omega) (by omega)⟩
  · have r := hQ 0 g' I' F' ⟨by decide, by decide⟩ ⟨n, o, hi, fun q => absurd q hn, fun _ => ⟨rfl, hf⟩⟩
    exact ⟨r, r⟩
  · exact hQ 1 g' I' F' ⟨by decide, by decide⟩ ⟨n, 0, hi, fun _ => ⟨rfl, hn.symm, hw, hc.2.2.1, hc.2.2.2⟩, fun q => absurd he q⟩

