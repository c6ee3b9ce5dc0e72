-- by program (wip/gen/mkz.py)
-- SpoutNewsModel.weatherOf(I)I
set_option maxRecDepth 100000 in
set_option maxHeartbeats 4000000 in
theorem k_M_weatherOf_l2 {g : zi_M} (I : zk_I g) {l1 : Int} {K22 : Int → zi_M → Prop} {K39 : zi_M → Prop} {Q : Int → zi_M → Prop} (q1 : (-2147483648) ≤ l1 ∧ l1 ≤ 2147483647) (hK22 : ∀ (k2 : Int), (0 ≤ k2 ∧ k2 ≤ 15) → (k2 < g 214 37) → (g 233 (2 * k2) = l1) → (zQn g (k2) l1) → K22 k2 g) (hK39 : (zQn g (g 214 37) l1) → K39 g) (hQ : ∀ v : Int, ((-2147483648) ≤ v ∧ v ≤ 2147483647) → (zQw g l1 v) → Q v g) : ∀ (n : Nat) {l2 : Int}, (0 ≤ l2 ∧ l2 ≤ 16) → (zQn g (l2) l1) → 16 - l2 < (n : Int) → w_M_weatherOf_l2 l1 K22 K39 Q n l2 g
  | 0, l2, b0, b1, hm => by exfalso; omega
  | n + 1, l2, b0, b1, hm => by
    unfold w_M_weatherOf_l2
    have m_1 : 0 ≤ (g 214 37) ∧ (g 214 37) ≤ 16 := I.1 214 37
    refine ⟨⟨by omega, by omega⟩, ⟨by omega, by omega⟩, ?_⟩
    refine ⟨fun c7 => ?_, fun c7 => ?_⟩
    · exact hK39 (by exact fun k h0 h1 => b1 k h0 (by omega))
    · refine ⟨⟨by omega, by omega⟩, ?_⟩
      have m_2 : (-2147483648) ≤ (g 233 (2 * l2)) ∧ (g 233 (2 * l2)) ≤ 2147483647 := I.1 233 (2 * l2)
      refine ⟨⟨by omega, by omega⟩, ⟨by omega, by omega⟩, ?_⟩
      refine ⟨fun c6 => ?_, fun c6 => ?_⟩
      · exact k_M_weatherOf_l2 I q1 hK22 hK39 hQ n ⟨by omega, by omega⟩ (by first | exact zQn_s b1 (by omega) | exact zQn_0) (by omega)
      · exact hK22 _ ⟨by omega, by omega⟩ (by omega) (by omega) (by assumption)
set_option maxRecDepth 100000 in
set_option maxHeartbeats 4000000 in
theorem k_M_weatherOf {l1 : Int} {g : zi_M} {Q : Int → zi_M → Prop} (I : zk_I g) (p1 : (-2147483648) ≤ l1 ∧ l1 ≤ 2147483647) (hQ : ∀ v : Int, ((-2147483648) ≤ v ∧ v ≤ 2147483647) → (zQw g l1 v) → Q v g) : w_M_weatherOf l1 g Q := by
  unfold w_M_weatherOf
  refine ⟨((16 - 0 : Int).toNat + 1), k_M_weatherOf_l2 (l1 := l1) I ⟨by omega, by omega⟩ (fun k8 b_3 b_4 b_5 b_6 => ?_) (fun b_8 => ?_) hQ ((16 - 0 : Int).toNat + 1) ⟨by omega, by omega⟩ (by first | exact zQn_s b1 (by omega) | exact zQn_0) (by omega)⟩
  · refine ⟨⟨by omega, by omega⟩, ?_⟩
    have m_7 : (-2147483648) ≤ (g 233 ((2 * k8) + 1)) ∧ (g 233 ((2 * k8) + 1)) ≤ 2147483647 := I.1 233 ((2 * k8) + 1)
    exact hQ _ ⟨by omega, by omega⟩ (by first | exact zWo_a (by omega) (by omega) (by assumption) (by assumption) | exact zWo_b (by assumption) | assumption)
  · exact hQ _ ⟨by omega, by omega⟩ (by first | exact zWo_a (by omega) (by omega) (by assumption) (by assumption) | exact zWo_b (by assumption) | assumption)
-- SpoutNewsModel.asks(II)V
set_option maxRecDepth 100000 in
set_option maxHeartbeats 4000000 in
theorem k_M_asks {l1 : Int} {l2 : Int} {g : zi_M} {Q : Int → zi_M → Prop} (I : zk_I g) (p1 : 0 ≤ l1 ∧ l1 ≤ 9) (p2 : 0 ≤ l2 ∧ l2 ≤ 15) (hQ : ∀ g' : zi_M, zk_I g' → zk_fr fr_M_asks g g' → (∀ T n : Int, 0 ≤ n → n < 9 → g' 235 n = zfct (g 218) (g 219) (g 220) (zVM T g) l1 l2 n) → Q 0 g') : w_M_asks l1 l2 g Q := by
  unfold w_M_asks
  refine ⟨⟨by omega, by omega⟩, ?_⟩
  have m_4 : 0 ≤ (g 218 l1) ∧ (g 218 l1) ≤ 5 := I.1 218 l1
  intro g2 e_1
  have I_2 : zk_I g2 := by rw [e_1]; exact zk_upd (L := (-2147483648)) (H := 2147483647) rfl rfl I ⟨by omega, by omega⟩
  have F_3 : zk_fr fr_M_asks g g2 := by rw [e_1]; exact zk_fu (zk_f0 _) rfl
  have m_8 : 0 ≤ (g2 219 l1) ∧ (g2 219 l1) ≤ 3 := I_2.1 219 l1
  have m_9 : g2 219 l1 = g 219 l1 := by rw [e_1]; exact zi_u_ne (by decide)
  have m_10 : 0 ≤ (g 219 l1) ∧ (g 219 l1) ≤ 3 := I.1 219 l1
  intro g3 e_5
  have I_6 : zk_I g3 := by rw [e_5]; exact zk_upd (L := (-2147483648)) (H := 2147483647) rfl rfl I_2 ⟨by omega, by omega⟩
  have F_7 : zk_fr fr_M_asks g g3 := by rw [e_5]; exact zk_fu F_3 rfl
  have m_14 : 0 ≤ (g3 220 l1) ∧ (g3 220 l1) ≤ 99 := I_6.1 220 l1
  have m_15 : g3 220 l1 = g2 220 l1 := by rw [e_5]; exact zi_u_ne (by decide)
  have m_16 : 0 ≤ (g2 220 l1) ∧ (g2 220 l1) ≤ 99 := I_2.1 220 l1
  have m_17 : g2 220 l1 = g 220 l1 := by rw [e_1]; exact zi_u_ne (by decide)
  have m_18 : 0 ≤ (g 220 l1) ∧ (g 220 l1) ≤ 99 := I.1 220 l1
  intro g4 e_11
  have I_12 : zk_I g4 := by rw [e_11]; exact zk_upd (L := (-2147483648)) (H := 2147483647) rfl rfl I_6 ⟨by omega, by omega⟩
  have F_13 : zk_fr fr_M_asks g g4 := by rw [e_11]; exact zk_fu F_7 rfl
  refine ⟨⟨by omega, by omega⟩, ?_⟩
  have m_22 := zk_now6 I_12 (i := (6 + l1)) (by omega)
  have m_23 : g4 215 (6 + l1) = g3 215 (6 + l1) := by rw [e_11]; exact zi_u_ne (by decide)
  have m_24 := zk_now6 I_6 (i := (6 + l1)) (by omega)
  have m_25 : g3 215 (6 + l1) = g2 215 (6 + l1) := by rw [e_5]; exact zi_u_ne (by decide)
  have m_26 := zk_now6 I_2 (i := (6 + l1)) (by omega)
  have m_27 : g2 215 (6 + l1) = g 215 (6 + l1) := by rw [e_1]; exact zi_u_ne (by decide)
  have m_28 := zk_now6 I (i := (6 + l1)) (by omega)
  intro g6 e_19
  have I_20 : zk_I g6 := by rw [e_19]; exact zk_upd (L := (-2147483648)) (H := 2147483647) rfl rfl I_12 ⟨by omega, by omega⟩
  have F_21 : zk_fr fr_M_asks g g6 := by rw [e_19]; exact zk_fu F_13 rfl
  have m_32 := zk_rng I_20 215 3
  have m_33 : g6 215 3 = g4 215 3 := by rw [e_19]; exact zi_u_ne (by decide)
  have m_34 := zk_rng I_12 215 3
  have m_35 : g4 215 3 = g3 215 3 := by rw [e_11]; exact zi_u_ne (by decide)
  have m_36 := zk_rng I_6 215 3
  have m_37 : g3 215 3 = g2 215 3 := by rw [e_5]; exact zi_u_ne (by decide)
  have m_38 := zk_rng I_2 215 3
  have m_39 : g2 215 3 = g 215 3 := by rw [e_1]; exact zi_u_ne (by decide)
  have m_40 := zk_rng I 215 3
  intro g7 e_29
  have I_30 : zk_I g7 := by rw [e_29]; exact zk_upd (L := (-2147483648)) (H := 2147483647) rfl rfl I_20 ⟨by omega, by omega⟩
  have F_31 : zk_fr fr_M_asks g g7 := by rw [e_29]; exact zk_fu F_21 rfl
  refine ⟨⟨by omega, by omega⟩, ?_⟩
  have m_44 := zk_now26 I_30 (i := (26 + l1)) (by omega)
  have m_45 : g7 215 (26 + l1) = g6 215 (26 + l1) := by rw [e_29]; exact zi_u_ne (by decide)
  have m_46 := zk_now26 I_20 (i := (26 + l1)) (by omega)
  have m_47 : g6 215 (26 + l1) = g4 215 (26 + l1) := by rw [e_19]; exact zi_u_ne (by decide)
  have m_48 := zk_now26 I_12 (i := (26 + l1)) (by omega)
  have m_49 : g4 215 (26 + l1) = g3 215 (26 + l1) := by rw [e_11]; exact zi_u_ne (by decide)
  have m_50 := zk_now26 I_6 (i := (26 + l1)) (by omega)
  have m_51 : g3 215 (26 + l1) = g2 215 (26 + l1) := by rw [e_5]; exact zi_u_ne (by decide)
  have m_52 := zk_now26 I_2 (i := (26 + l1)) (by omega)
  have m_53 : g2 215 (26 + l1) = g 215 (26 + l1) := by rw [e_1]; exact zi_u_ne (by decide)
  have m_54 := zk_now26 I (i := (26 + l1)) (by omega)
  intro g9 e_41
  have I_42 : zk_I g9 := by rw [e_41]; exact zk_upd (L := (-2147483648)) (H := 2147483647) rfl rfl I_30 ⟨by omega, by omega⟩
  have F_43 : zk_fr fr_M_asks g g9 := by rw [e_41]; exact zk_fu F_31 rfl
  refine ⟨⟨by omega, by omega⟩, ?_⟩
  have m_58 := zk_now16 I_42 (i := (16 + l1)) (by omega)
  have m_59 : g9 215 (16 + l1) = g7 215 (16 + l1) := by rw [e_41]; exact zi_u_ne (by decide)
  have m_60 := zk_now16 I_30 (i := (16 + l1)) (by omega)
  have m_61 : g7 215 (16 + l1) = g6 215 (16 + l1) := by rw [e_29]; exact zi_u_ne (by decide)
  have m_62 := zk_now16 I_20 (i := (16 + l1)) (by omega)
  have m_63 : g6 215 (16 + l1) = g4 215 (16 + l1) := by rw [e_19]; exact zi_u_ne (by decide)
  have m_64 := zk_now16 I_12 (i := (16 + l1)) (by omega)
  have m_65 : g4 215 (16 + l1) = g3 215 (16 + l1) := by rw [e_11]; exact zi_u_ne (by decide)
  have m_66 := zk_now16 I_6 (i := (16 + l1)) (by omega)
  have m_67 : g3 215 (16 + l1) = g2 215 (16 + l1) := by rw [e_5]; exact zi_u_ne (by decide)
  have m_68 := zk_now16 I_2 (i := (16 + l1)) (by omega)
  have m_69 : g2 215 (16 + l1) = g 215 (16 + l1) := by rw [e_1]; exact zi_u_ne (by decide)
  have m_70 := zk_now16 I (i := (16 + l1)) (by omega)
  intro g11 e_55
  have I_56 : zk_I g11 := by rw [e_55]; exact zk_upd (L := (-2147483648)) (H := 2147483647) rfl rfl I_42 ⟨by omega, by omega⟩
  have F_57 : zk_fr fr_M_asks g g11 := by rw [e_55]; exact zk_fu F_43 rfl
  intro g12 e_71
  have I_72 : zk_I g12 := by rw [e_71]; exact zk_upd (L := (-2147483648)) (H := 2147483647) rfl rfl I_56 ⟨by omega, by omega⟩
  have F_73 : zk_fr fr_M_asks g g12 := by rw [e_71]; exact zk_fu F_57 rfl
  have m_77 := zk_rng I_72 215 0
  have m_78 : g12 215 0 = g11 215 0 := by rw [e_71]; exact zi_u_ne (by decide)
  have m_79 := zk_rng I_56 215 0
  have m_80 : g11 215 0 = g9 215 0 := by rw [e_55]; exact zi_u_ne (by decide)
  have m_81 := zk_rng I_42 215 0
  have m_82 : g9 215 0 = g7 215 0 := by rw [e_41]; exact zi_u_ne (by decide)
  have m_83 := zk_rng I_30 215 0
  have m_84 : g7 215 0 = g6 215 0 := by rw [e_29]; exact zi_u_ne (by decide)
  have m_85 := zk_rng I_20 215 0
  have m_86 : g6 215 0 = g4 215 0 := by rw [e_19]; exact zi_u_ne (by decide)
  have m_87 := zk_rng I_12 215 0
  have m_88 : g4 215 0 = g3 215 0 := by rw [e_11]; exact zi_u_ne (by decide)
  have m_89 := zk_rng I_6 215 0
  have m_90 : g3 215 0 = g2 215 0 := by rw [e_5]; exact zi_u_ne (by decide)
  have m_91 := zk_rng I_2 215 0
  have m_92 : g2 215 0 = g 215 0 := by rw [e_1]; exact zi_u_ne (by decide)
  have m_93 := zk_rng I 215 0
  intro g13 e_74
  have I_75 : zk_I g13 := by rw [e_74]; exact zk_upd (L := (-2147483648)) (H := 2147483647) rfl rfl I_72 ⟨by omega, by omega⟩
  have F_76 : zk_fr fr_M_asks g g13 := by rw [e_74]; exact zk_fu F_73 rfl
  exact hQ _ I_75 F_76 (by exact zfm_of (by assumption) (by assumption) (by assumption) (by assumption) (by assumption) (by assumption) (by assumption) (by assumption) (by assumption) (by assumption))
-- SpoutNewsModel.twoOf(III)I
set_option maxRecDepth 100000 in
set_option maxHeartbeats 4000000 in
theorem k_M_twoOf {l1 : Int} {l2 : Int} {l3 : Int} {g : zi_M} {Q : Int → zi_M → Prop} (I : zk_I g) (p1 : (-2147483648) ≤ l1 ∧ l1 ≤ 2147483647) (p2 : (-2147483648) ≤ l2 ∧ l2 ≤ 2147483647) (p3 : (-2147483648) ≤ l3 ∧ l3 ≤ 2147483647) (px0 : l1 = 5 → 1 ≤ l3) (hQ : ∀ v : Int, ((-2147483648) ≤ v ∧ v ≤ 2147483647) → (v = zto l1 l2 l3) → Q v g) : w_M_twoOf l1 l2 l3 g Q := by
  unfold w_M_twoOf
  refine ⟨⟨by omega, by omega⟩, ?_⟩
  refine ⟨fun c22 => ?_, fun c22 => ?_⟩
  · refine ⟨fun c21 => ?_, fun c21 => ?_⟩
    · refine ⟨fun c20 => ?_, fun c20 => ?_⟩
      · refine ⟨fun c19 => ?_, fun c19 => ?_⟩
        · refine ⟨fun c15 => ?_, fun c15 => ?_⟩
          · refine ⟨fun c11 => ?_, fun c11 => ?_⟩
            · refine ⟨fun c7 => ?_, fun c7 => ?_⟩
              · refine ⟨fun c3 => ?_, fun c3 => ?_⟩
                · have m_1 := zi_r_w (l2 + l3)
                  refine ⟨fun c2 => ?_, fun c2 => ?_⟩
                  · exact hQ _ ⟨by omega, by omega⟩ (by unfold zto; repeat (first | rw [if_pos (by omega)] | rw [if_neg (by omega)]))
                  · exact hQ _ ⟨by omega, by omega⟩ (by unfold zto; repeat (first | rw [if_pos (by omega)] | rw [if_neg (by omega)]))
                · have m_2 := zi_r_w (l2 * l3)
                  exact hQ _ ⟨by omega, by omega⟩ (by unfold zto; repeat (first | rw [if_pos (by omega)] | rw [if_neg (by omega)]))
              · refine ⟨⟨by omega, by omega⟩, ⟨by omega, by omega⟩, ?_⟩
                refine ⟨fun c6 => ?_, fun c6 => ?_⟩
                · exact hQ _ ⟨by omega, by omega⟩ (by unfold zto; repeat (first | rw [if_pos (by omega)] | rw [if_neg (by omega)]))
                · exact hQ _ ⟨by omega, by omega⟩ (by unfold zto; repeat (first | rw [if_pos (by omega)] | rw [if_neg (by omega)]))
            · refine ⟨⟨by omega, by omega⟩, ⟨by omega, by omega⟩, ?_⟩
              refine ⟨fun c10 => ?_, fun c10 => ?_⟩
              · exact hQ _ ⟨by omega, by omega⟩ (by unfold zto; repeat (first | rw [if_pos (by omega)] | rw [if_neg (by omega)]))
              · exact hQ _ ⟨by omega, by omega⟩ (by unfold zto; repeat (first | rw [if_pos (by omega)] | rw [if_neg (by omega)]))
          · refine ⟨⟨by omega, by omega⟩, ⟨by omega, by omega⟩, ?_⟩
            refine ⟨fun c14 => ?_, fun c14 => ?_⟩
            · exact hQ _ ⟨by omega, by omega⟩ (by unfold zto; repeat (first | rw [if_pos (by omega)] | rw [if_neg (by omega)]))
            · exact hQ _ ⟨by omega, by omega⟩ (by unfold zto; repeat (first | rw [if_pos (by omega)] | rw [if_neg (by omega)]))
        · refine ⟨⟨by omega, by omega⟩, ⟨by omega, by omega⟩, (by omega), ?_⟩
          have m_3 := zi_tdiv_f l2 l3
          exact hQ _ ⟨by omega, by omega⟩ (by unfold zto; repeat (first | rw [if_pos (by omega)] | rw [if_neg (by omega)]))
      · have m_4 := zi_r_w (l2 * l3)
        exact hQ _ ⟨by omega, by omega⟩ (by unfold zto; repeat (first | rw [if_pos (by omega)] | rw [if_neg (by omega)]))
    · have m_5 := zi_r_w (l2 - l3)
      exact hQ _ ⟨by omega, by omega⟩ (by unfold zto; repeat (first | rw [if_pos (by omega)] | rw [if_neg (by omega)]))
  · have m_6 := zi_r_w (l2 + l3)
    exact hQ _ ⟨by omega, by omega⟩ (by unfold zto; repeat (first | rw [if_pos (by omega)] | rw [if_neg (by omega)]))
-- SpoutNewsModel.runs(III)I
theorem k_M_runs_l12 {g0 : zi_M} {l2 l3 : Int} {R : Int} {K : zi_M → Prop} {Q : Int → zi_M → Prop} (q2 : 0 ≤ l2) (q3 : l2 ≤ l3) (q4 : l3 ≤ 400) (hs : zj_seg (g0 229) (g0 230) l2 (l3 - l2).toNat) (hK : ∀ g, zk_I g → zk_fr fr_M_runs g0 g → (l2 < l3 → g 236 0 = R) → K g) :
    ∀ (n : Nat) (l4 l5 : Int) (i : Nat) (g : zi_M), zk_I g → zk_fr fr_M_runs g0 g → l5 = l2 + i → (i : Int) ≤ l3 - l2 → l4 = zj_dep (g0 229) l2 i → 0 ≤ l4 → l4 ≤ i → (1 ≤ i → g0 229 (l5 - 1) = 0 → g 236 (l4 - 1) = g0 230 (l5 - 1)) → zrI (g0 229) (g0 230) (g0 235) l3 g l4 l5 R → (1 ≤ i → 1 ≤ l4) → l3 - l5 < (n : Int) → w_M_runs_l12 0 l3 K Q n l4 l5 g
  | 0, l4, l5, i, g, I, F, h1, h2, h3, h4, h5, h6, h7, h8, hm => by exfalso; omega
  | n + 1, l4, l5, i, g, I, F, h1, h2, h3, h4, h5, h6, h7, h8, hm => by
    have fo : ∀ k, g 229 k = g0 229 k := fun k => F _ _ (by unfold fr_M_runs; omega)
    have fa : ∀ k, g 230 k = g0 230 k := fun k => F _ _ (by unfold fr_M_runs; omega)
    have ff : ∀ k, g 235 k = g0 235 k := fun k => F _ _ (by unfold fr_M_runs; omega)
    unfold w_M_runs_l12
    refine ⟨⟨by omega, by omega⟩, ⟨by omega, by omega⟩, fun hge => hK g I F (fun hl => zrI_x h7 (by omega) (by have := h8 (by omega); omega)), fun hlt => ?_⟩
    have one := hs i (by omega)
    unfold zj_one at one
    rw [← h1, ← h3, ← fo l5, ← fa l5] at one
    obtain ⟨⟨o1, o2⟩, o3, o4, o5, o6⟩ := one
    have dn : zj_dep (g0 229) l2 (i + 1) = l4 + (if g 229 l5 ≤ 1 then 1 else if g 229 l5 = 9 then 0 else -1) := by
      show zj_dep (g0 229) l2 i + (if g0 229 (l2 + i) ≤ 1 then 1 else if g0 229 (l2 + i) = 9 then 0 else -1) = _
      rw [← h3, ← h1, ← fo l5]
    have go := @k_M_runs_l12 g0 l2 l3 R K Q q2 q3 q4 hs hK n
    have st : ∀ (k v : Int) (g' : zi_M), g' = zi_u g 236 k v → zi_r v → zk_I g' ∧ zk_fr fr_M_runs g0 g' := by
      intro k v g' e hv
      refine ⟨by rw [e]; exact zk_upd (L := -2147483648) (H := 2147483647) rfl rfl I hv, by rw [e]; exact zk_fu F rfl⟩
    have b45 : g 229 l5 ≤ 1 → w_M_runs_b45 0 l3 l4 l5 g (w_M_runs_l12 0 l3 K Q n) K Q := by
      intro hle
      rw [if_pos hle] at dn
      unfold w_M_runs_b45
      refine ⟨⟨by omega, by omega⟩, zk_rng I _ _, fun n0 => ?_, fun e0 => ?_⟩
      · have hb := o3 (by omega)
        refine ⟨⟨by omega, by omega⟩, ⟨by omega, by omega⟩, ?_⟩
        intro g9 e9
        obtain ⟨I9, F9⟩ := st _ _ g9 e9 (zk_rng I _ _)
        exact go (l4 + 1) (l5 + 1) (i + 1) g9 I9 F9 (by omega) (by omega) (by omega) (by omega) (by omega) (fun _ q => by rw [Int.add_sub_cancel, ← fo l5] at q; omega) (zrI_p1 (by omega) h7 (by rw [← fo l5]; omega) (by rw [e9, ff, fa])) (fun _ => by omega) (by omega)
      · refine ⟨⟨by omega, by omega⟩, ?_⟩
        intro g11 e11
        obtain ⟨I9, F9⟩ := st _ _ g11 e11 (zk_rng I _ _)
        exact go (l4 + 1) (l5 + 1) (i + 1) g11 I9 F9 (by omega) (by omega) (by omega) (by omega) (by omega) (fun _ _ => by rw [Int.add_sub_cancel, Int.add_sub_cancel, e11, zi_u_eq, fa l5]) (zrI_p0 (by omega) h7 (by rw [← fo l5]; omega) (by rw [e11, fa])) (fun _ => by omega) (by omega)
    refine ⟨⟨by omega, by omega⟩, zk_rng I _ _, fun e => b45 (by omega), fun n0 => ⟨fun n1 => ⟨fun n9 => ?_, fun e9 => ?_⟩, fun e => b45 (by omega)⟩⟩
    · have h2' := o5 (by omega) n9
      rw [if_neg (by omega), if_neg n9] at dn
      refine ⟨⟨by omega, by omega⟩, ⟨by omega, by omega⟩, ?_⟩
      refine k_M_twoOf I (zk_rng I _ _) (zk_rng I _ _) (zk_rng I _ _) (fun e5 => ?_) (fun v hv hz => ?_)
      · obtain ⟨p1, p2, p3⟩ := o6 e5
        rw [h6 p1 p2]
        exact p3
      · intro g18 e18
        obtain ⟨I9, F9⟩ := st _ _ g18 e18 hv
        exact go (l4 - 1) (l5 + 1) (i + 1) g18 I9 F9 (by omega) (by omega) (by omega) (by omega) (by omega) (fun _ q => by rw [Int.add_sub_cancel, ← fo l5] at q; omega) (zrI_j (by omega) h7 (by rw [← fo l5]; exact n0) (by rw [← fo l5]; exact n1) (by rw [← fo l5]; exact n9) (by omega) (by rw [hz, fo l5]) e18) (fun _ => by omega) (by omega)
    · have h2' := o4 e9
      rw [if_neg (by omega), if_pos e9] at dn
      refine ⟨⟨by omega, by omega⟩, ?_⟩
      intro g20 e20
      obtain ⟨I9, F9⟩ := st _ _ g20 e20 (zi_r_w _)
      exact go l4 (l5 + 1) (i + 1) g20 I9 F9 (by omega) (by omega) (by omega) (by omega) (by omega) (fun _ q => by rw [Int.add_sub_cancel, ← fo l5] at q; omega) (zrI_n (by omega) h7 (by rw [← fo l5]; exact e9) (by omega) e20) (fun _ => by omega) (by omega)
theorem k_M_runs {l1 : Int} {l2 : Int} {l3 : Int} {g : zi_M} {Q : Int → zi_M → Prop} (I : zk_I g) (p1 : 0 ≤ l1 ∧ l1 ≤ 0) (p2 : 0 ≤ l2 ∧ l2 ≤ 400) (p3 : 0 ≤ l3 ∧ l3 ≤ 400) (px0 : l2 ≤ l3) (px1 : zj_seg (g 229) (g 230) l2 (l3 - l2).toNat) (hQ : ∀ (v : Int) (g' : zi_M), zk_I g' → zk_fr fr_M_runs g g' → ((-2147483648) ≤ v ∧ v ≤ 2147483647) → (l2 < l3 → v = zmo (g 229) (g 230) (g 235) l2 l3) → Q v g') : w_M_runs l1 l2 l3 g Q := by
  have e1 : l1 = 0 := by omega
  unfold w_M_runs
  rw [e1]
  have e2 : (400 * 0 + l2 : Int) = l2 := by omega
  rw [e2]
  exact ⟨401, k_M_runs_l12 p2.1 px0 p3.2 px1 (fun g' I' F' hr => hQ _ _ I' F' (zk_rng I' _ _) hr) 401 0 l2 0 g I (zk_f0 _) (by omega) (by omega) rfl (by omega) (by omega) (fun h => absurd h (by decide)) zrI_0 (fun h => absurd h (by decide)) (by omega)⟩

-- SpoutNewsModel.lineOf(I)I
set_option maxRecDepth 100000 in
set_option maxHeartbeats 4000000 in
theorem k_M_lineOf_l2 {l1 : Int} {K57 : Int → zi_M → Prop} {K65 : zi_M → Prop} {Q : Int → zi_M → Prop} {g0 : zi_M} (q1 : 0 ≤ l1 ∧ l1 ≤ 2) (hK57 : ∀ (k2 : Int) (g : zi_M), zk_I g → zk_fr fr_M_lineOf g0 g → (0 ≤ k2 ∧ k2 ≤ 15) → (k2 < g 224 0) → (zmr g l1 0 = k2) → K57 k2 g) (hK65 : ∀ (g : zi_M), zk_I g → zk_fr fr_M_lineOf g0 g → (zmr g l1 0 = -1) → K65 g) (hQ : ∀ (v : Int) (g' : zi_M), zk_I g' → zk_fr fr_M_lineOf g0 g' → ((-1) ≤ v ∧ v ≤ 15) → (¬ v = -1 → v < g' 224 0) → (zmr g' l1 0 = v) → Q v g') : ∀ (n : Nat) {l2 : Int} {g : zi_M}, zk_I g → zk_fr fr_M_lineOf g0 g → (0 ≤ l2 ∧ l2 ≤ 16) → (zmr g l1 l2 = zmr g l1 0) → 16 - l2 < (n : Int) → w_M_lineOf_l2 l1 K57 K65 Q n l2 g
  | 0, l2, g, I, F, b0, b1, hm => by exfalso; omega
  | n + 1, l2, g, I, F, b0, b1, hm => by
    unfold w_M_lineOf_l2
    have m_1 : 0 ≤ (g 224 0) ∧ (g 224 0) ≤ 16 := I.1 224 0
    refine ⟨⟨by omega, by omega⟩, ⟨by omega, by omega⟩, ?_⟩
    refine ⟨fun c15 => ?_, fun c15 => ?_⟩
    · exact hK65 _ I F (by exact zmr_e (by assumption) (by assumption))
    · refine ⟨⟨by omega, by omega⟩, ?_⟩
      have m_2 : (-2147483648) ≤ (g 225 l2) ∧ (g 225 l2) ≤ 2147483647 := I.1 225 l2
      refine ⟨⟨by omega, by omega⟩, ⟨by omega, by omega⟩, ?_⟩
      refine ⟨fun c14 => ?_, fun c14 => ?_⟩
      · exact k_M_lineOf_l2 q1 hK57 hK65 hQ n I F ⟨by omega, by omega⟩ (by first | rfl | exact zmr_a (by assumption) (by assumption) (by assumption) | exact zmr_b (by assumption) (by assumption) (by assumption) hj.1.2.2.1 (by assumption) (by assumption) (by assumption)) (by omega)
      · have m_3 : 0 ≤ (g 227 l2) ∧ (g 227 l2) ≤ 400 := I.1 227 l2
        have m_4 : 0 ≤ (g 228 l2) ∧ (g 228 l2) ≤ 400 := I.1 228 l2
        refine ⟨⟨by omega, by omega⟩, ⟨by omega, by omega⟩, ?_⟩
        refine ⟨fun c13 => ?_, fun c13 => ?_⟩
        · exact hK57 _ _ I F ⟨by omega, by omega⟩ (by omega) (by first | exact zmr_x (by assumption) (by assumption) (by assumption) (by assumption) | exact zmr_y (by assumption) (by assumption) (by assumption) (by assumption) hj.1.2.2.1 (by assumption) (by assumption) (by assumption))
        · have hj := I.2.law l2 (by omega) (by omega)
          refine k_M_runs I ⟨by omega, by omega⟩ ⟨by omega, by omega⟩ ⟨by omega, by omega⟩ (by omega) (by first | exact hj.2.2 | exact hj.2.1) (fun v8 g9 I_7 F_8 b_5 b_6 => ?_)
          have F_9 : zk_fr fr_M_lineOf g0 g9 := zk_ft F F_8 (fun a i => (fun h => h))
          refine ⟨⟨by omega, by omega⟩, ?_⟩
          refine ⟨fun c12 => ?_, fun c12 => ?_⟩
          · exact k_M_lineOf_l2 q1 hK57 hK65 hQ n I_7 F_9 ⟨by omega, by omega⟩ (by first | rfl | exact zmr_a (by assumption) (by assumption) (by assumption) | exact zmr_b (by assumption) (by assumption) (by assumption) hj.1.2.2.1 (by assumption) (by assumption) (by assumption)) (by omega)
          · have m_10 : 0 ≤ (g9 224 0) ∧ (g9 224 0) ≤ 16 := I_7.1 224 0
            have m_11 : g9 224 0 = g 224 0 := F_8 _ _ (by unfold fr_M_runs; omega)
            exact hK57 _ _ I_7 F_9 ⟨by omega, by omega⟩ (by omega) (by first | exact zmr_x (by assumption) (by assumption) (by assumption) (by assumption) | exact zmr_y (by assumption) (by assumption) (by assumption) (by assumption) hj.1.2.2.1 (by assumption) (by assumption) (by assumption))
set_option maxRecDepth 100000 in
set_option maxHeartbeats 4000000 in
theorem k_M_lineOf {l1 : Int} {g : zi_M} {Q : Int → zi_M → Prop} (I : zk_I g) (p1 : 0 ≤ l1 ∧ l1 ≤ 2) (hQ : ∀ (v : Int) (g' : zi_M), zk_I g' → zk_fr fr_M_lineOf g g' → ((-1) ≤ v ∧ v ≤ 15) → (¬ v = -1 → v < g' 224 0) → (zmr g' l1 0 = v) → Q v g') : w_M_lineOf l1 g Q := by
  unfold w_M_lineOf
  refine ⟨((16 - 0 : Int).toNat + 1), k_M_lineOf_l2 (l1 := l1) ⟨by omega, by omega⟩ (fun k16 g17 I_12 F_13 b_14 b_15 b_16 => ?_) (fun g18 I_18 F_19 b_20 => ?_) hQ ((16 - 0 : Int).toNat + 1) I (zk_f0 _) ⟨by omega, by omega⟩ (by first | rfl | exact zmr_a (by assumption) (by assumption) (by assumption) | exact zmr_b (by assumption) (by assumption) (by assumption) hj.1.2.2.1 (by assumption) (by assumption) (by assumption)) (by omega)⟩
  · have m_17 : 0 ≤ (g17 224 0) ∧ (g17 224 0) ≤ 16 := I_12.1 224 0
    exact hQ _ _ I_12 F_13 ⟨by omega, by omega⟩ (by omega) (by assumption)
  · have m_21 : 0 ≤ (g18 224 0) ∧ (g18 224 0) ≤ 16 := I_18.1 224 0
    exact hQ _ _ I_18 F_19 ⟨by omega, by omega⟩ (by omega) (by assumption)
-- SpoutNewsModel.held(III)I
set_option maxRecDepth 100000 in
set_option maxHeartbeats 4000000 in
theorem k_M_held {l1 : Int} {l2 : Int} {l3 : Int} {g : zi_M} {Q : Int → zi_M → Prop} (I : zk_I g) (p1 : (-2147483648) ≤ l1 ∧ l1 ≤ 2147483647) (p2 : 0 ≤ l2 ∧ l2 ≤ 0) (p3 : 9 ≤ l3 ∧ l3 ≤ 1000) (hQ : ∀ v : Int, (l2 ≤ l1 → l1 ≤ l3 → v = l1) → (l2 ≤ l1 → l3 < l1 → v = l3) → (l1 < l2 → v = l2) → Q v g) : w_M_held l1 l2 l3 g Q := by
  unfold w_M_held
  refine ⟨⟨by omega, by omega⟩, ⟨by omega, by omega⟩, ?_⟩
  refine ⟨fun c5 => ?_, fun c5 => ?_⟩
  · refine ⟨⟨by omega, by omega⟩, ?_⟩
    refine ⟨fun c4 => ?_, fun c4 => ?_⟩
    · exact hQ _ (by intros; omega) (by intros; omega) (by intros; omega)
    · exact hQ _ (by intros; omega) (by intros; omega) (by intros; omega)
  · exact hQ _ (by intros; omega) (by intros; omega) (by intros; omega)
-- SpoutNewsModel.lawTells(III)I
set_option maxRecDepth 100000 in
set_option maxHeartbeats 4000000 in
theorem k_M_lawTells {l1 : Int} {l2 : Int} {l3 : Int} {g : zi_M} {Q : Int → zi_M → Prop} (I : zk_I g) (p1 : 0 ≤ l1 ∧ l1 ≤ 2) (p2 : (-2147483648) ≤ l2 ∧ l2 ≤ 2147483647) (p3 : 9 ≤ l3 ∧ l3 ≤ 1000) (hQ : ∀ (v : Int) (g' : zi_M), zk_I g' → zk_fr fr_M_lawTells g g' → (0 ≤ v ∧ v ≤ 1000) → (0 ≤ v ∧ v ≤ l3) → (zLk g → v = zlw g l1 l2 l3) → Q v g') : w_M_lawTells l1 l2 l3 g Q := by
  unfold w_M_lawTells
  refine k_M_lineOf I ⟨by omega, by omega⟩ (fun v1 g2 I_4 F_5 b_1 b_2 b_3 => ?_)
  have F_6 : zk_fr fr_M_lawTells g g2 := zk_ft (zk_f0 _) F_5 (fun a i => (fun h => h))
  refine ⟨⟨by omega, by omega⟩, ?_⟩
  refine ⟨fun c15 => ?_, fun c15 => ?_⟩
  · refine ⟨⟨by omega, by omega⟩, ?_⟩
    have m_7 : 0 ≤ (g2 226 v1) ∧ (g2 226 v1) ≤ 400 := I_4.1 226 v1
    have m_8 : g2 226 v1 = g 226 v1 := F_5 _ _ (by unfold fr_M_lineOf; omega)
    have m_9 : 0 ≤ (g 226 v1) ∧ (g 226 v1) ≤ 400 := I.1 226 v1
    have m_10 : 0 ≤ (g2 227 v1) ∧ (g2 227 v1) ≤ 400 := I_4.1 227 v1
    have m_11 : g2 227 v1 = g 227 v1 := F_5 _ _ (by unfold fr_M_lineOf; omega)
    have m_12 : 0 ≤ (g 227 v1) ∧ (g 227 v1) ≤ 400 := I.1 227 v1
    have hj := I_4.2.law v1 (by omega) (by omega)
    refine k_M_runs I_4 ⟨by omega, by omega⟩ ⟨by omega, by omega⟩ ⟨by omega, by omega⟩ (by omega) (by first | exact hj.2.2 | exact hj.2.1) (fun v6 g7 I_15 F_16 b_13 b_14 => ?_)
    have F_17 : zk_fr fr_M_lawTells g g7 := zk_ft F_6 F_16 (fun a i => (fun h => h))
    refine k_M_held I_15 ⟨by omega, by omega⟩ ⟨by omega, by omega⟩ ⟨by omega, by omega⟩ (fun v9 b_18 b_19 b_20 => ?_)
    exact hQ _ _ I_15 F_17 ⟨by omega, by omega⟩ (by omega) (by first | exact zlw_b (by assumption) (by assumption) (by assumption) (by omega) (by assumption) (by assumption) (by assumption) | exact zlw_a (by assumption) (by assumption) (by assumption) (by omega) (by assumption) (by assumption) (by omega) (by assumption) (by assumption) (by assumption))
  · refine k_M_held I_4 ⟨by omega, by omega⟩ ⟨by omega, by omega⟩ ⟨by omega, by omega⟩ (fun v12 b_21 b_22 b_23 => ?_)
    exact hQ _ _ I_4 F_6 ⟨by omega, by omega⟩ (by omega) (by first | exact zlw_b (by assumption) (by assumption) (by assumption) (by omega) (by assumption) (by assumption) (by assumption) | exact zlw_a (by assumption) (by assumption) (by assumption) (by omega) (by assumption) (by assumption) (by omega) (by assumption) (by assumption) (by assumption))
