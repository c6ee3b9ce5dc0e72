-- by program (wip/gen/mkz.py)
-- SpoutNewsModel.runs(III)I
theorem k_M_runs_l12 {g0 : zi_M} {l2 l3 : Int} {R : Int} {K : zi_M → Prop} {Q : Int → zi_M → Prop} (q2 : 0 ≤ l2) (q3 : l2 ≤ l3) (q4 : l3 ≤ 400) (hs : zj_seg (g0 229) (g0 230) l2 (l3 - l2).toNat) (hK : ∀ g, zk_I g → zk_fr fr_M_runs g0 g → (l2 < l3 → g 236 0 = R) → K g) :
    ∀ (n : Nat) (l4 l5 : Int) (i : Nat) (g : zi_M), zk_I g → zk_fr fr_M_runs g0 g → l5 = l2 + i → (i : Int) ≤ l3 - l2 → l4 = zj_dep (g0 229) l2 i → 0 ≤ l4 → l4 ≤ i → (1 ≤ i → g0 229 (l5 - 1) = 0 → g 236 (l4 - 1) = g0 230 (l5 - 1)) → zrI (g0 229) (g0 230) (g0 235) l3 g l4 l5 R → (1 ≤ i → 1 ≤ l4) → l3 - l5 < (n : Int) → w_M_runs_l12 0 l3 K Q n l4 l5 g
  | 0, l4, l5, i, g, I, F, h1, h2, h3, h4, h5, h6, h7, h8, hm => by exfalso; omega
  | n + 1, l4, l5, i, g, I, F, h1, h2, h3, h4, h5, h6, h7, h8, hm => by
    have fo : ∀ k, g 229 k = g0 229 k := fun k => F _ _ (by unfold fr_M_runs; omega)
    have fa : ∀ k, g 230 k = g0 230 k := fun k => F _ _ (by unfold fr_M_runs; omega)
    have ff : ∀ k, g 235 k = g0 235 k := fun k => F _ _ (by unfold fr_M_runs; omega)
    unfold w_M_runs_l12
    refine ⟨⟨by omega, by omega⟩, ⟨by omega, by omega⟩, fun hge => hK g I F (fun hl => zrI_x h7 (by omega) (by have := h8 (by omega); omega)), fun hlt => ?_⟩
    have one := hs i (by omega)
    unfold zj_one at one
    rw [← h1, ← h3, ← fo l5, ← fa l5] at one
    obtain ⟨⟨o1, o2⟩, o3, o4, o5, o6⟩ := one
    have dn : zj_dep (g0 229) l2 (i + 1) = l4 + (if g 229 l5 ≤ 1 then 1 else if g 229 l5 = 9 then 0 else -1) := by
      show zj_dep (g0 229) l2 i + (if g0 229 (l2 + i) ≤ 1 then 1 else if g0 229 (l2 + i) = 9 then 0 else -1) = _
      rw [← h3, ← h1, ← fo l5]
    have go := @k_M_runs_l12 g0 l2 l3 R K Q q2 q3 q4 hs hK n
    have st : ∀ (k v : Int) (g' : zi_M), g' = zi_u g 236 k v → zi_r v → zk_I g' ∧ zk_fr fr_M_runs g0 g' := by
      intro k v g' e hv
      refine ⟨by rw [e]; exact zk_upd (L := -2147483648) (H := 2147483647) rfl rfl I hv, by rw [e]; exact zk_fu F rfl⟩
    have b45 : g 229 l5 ≤ 1 → w_M_runs_b45 0 l3 l4 l5 g (w_M_runs_l12 0 l3 K Q n) K Q := by
      intro hle
      rw [if_pos hle] at dn
      unfold w_M_runs_b45
      refine ⟨⟨by omega, by omega⟩, zk_rng I _ _, fun n0 => ?_, fun e0 => ?_⟩
      · have hb := o3 (by omega)
        refine ⟨⟨by omega, by omega⟩, ⟨by omega, by omega⟩, ?_⟩
        intro g9 e9
        obtain ⟨I9, F9⟩ := st _ _ g9 e9 (zk_rng I _ _)
        exact go (l4 + 1) (l5 + 1) (i + 1) g9 I9 F9 (by omega) (by omega) (by omega) (by omega) (by omega) (fun _ q => by rw [Int.add_sub_cancel, ← fo l5] at q; omega) (zrI_p1 (by omega) h7 (by rw [← fo l5]; omega) (by rw [e9, ff, fa])) (fun _ => by omega) (by omega)
      · refine ⟨⟨by omega, by omega⟩, ?_⟩
        intro g11 e11
        obtain ⟨I9, F9⟩ := st _ _ g11 e11 (zk_rng I _ _)
        exact go (l4 + 1) (l5 + 1) (i + 1) g11 I9 F9 (by omega) (by omega) (by omega) (by omega) (by omega) (fun _ _ => by rw [Int.add_sub_cancel, Int.add_sub_cancel, e11, zi_u_eq, fa l5]) (zrI_p0 (by omega) h7 (by rw [← fo l5]; omega) (by rw [e11, fa])) (fun _ => by omega) (by omega)
    refine ⟨⟨by omega, by omega⟩, zk_rng I _ _, fun e => b45 (by omega), fun n0 => ⟨fun n1 => ⟨fun n9 => ?_, fun e9 => ?_⟩, fun e => b45 (by omega)⟩⟩
    · have h2' := o5 (by omega) n9
      rw [if_neg (by omega), if_neg n9] at dn
      refine ⟨⟨by omega, by omega⟩, ⟨by omega, by omega⟩, ?_⟩
      refine k_M_twoOf I (zk_rng I _ _) (zk_rng I _ _) (zk_rng I _ _) (fun e5 => ?_) (fun v hv hz => ?_)
      · obtain ⟨p1, p2, p3⟩ := o6 e5
        rw [h6 p1 p2]
        exact p3
      · intro g18 e18
        obtain ⟨I9, F9⟩ := st _ _ g18 e18 hv
        exact go (l4 - 1) (l5 + 1) (i + 1) g18 I9 F9 (by omega) (by omega) (by omega) (by omega) (by omega) (fun _ q => by rw [Int.add_sub_cancel, ← fo l5] at q; omega) (zrI_j (by omega) h7 (by rw [← fo l5]; exact n0) (by rw [← fo l5]; exact n1) (by rw [← fo l5]; exact n9) (by omega) (by rw [hz, fo l5]) e18) (fun _ => by omega) (by omega)
    · have h2' := o4 e9
      rw [if_neg (by omega), if_pos e9] at dn
      refine ⟨⟨by omega, by omega⟩, ?_⟩
      intro g20 e20
      obtain ⟨I9, F9⟩ := st _ _ g20 e20 (zi_r_w _)
      exact go l4 (l5 + 1) (i + 1) g20 I9 F9 (by omega) (by omega) (by omega) (by omega) (by omega) (fun _ q => by rw [Int.add_sub_cancel, ← fo l5] at q; omega) (zrI_n (by omega) h7 (by rw [← fo l5]; exact e9) (by omega) e20) (fun _ => by omega) (by omega)
theorem k_M_runs {l1 : Int} {l2 : Int} {l3 : Int} {g : zi_M} {Q : Int → zi_M → Prop} (I : zk_I g) (p1 : 0 ≤ l1 ∧ l1 ≤ 0) (p2 : 0 ≤ l2 ∧ l2 ≤ 400) (p3 : 0 ≤ l3 ∧ l3 ≤ 400) (px0 : l2 ≤ l3) (px1 : zj_seg (g 229) (g 230) l2 (l3 - l2).toNat) (hQ : ∀ (v : Int) (g' : zi_M), zk_I g' → zk_fr fr_M_runs g g' → ((-2147483648) ≤ v ∧ v ≤ 2147483647) → (l2 < l3 → v = zmo (g 229) (g 230) (g 235) l2 l3) → Q v g') : w_M_runs l1 l2 l3 g Q := by
  have e1 : l1 = 0 := by omega
  unfold w_M_runs
  rw [e1]
  have e2 : (400 * 0 + l2 : Int) = l2 := by omega
  rw [e2]
  exact ⟨401, k_M_runs_l12 p2.1 px0 p3.2 px1 (fun g' I' F' hr => hQ _ _ I' F' (zk_rng I' _ _) hr) 401 0 l2 0 g I (zk_f0 _) (by omega) (by omega) rfl (by omega) (by omega) (fun h => absurd h (by decide)) zrI_0 (fun h => absurd h (by decide)) (by omega)⟩

-- SpoutNewsModel.lineOf(I)I
set_option maxRecDepth 100000 in
set_option maxHeartbeats 4000000 in
theorem k_M_lineOf_l2 {l1 : Int} {K57 : Int → zi_M → Prop} {K65 : zi_M → Prop} {Q : Int → zi_M → Prop} {g0 : zi_M} (q1 : 0 ≤ l1 ∧ l1 ≤ 2) (hK57 : ∀ (k2 : Int) (g : zi_M), zk_I g → zk_fr fr_M_lineOf g0 g → (0 ≤ k2 ∧ k2 ≤ 15) → (k2 < g 224 0) → (zmr g l1 0 = k2) → K57 k2 g) (hK65 : ∀ (g : zi_M), zk_I g → zk_fr fr_M_lineOf g0 g → (zmr g l1 0 = -1) → K65 g) (hQ : ∀ (v : Int) (g' : zi_M), zk_I g' → zk_fr fr_M_lineOf g0 g' → ((-1) ≤ v ∧ v ≤ 15) → (¬ v = -1 → v < g' 224 0) → (zmr g' l1 0 = v) → Q v g') : ∀ (n : Nat) {l2 : Int} {g : zi_M}, zk_I g → zk_fr fr_M_lineOf g0 g → (0 ≤ l2 ∧ l2 ≤ 16) → (zmr g l1 l2 = zmr g l1 0) → 16 - l2 < (n : Int) → w_M_lineOf_l2 l1 K57 K65 Q n l2 g
  | 0, l2, g, I, F, b0, b1, hm => by exfalso; omega
  | n + 1, l2, g, I, F, b0, b1, hm => by
    unfold w_M_lineOf_l2
    have m_1 : 0 ≤ (g 224 0) ∧ (g 224 0) ≤ 16 := I.1 224 0
    refine ⟨⟨by omega, by omega⟩, ⟨by omega, by omega⟩, ?_⟩
    refine ⟨fun c15 => ?_, fun c15 => ?_⟩
    · exact hK65 _ I F (by exact zmr_e (by assumption) (by assumption))
    · refine ⟨⟨by omega, by omega⟩, ?_⟩
      have m_2 : (-2147483648) ≤ (g 225 l2) ∧ (g 225 l2) ≤ 2147483647 := I.1 225 l2
      refine ⟨⟨by omega, by omega⟩, ⟨by omega, by omega⟩, ?_⟩
      refine ⟨fun c14 => ?_, fun c14 => ?_⟩
      · exact k_M_lineOf_l2 q1 hK57 hK65 hQ n I F ⟨by omega, by omega⟩ (by first | rfl | exact zmr_a (by assumption) (by assumption) (by assumption) | exact zmr_b (by assumption) (by assumption) (by assumption) hj.1.2.2.1 (by assumption) (by assumption) (by assumption)) (by omega)
      · have m_3 : 0 ≤ (g 227 l2) ∧ (g 227 l2) ≤ 400 := I.1 227 l2
        have m_4 : 0 ≤ (g 228 l2) ∧ (g 228 l2) ≤ 400 := I.1 228 l2
        refine ⟨⟨by omega, by omega⟩, ⟨by omega, by omega⟩, ?_⟩
        refine ⟨fun c13 => ?_, fun c13 => ?_⟩
        · exact hK57 _ _ I F ⟨by omega, by omega⟩ (by omega) (by first | exact zmr_x (by assumption) (by assumption) (by assumption) (by assumption) | exact zmr_y (by assumption) (by assumption) (by assumption) (by assumption) hj.1.2.2.1 (by assumption) (by assumption) (by assumption))
        · have hj := I.2.law l2 (by omega) (by omega)
          refine k_M_runs I ⟨by omega, by omega⟩ ⟨by omega, by omega⟩ ⟨by omega, by omega⟩ (by omega) (by first | exact hj.2.2 | exact hj.2.1) (fun v8 g9 I_7 F_8 b_5 b_6 => ?_)
          have F_9 : zk_fr fr_M_lineOf g0 g9 := zk_ft F F_8 (fun a i => (fun h => h))
          refine ⟨⟨by omega, by omega⟩, ?_⟩
          refine ⟨fun c12 => ?_, fun c12 => ?_⟩
          · exact k_M_lineOf_l2 q1 hK57 hK65 hQ n I_7 F_9 ⟨by omega, by omega⟩ (by first | rfl | exact zmr_a (by assumption) (by assumption) (by assumption) | exact zmr_b (by assumption) (by assumption) (by assumption) hj.1.2.2.1 (by assumption) (by assumption) (by assumption)) (by omega)
          · have m_10 : 0 ≤ (g9 224 0) ∧ (g9 224 0) ≤ 16 := I_7.1 224 0
            have m_11 : g9 224 0 = g 224 0 := F_8 _ _ (by unfold fr_M_runs; omega)
            exact hK57 _ _ I_7 F_9 ⟨by omega, by omega⟩ (by omega) (by first | exact zmr_x (by assumption) (by assumption) (by assumption) (by assumption) | exact zmr_y (by assumption) (by assumption) (by assumption) (by assumption) hj.1.2.2.1 (by assumption) (by assumption) (by assumption))
set_option maxRecDepth 100000 in
set_option maxHeartbeats 4000000 in
theorem k_M_lineOf {l1 : Int} {g : zi_M} {Q : Int → zi_M → Prop} (I : zk_I g) (p1 : 0 ≤ l1 ∧ l1 ≤ 2) (hQ : ∀ (v : Int) (g' : zi_M), zk_I g' → zk_fr fr_M_lineOf g g' → ((-1) ≤ v ∧ v ≤ 15) → (¬ v = -1 → v < g' 224 0) → (zmr g' l1 0 = v) → Q v g') : w_M_lineOf l1 g Q := by
  unfold w_M_lineOf
  refine ⟨((16 - 0 : Int).toNat + 1), k_M_lineOf_l2 (l1 := l1) ⟨by omega, by omega⟩ (fun k16 g17 I_12 F_13 b_14 b_15 b_16 => ?_) (fun g18 I_18 F_19 b_20 => ?_) hQ ((16 - 0 : Int).toNat + 1) I (zk_f0 _) ⟨by omega, by omega⟩ (by first | rfl | exact zmr_a (by assumption) (by assumption) (by assumption) | exact zmr_b (by assumption) (by assumption) (by assumption) hj.1.2.2.1 (by assumption) (by assumption) (by assumption)) (by omega)⟩
  · have m_17 : 0 ≤ (g17 224 0) ∧ (g17 224 0) ≤ 16 := I_12.1 224 0
    exact hQ _ _ I_12 F_13 ⟨by omega, by omega⟩ (by omega) (by assumption)
  · have m_21 : 0 ≤ (g18 224 0) ∧ (g18 224 0) ≤ 16 := I_18.1 224 0
    exact hQ _ _ I_18 F_19 ⟨by omega, by omega⟩ (by omega) (by assumption)
-- SpoutNewsModel.held(III)I
set_option maxRecDepth 100000 in
set_option maxHeartbeats 4000000 in
theorem k_M_held {l1 : Int} {l2 : Int} {l3 : Int} {g : zi_M} {Q : Int → zi_M → Prop} (I : zk_I g) (p1 : (-2147483648) ≤ l1 ∧ l1 ≤ 2147483647) (p2 : 0 ≤ l2 ∧ l2 ≤ 0) (p3 : 9 ≤ l3 ∧ l3 ≤ 1000) (hQ : ∀ v : Int, (l2 ≤ l1 → l1 ≤ l3 → v = l1) → (l2 ≤ l1 → l3 < l1 → v = l3) → (l1 < l2 → v = l2) → Q v g) : w_M_held l1 l2 l3 g Q := by
  unfold w_M_held
  refine ⟨⟨by omega, by omega⟩, ⟨by omega, by omega⟩, ?_⟩
  refine ⟨fun c5 => ?_, fun c5 => ?_⟩
  · refine ⟨⟨by omega, by omega⟩, ?_⟩
    refine ⟨fun c4 => ?_, fun c4 => ?_⟩
    · exact hQ _ (by intros; omega) (by intros; omega) (by intros; omega)
    · exact hQ _ (by intros; omega) (by intros; omega) (by intros; omega)
  · exact hQ _ (by intros; omega) (by intros; omega) (by intros; omega)
-- SpoutNewsModel.lawTells(III)I
set_option maxRecDepth 100000 in
set_option maxHeartbeats 4000000 in
theorem k_M_lawTells {l1 : Int} {l2 : Int} {l3 : Int} {g : zi_M} {Q : Int → zi_M → Prop} (I : zk_I g) (p1 : 0 ≤ l1 ∧ l1 ≤ 2) (p2 : (-2147483648) ≤ l2 ∧ l2 ≤ 2147483647) (p3 : 9 ≤ l3 ∧ l3 ≤ 1000) (hQ : ∀ (v : Int) (g' : zi_M), zk_I g' → zk_fr fr_M_lawTells g g' → (0 ≤ v ∧ v ≤ 1000) → (0 ≤ v ∧ v ≤ l3) → (zLk g → v = zlw g l1 l2 l3) → Q v g') : w_M_lawTells l1 l2 l3 g Q := by
  unfold w_M_lawTells
  refine k_M_lineOf I ⟨by omega, by omega⟩ (fun v1 g2 I_4 F_5 b_1 b_2 b_3 => ?_)
  have F_6 : zk_fr fr_M_lawTells g g2 := zk_ft (zk_f0 _) F_5 (fun a i => (fun h => h))
  refine ⟨⟨by omega, by omega⟩, ?_⟩
  refine ⟨fun c15 => ?_, fun c15 => ?_⟩
  · refine ⟨⟨by omega, by omega⟩, ?_⟩
    have m_7 : 0 ≤ (g2 226 v1) ∧ (g2 226 v1) ≤ 400 := I_4.1 226 v1
    have m_8 : g2 226 v1 = g 226 v1 := F_5 _ _ (by unfold fr_M_lineOf; omega)
    have m_9 : 0 ≤ (g 226 v1) ∧ (g 226 v1) ≤ 400 := I.1 226 v1
    have m_10 : 0 ≤ (g2 227 v1) ∧ (g2 227 v1) ≤ 400 := I_4.1 227 v1
    have m_11 : g2 227 v1 = g 227 v1 := F_5 _ _ (by unfold fr_M_lineOf; omega)
    have m_12 : 0 ≤ (g 227 v1) ∧ (g 227 v1) ≤ 400 := I.1 227 v1
    have hj := I_4.2.law v1 (by omega) (by omega)
    refine k_M_runs I_4 ⟨by omega, by omega⟩ ⟨by omega, by omega⟩ ⟨by omega, by omega⟩ (by omega) (by first | exact hj.2.2 | exact hj.2.1) (fun v6 g7 I_15 F_16 b_13 b_14 => ?_)
    have F_17 : zk_fr fr_M_lawTells g g7 := zk_ft F_6 F_16 (fun a i => (fun h => h))
    refine k_M_held I_15 ⟨by omega, by omega⟩ ⟨by omega, by omega⟩ ⟨by omega, by omega⟩ (fun v9 b_18 b_19 b_20 => ?_)
    exact hQ _ _ I_15 F_17 ⟨by omega, by omega⟩ (by omega) (by first | exact zlw_b (by assumption) (by assumption) (by assumption) (by omega) (by assumption) (by assumption) (by assumption) | exact zlw_a (by assumption) (by assumption) (by assumption) (by omega) (by assumption) (by assumption) (by omega) (by assumption) (by assumption) (by assumption))
  · refine k_M_held I_4 ⟨by omega, by omega⟩ ⟨by omega, by omega⟩ ⟨by omega, by omega⟩ (fun v12 b_21 b_22 b_23 => ?_)
    exact hQ _ _ I_4 F_6 ⟨by omega, by omega⟩ (by omega) (by first | exact zlw_b (by assumption) (by assumption) (by assumption) (by omega) (by assumption) (by assumption) (by assumption) | exact zlw_a (by assumption) (by assumption) (by assumption) (by omega) (by assumption) (by assumption) (by omega) (by assumption) (by assumption) (by assumption))
-- SpoutNewsModel.hearsOf(I)I
set_option maxRecDepth 100000 in
set_option maxHeartbeats 4000000 in
theorem k_M_hearsOf {l1 : Int} {g : zi_M} {Q : Int → zi_M → Prop} (I : zk_I g) (p1 : 0 ≤ l1 ∧ l1 ≤ 9) (hQ : ∀ (v : Int) (g' : zi_M), zk_I g' → zk_fr fr_M_hearsOf g g' → (0 ≤ v ∧ v ≤ 9) → (zLk g → ∀ T : Int, v = zLm (g) 0 l1 0 (zVM T g)) → Q v g') : w_M_hearsOf l1 g Q := by
  unfold w_M_hearsOf
  refine k_M_asks I ⟨by omega, by omega⟩ ⟨by omega, by omega⟩ (fun g2 I_2 F_3 b_1 => ?_)
  have F_4 : zk_fr fr_M_hearsOf g g2 := zk_ft (zk_f0 _) F_3 (fun a i => (fun h => (Or.inl h)))
  refine k_M_lawTells I_2 ⟨by omega, by omega⟩ ⟨by omega, by omega⟩ ⟨by omega, by omega⟩ (fun v4 g5 I_8 F_9 b_5 b_6 b_7 => ?_)
  have F_10 : zk_fr fr_M_hearsOf g g5 := zk_ft F_4 F_9 (fun a i => (fun h => (Or.inr h)))
  exact hQ _ _ I_8 F_10 ⟨by omega, by omega⟩ (by intro hk_ T; exact zLm_v (T := T) I (by assumption) ((by assumption : ∀ T n : Int, 0 ≤ n → n < 9 → _ = zfct _ _ _ (zVM T _) _ _ n) T) (by assumption) (rfl) rfl hk_)
-- SpoutNewsModel.has(II)Z
set_option maxRecDepth 100000 in
set_option maxHeartbeats 4000000 in
theorem k_M_has {l1 : Int} {l2 : Int} {g : zi_M} {Q : Int → zi_M → Prop} (I : zk_I g) (p1 : (-2147483648) ≤ l1 ∧ l1 ≤ 2147483647) (p2 : (-2147483648) ≤ l2 ∧ l2 ≤ 2147483647) (hQ : ∀ v : Int, (¬ (zi_and (zi_shr l1 l2) 1) = 1 → v = 0) → ((zi_and (zi_shr l1 l2) 1) = 1 → v = 1) → Q v g) : w_M_has l1 l2 g Q := by
  unfold w_M_has
  have m_1 := zi_r_shr l1 l2
  try have m_2 := (zi_shr_f l1 l2).2 ⟨by omega, by omega⟩
  have m_3 := zi_r_and (zi_shr l1 l2) 1
  try have m_4 := (zi_and_f (zi_shr l1 l2) 1).2.1 ⟨by omega, by omega⟩
  try have m_5 := (zi_and_f (zi_shr l1 l2) 1).2.2 ⟨by omega, by omega⟩
  refine ⟨fun c1 => ?_, fun c1 => ?_⟩
  · exact hQ _ (by intros; omega) (by intros; omega)
  · exact hQ _ (by intros; omega) (by intros; omega)
-- SpoutNewsModel.heardAt(II)I
set_option maxRecDepth 100000 in
set_option maxHeartbeats 4000000 in
theorem k_M_heardAt {l1 : Int} {l2 : Int} {g : zi_M} {Q : Int → zi_M → Prop} (I : zk_I g) (p1 : 0 ≤ l1 ∧ l1 ≤ 9) (p2 : 0 ≤ l2 ∧ l2 ≤ 19) (hQ : ∀ v : Int, (v = g 215 ((36 + (20 * l1)) + l2)) → Q v g) : w_M_heardAt l1 l2 g Q := by
  unfold w_M_heardAt
  refine ⟨⟨by omega, by omega⟩, ?_⟩
  have m_1 := zk_now36 I (i := ((36 + (20 * l1)) + l2)) (by omega)
  exact hQ _ (by intros; omega)
-- SpoutNewsModel.heardSet(I)I
set_option maxRecDepth 100000 in
set_option maxHeartbeats 4000000 in
theorem k_M_heardSet_l4 {g : zi_M} (I : zk_I g) {l1 : Int} {K34 : Int → zi_M → Prop} {Q : Int → zi_M → Prop} (q1 : 0 ≤ l1 ∧ l1 ≤ 9) (hK34 : ∀ (k2 : Int), (0 ≤ k2 ∧ k2 ≤ 65535) → (zMF g l1 k2) → K34 k2 g) (hQ : ∀ v : Int, (0 ≤ v ∧ v ≤ 65535) → (zMF g l1 v) → Q v g) : ∀ (n : Nat) {l2 : Int} {l3 : Int}, (0 ≤ l2 ∧ l2 ≤ 65535) → (0 ≤ l3 ∧ l3 ≤ 20) → (l3 ≤ g 215 (26 + l1)) → (zMS g l1 l3 l2) → 20 - l3 < (n : Int) → w_M_heardSet_l4 l1 K34 Q n l2 l3 g
  | 0, l2, l3, b0, b1, b2, b3, hm => by exfalso; omega
  | n + 1, l2, l3, b0, b1, b2, b3, hm => by
    unfold w_M_heardSet_l4
    refine ⟨⟨by omega, by omega⟩, ?_⟩
    have m_1 := zk_now26 I (i := (26 + l1)) (by omega)
    refine ⟨⟨by omega, by omega⟩, ⟨by omega, by omega⟩, ?_⟩
    refine ⟨fun c7 => ?_, fun c7 => ?_⟩
    · exact hK34 _ ⟨by omega, by omega⟩ (by exact zMS_x (by assumption) (by assumption) (by omega))
    · have m_3 := zk_now36 I (i := ((36 + (20 * l1)) + l3)) (by omega)
      refine k_M_heardAt I ⟨by omega, by omega⟩ ⟨by omega, by omega⟩ (fun v4 b_2 => ?_)
      have m_4 := zi_r_shl 1 v4
      try have m_5 := (zi_shl_f v4).2.1 ⟨by omega, by omega⟩
      first | have m_6 := (zi_shl_f v4).2.2.1 ⟨by omega, by omega⟩ | have m_7 := (zi_shl_f v4).2.2.2.1 ⟨by omega, by omega⟩ | have m_8 := (zi_shl_f v4).2.2.2.2.1 ⟨by omega, by omega⟩ | have m_9 := (zi_shl_f v4).2.2.2.2.2.1 ⟨by omega, by omega⟩ | have m_10 := (zi_shl_f v4).2.2.2.2.2.2 ⟨by omega, by omega⟩ | skip
      first | have m_11 := (zi_or_f l2 (zi_shl 1 v4)).2.1 ⟨by omega, by omega, by omega, by omega⟩ | have m_11 := (zi_or_f l2 (zi_shl 1 v4)).2.2.1 ⟨by omega, by omega, by omega, by omega⟩ | have m_11 := (zi_or_f l2 (zi_shl 1 v4)).2.2.2.1 ⟨by omega, by omega, by omega, by omega⟩ | have m_11 := (zi_or_f l2 (zi_shl 1 v4)).2.2.2.2.1 ⟨by omega, by omega, by omega, by omega⟩ | have m_11 := (zi_or_f l2 (zi_shl 1 v4)).2.2.2.2.2 ⟨by omega, by omega, by omega, by omega⟩ | have m_11 := zi_r_or l2 (zi_shl 1 v4)
      exact k_M_heardSet_l4 I q1 hK34 hQ n ⟨by omega, by omega⟩ ⟨by omega, by omega⟩ (by omega) (by first | exact zMS_0 | exact zMS_s (by assumption) (by assumption) (by assumption) (by omega) (by omega)) (by omega)
set_option maxRecDepth 100000 in
set_option maxHeartbeats 4000000 in
theorem k_M_heardSet {l1 : Int} {g : zi_M} {Q : Int → zi_M → Prop} (I : zk_I g) (p1 : 0 ≤ l1 ∧ l1 ≤ 9) (hQ : ∀ v : Int, (0 ≤ v ∧ v ≤ 65535) → (zMF g l1 v) → Q v g) : w_M_heardSet l1 g Q := by
  unfold w_M_heardSet
  have m_14 := zk_now26 I (i := (26 + l1)) (by omega)
  refine ⟨((20 - 0 : Int).toNat + 1), k_M_heardSet_l4 (l1 := l1) I ⟨by omega, by omega⟩ (fun k8 b_12 b_13 => ?_) hQ ((20 - 0 : Int).toNat + 1) ⟨by omega, by omega⟩ ⟨by omega, by omega⟩ (by omega) (by first | exact zMS_0 | exact zMS_s (by assumption) (by assumption) (by assumption) (by omega) (by omega)) (by omega)⟩
  exact hQ _ ⟨by omega, by omega⟩ (by assumption)
-- SpoutNewsModel.comesTo(II)Z
set_option maxRecDepth 100000 in
set_option maxHeartbeats 4000000 in
theorem k_M_comesTo {l1 : Int} {l2 : Int} {g : zi_M} {Q : Int → zi_M → Prop} (I : zk_I g) (p1 : 0 ≤ l1 ∧ l1 ≤ 9) (p2 : 0 ≤ l2 ∧ l2 ≤ 15) (hQ : ∀ (v : Int) (g' : zi_M), zk_I g' → zk_fr fr_M_comesTo g g' → (0 ≤ v ∧ v ≤ 1) → (zMk l1 l2 g g' v) → Q v g') : w_M_comesTo l1 l2 g Q := by
  unfold w_M_comesTo
  refine ⟨⟨by omega, by omega⟩, ?_⟩
  have m_1 := zk_now26 I (i := (26 + l1)) (by omega)
  refine ⟨⟨by omega, by omega⟩, ?_⟩
  refine ⟨fun c13 => ?_, fun c13 => ?_⟩
  · exact hQ _ _ I (zk_f0 _) ⟨by omega, by omega⟩ (by first | exact zMk_a (by assumption) (by assumption) | exact zMk_c (by assumption) (by assumption) (by assumption) | exact zMk_b (by assumption) (by assumption) (by assumption) (by assumption) (by assumption) (by assumption) (by assumption) (by assumption))
  · refine k_M_heardSet I ⟨by omega, by omega⟩ (fun v3 b_2 b_3 => ?_)
    have m_6 := zi_r_shr (v3) (l2)
    try have m_7 := (zi_shr_f (v3) (l2)).2 ⟨by omega, by omega⟩
    have m_8 := zi_r_and (zi_shr v3 l2) 1
    try have m_9 := (zi_and_f (zi_shr v3 l2) 1).2.1 ⟨by omega, by omega⟩
    try have m_10 := (zi_and_f (zi_shr v3 l2) 1).2.2 ⟨by omega, by omega⟩
    refine k_M_has I ⟨by omega, by omega⟩ ⟨by omega, by omega⟩ (fun v6 b_4 b_5 => ?_)
    refine ⟨fun c12 => ?_, fun c12 => ?_⟩
    · refine ⟨⟨by omega, by omega⟩, ?_⟩
      intro g10 e_11
      have I_12 : zk_I g10 := by rw [e_11]; exact zk_upd (zk_nl36 (i := (36 + (20 * l1)) + (g 215 (26 + l1))) (by omega)).1 (zk_nl36 (i := (36 + (20 * l1)) + (g 215 (26 + l1))) (by omega)).2 I ⟨by omega, by omega⟩
      have F_13 : zk_fr fr_M_comesTo g g10 := by rw [e_11]; exact zk_fu (zk_f0 _) (Or.inr ⟨rfl, by omega, by omega⟩)
      have m_17 := zk_now26 I_12 (i := (26 + l1)) (by omega)
      have m_18 : (26 + l1 = (36 + (20 * l1)) + (g 215 (26 + l1)) → g10 215 (26 + l1) = l2) ∧ (¬ 26 + l1 = (36 + (20 * l1)) + (g 215 (26 + l1)) → g10 215 (26 + l1) = g 215 (26 + l1)) := by rw [e_11]; exact zi_u_if
      intro g11 e_14
      have I_15 : zk_I g11 := by rw [e_14]; exact zk_upd (zk_nl26 (i := 26 + l1) (by omega)).1 (zk_nl26 (i := 26 + l1) (by omega)).2 I_12 ⟨by omega, by omega⟩
      have F_16 : zk_fr fr_M_comesTo g g11 := by rw [e_14]; exact zk_fu F_13 (Or.inl ⟨rfl, by omega, by omega⟩)
      exact hQ _ _ I_15 F_16 ⟨by omega, by omega⟩ (by first | exact zMk_a (by assumption) (by assumption) | exact zMk_c (by assumption) (by assumption) (by assumption) | exact zMk_b (by assumption) (by assumption) (by assumption) (by assumption) (by assumption) (by assumption) (by assumption) (by assumption))
    · exact hQ _ _ I (zk_f0 _) ⟨by omega, by omega⟩ (by first | exact zMk_a (by assumption) (by assumption) | exact zMk_c (by assumption) (by assumption) (by assumption) | exact zMk_b (by assumption) (by assumption) (by assumption) (by assumption) (by assumption) (by assumption) (by assumption) (by assumption))
-- SpoutNewsModel.notes(III)V
set_option maxRecDepth 100000 in
set_option maxHeartbeats 4000000 in
theorem k_M_notes {l1 : Int} {l2 : Int} {l3 : Int} {g : zi_M} {Q : Int → zi_M → Prop} (I : zk_I g) (p1 : 0 ≤ l1 ∧ l1 ≤ 2) (p2 : 0 ≤ l2 ∧ l2 ≤ 9) (p3 : 0 ≤ l3 ∧ l3 ≤ 15) (hQ : ∀ g' : zi_M, zk_I g' → zk_fr fr_M_notes g g' → (zMw l1 l2 l3 g g') → Q 0 g') : w_M_notes l1 l2 l3 g Q := by
  unfold w_M_notes
  have m_1 : 0 ≤ (g 214 5) ∧ (g 214 5) ≤ 1 := I.1 214 5
  refine ⟨⟨by omega, by omega⟩, ?_⟩
  refine ⟨fun c13 => ?_, fun c13 => ?_⟩
  · exact hQ _ I (zk_f0 _) (by first | exact zMw_a (by assumption) | exact zMw_b (by assumption) | exact zMw_c (by assumption) (by assumption) (by assumption) (by assumption) (by assumption) (by assumption) (by assumption) (by assumption))
  · have m_2 := zk_now2 I (i := 2) (by omega)
    refine ⟨⟨by omega, by omega⟩, ?_⟩
    refine ⟨fun c12 => ?_, fun c12 => ?_⟩
    · refine ⟨⟨by omega, by omega⟩, ?_⟩
      have m_6 := zk_rng I 215 0
      intro g4 e_3
      have I_4 : zk_I g4 := by rw [e_3]; exact zk_upd (L := (-2147483648)) (H := 2147483647) rfl rfl I ⟨by omega, by omega⟩
      have F_5 : zk_fr fr_M_notes g g4 := by rw [e_3]; exact zk_fu (zk_f0 _) (Or.inl rfl)
      refine ⟨⟨by omega, by omega⟩, ?_⟩
      intro g6 e_7
      have I_8 : zk_I g6 := by rw [e_7]; exact zk_upd (L := (-2147483648)) (H := 2147483647) rfl rfl I_4 ⟨by omega, by omega⟩
      have F_9 : zk_fr fr_M_notes g g6 := by rw [e_7]; exact zk_fu F_5 (Or.inl rfl)
      refine ⟨⟨by omega, by omega⟩, ?_⟩
      intro g8 e_10
      have I_11 : zk_I g8 := by rw [e_10]; exact zk_upd (L := (-2147483648)) (H := 2147483647) rfl rfl I_8 ⟨by omega, by omega⟩
      have F_12 : zk_fr fr_M_notes g g8 := by rw [e_10]; exact zk_fu F_9 (Or.inl rfl)
      refine ⟨⟨by omega, by omega⟩, ?_⟩
      intro g10 e_13
      have I_14 : zk_I g10 := by rw [e_13]; exact zk_upd (L := (-2147483648)) (H := 2147483647) rfl rfl I_11 ⟨by omega, by omega⟩
      have F_15 : zk_fr fr_M_notes g g10 := by rw [e_13]; exact zk_fu F_12 (Or.inl rfl)
      have m_19 := zk_now2 I_14 (i := 2) (by omega)
      have m_20 : g10 215 2 = g8 215 2 := by rw [e_13]; exact zi_u_ne (by decide)
      have m_21 := zk_now2 I_11 (i := 2) (by omega)
      have m_22 : g8 215 2 = g6 215 2 := by rw [e_10]; exact zi_u_ne (by decide)
      have m_23 := zk_now2 I_8 (i := 2) (by omega)
      have m_24 : g6 215 2 = g4 215 2 := by rw [e_7]; exact zi_u_ne (by decide)
      have m_25 := zk_now2 I_4 (i := 2) (by omega)
      have m_26 : g4 215 2 = g 215 2 := by rw [e_3]; exact zi_u_ne (by decide)
      intro g11 e_16
      have I_17 : zk_I g11 := by rw [e_16]; exact zk_upd (zk_nl2 (i := 2) (by omega)).1 (zk_nl2 (i := 2) (by omega)).2 I_14 ⟨by omega, by omega⟩
      have F_18 : zk_fr fr_M_notes g g11 := by rw [e_16]; exact zk_fu F_15 (Or.inr ⟨rfl, by omega, by omega⟩)
      exact hQ _ I_17 F_18 (by first | exact zMw_a (by assumption) | exact zMw_b (by assumption) | exact zMw_c (by assumption) (by assumption) (by assumption) (by assumption) (by assumption) (by assumption) (by assumption) (by assumption))
    · exact hQ _ I (zk_f0 _) (by first | exact zMw_a (by assumption) | exact zMw_b (by assumption) | exact zMw_c (by assumption) (by assumption) (by assumption) (by assumption) (by assumption) (by assumption) (by assumption) (by assumption))
-- SpoutNewsModel.hears(II)V
set_option maxRecDepth 100000 in
set_option maxHeartbeats 4000000 in
theorem k_M_hears_l12 {l1 : Int} {l2 : Int} {l3 : Int} {K77 : zi_M → Prop} {Q : Int → zi_M → Prop} {g0 : zi_M} (q1 : 0 ≤ l1 ∧ l1 ≤ 9) (q2 : 0 ≤ l2 ∧ l2 ≤ 7) (q3 : 0 ≤ l3 ∧ l3 ≤ 9) (hK77 : ∀ (g : zi_M), zk_I g → zk_fr fr_M_hears g0 g → (zLk g0 → zNF l1 l2 g0 g) → K77 g) (hQ : ∀ g' : zi_M, zk_I g' → zk_fr fr_M_hears g0 g' → (zLk g0 → zNF l1 l2 g0 g') → Q 0 g') : ∀ (n : Nat) {l4 : Int} {l5 : Int} {g : zi_M}, zk_I g → zk_fr fr_M_hears g0 g → (0 ≤ l4 ∧ l4 ≤ 9) → (0 ≤ l5 ∧ l5 ≤ 16) → (zLk g0 → zNI l1 l2 g0 g l3 l4 l5) → 16 - l5 < (n : Int) → w_M_hears_l12 l1 l2 l3 K77 Q n l4 l5 g
  | 0, l4, l5, g, I, F, b0, b1, b2, hm => by exfalso; omega
  | n + 1, l4, l5, g, I, F, b0, b1, b2, hm => by
    unfold w_M_hears_l12
    refine ⟨⟨by omega, by omega⟩, ?_⟩
    refine ⟨fun c20 => ?_, fun c20 => ?_⟩
    · exact hK77 _ I F (by first | exact zNI_x (by assumption) (Or.inl (by assumption)) | exact zNI_x (by assumption) (Or.inr (by assumption)))
    · refine ⟨⟨by omega, by omega⟩, ⟨by omega, by omega⟩, ?_⟩
      refine ⟨fun c19 => ?_, fun c19 => ?_⟩
      · exact hK77 _ I F (by first | exact zNI_x (by assumption) (Or.inl (by assumption)) | exact zNI_x (by assumption) (Or.inr (by assumption)))
      · refine ⟨⟨by omega, by omega⟩, ?_⟩
        have m_6 := zk_rng I 215 (236 + l2)
        have m_9 := zi_r_shr ((g 215 (236 + l2))) (l5)
        try have m_10 := (zi_shr_f ((g 215 (236 + l2))) (l5)).2 ⟨by omega, by omega⟩
        have m_11 := zi_r_and (zi_shr (g 215 (236 + l2)) l5) 1
        try have m_12 := (zi_and_f (zi_shr (g 215 (236 + l2)) l5) 1).2.1 ⟨by omega, by omega⟩
        try have m_13 := (zi_and_f (zi_shr (g 215 (236 + l2)) l5) 1).2.2 ⟨by omega, by omega⟩
        refine k_M_has I ⟨by omega, by omega⟩ ⟨by omega, by omega⟩ (fun v8 b_7 b_8 => ?_)
        refine ⟨fun c18 => ?_, fun c18 => ?_⟩
        · exact k_M_hears_l12 q1 q2 q3 hK77 hQ n I F ⟨by omega, by omega⟩ ⟨by omega, by omega⟩ (by first | exact zNI_0 (by assumption) (by assumption) | exact zNI_a (by assumption) (by assumption) (F 215 (236 + l2) (by unfold fr_M_hears; omega)) (by assumption) (by assumption) | exact zNI_b (by assumption) (by assumption) (by assumption) (by assumption) | exact zNI_c (by assumption) (by assumption) (by assumption) (F 215 (236 + l2) (by unfold fr_M_hears; omega)) (by assumption) (by assumption) (by assumption) (by assumption) (by assumption) ((by assumption : zk_fr fr_M_hears g0 _) 214 5 (by unfold fr_M_hears; omega))) (by omega)
        · refine k_M_comesTo I ⟨by omega, by omega⟩ ⟨by omega, by omega⟩ (fun v11 g12 I_16 F_17 b_14 b_15 => ?_)
          have F_18 : zk_fr fr_M_hears g0 g12 := zk_ft F F_17 (fun a i => (fun h => Or.elim h (fun h => (Or.inr (Or.inr (Or.inr (Or.inr (Or.inl h)))))) (fun h => (Or.inr (Or.inr (Or.inr (Or.inr (Or.inr h))))))))
          refine ⟨fun c17 => ?_, fun c17 => ?_⟩
          · refine k_M_notes I_16 ⟨by omega, by omega⟩ ⟨by omega, by omega⟩ ⟨by omega, by omega⟩ (fun g15 I_20 F_21 b_19 => ?_)
            have F_22 : zk_fr fr_M_hears g0 g15 := zk_ft F_18 F_21 (fun a i => (fun h => Or.elim h (fun h => (Or.inl h)) (fun h => (Or.inr (Or.inr (Or.inr (Or.inl h)))))))
            exact k_M_hears_l12 q1 q2 q3 hK77 hQ n I_20 F_22 ⟨by omega, by omega⟩ ⟨by omega, by omega⟩ (by first | exact zNI_0 (by assumption) (by assumption) | exact zNI_a (by assumption) (by assumption) (F 215 (236 + l2) (by unfold fr_M_hears; omega)) (by assumption) (by assumption) | exact zNI_b (by assumption) (by assumption) (by assumption) (by assumption) | exact zNI_c (by assumption) (by assumption) (by assumption) (F 215 (236 + l2) (by unfold fr_M_hears; omega)) (by assumption) (by assumption) (by assumption) (by assumption) (by assumption) ((by assumption : zk_fr fr_M_hears g0 _) 214 5 (by unfold fr_M_hears; omega))) (by omega)
          · exact k_M_hears_l12 q1 q2 q3 hK77 hQ n I_16 F_18 ⟨by omega, by omega⟩ ⟨by omega, by omega⟩ (by first | exact zNI_0 (by assumption) (by assumption) | exact zNI_a (by assumption) (by assumption) (F 215 (236 + l2) (by unfold fr_M_hears; omega)) (by assumption) (by assumption) | exact zNI_b (by assumption) (by assumption) (by assumption) (by assumption) | exact zNI_c (by assumption) (by assumption) (by assumption) (F 215 (236 + l2) (by unfold fr_M_hears; omega)) (by assumption) (by assumption) (by assumption) (by assumption) (by assumption) ((by assumption : zk_fr fr_M_hears g0 _) 214 5 (by unfold fr_M_hears; omega))) (by omega)
set_option maxRecDepth 100000 in
set_option maxHeartbeats 4000000 in
theorem k_M_hears {l1 : Int} {l2 : Int} {g : zi_M} {Q : Int → zi_M → Prop} (I : zk_I g) (p1 : 0 ≤ l1 ∧ l1 ≤ 9) (p2 : 0 ≤ l2 ∧ l2 ≤ 7) (hQ : ∀ g' : zi_M, zk_I g' → zk_fr fr_M_hears g g' → (zLk g → zNF l1 l2 g g') → Q 0 g') : w_M_hears l1 l2 g Q := by
  unfold w_M_hears
  refine k_M_hearsOf I ⟨by omega, by omega⟩ (fun v1 g2 I_3 F_4 b_1 b_2 => ?_)
  have F_5 : zk_fr fr_M_hears g g2 := zk_ft (zk_f0 _) F_4 (fun a i => (fun h => Or.elim h (fun h => (Or.inr (Or.inl h))) (fun h => (Or.inr (Or.inr (Or.inl h))))))
  refine ⟨((16 - 0 : Int).toNat + 1), k_M_hears_l12 (l1 := l1) (l2 := l2) (l3 := v1) ⟨by omega, by omega⟩ ⟨by omega, by omega⟩ ⟨by omega, by omega⟩ (fun g21 I_23 F_24 b_25 => ?_) hQ ((16 - 0 : Int).toNat + 1) I_3 F_5 ⟨by omega, by omega⟩ ⟨by omega, by omega⟩ (by first | exact zNI_0 (by assumption) (by assumption) | exact zNI_a (by assumption) (by assumption) (F 215 (236 + l2) (by unfold fr_M_hears; omega)) (by assumption) (by assumption) | exact zNI_b (by assumption) (by assumption) (by assumption) (by assumption) | exact zNI_c (by assumption) (by assumption) (by assumption) (F 215 (236 + l2) (by unfold fr_M_hears; omega)) (by assumption) (by assumption) (by assumption) (by assumption) (by assumption) ((by assumption : zk_fr fr_M_hears g0 _) 214 5 (by unfold fr_M_hears; omega))) (by omega)⟩
  exact hQ _ I_23 F_24 (by assumption)
-- SpoutNewsModel.lesser(II)I
set_option maxRecDepth 100000 in
set_option maxHeartbeats 4000000 in
theorem k_M_lesser {l1 : Int} {l2 : Int} {g : zi_M} {Q : Int → zi_M → Prop} (I : zk_I g) (p1 : (-2147483648) ≤ l1 ∧ l1 ≤ 2147483647) (p2 : (-2147483648) ≤ l2 ∧ l2 ≤ 2147483647) (hQ : ∀ v : Int, (l2 ≤ l1 → v = l2) → (l1 < l2 → v = l1) → Q v g) : w_M_lesser l1 l2 g Q := by
  unfold w_M_lesser
  refine ⟨⟨by omega, by omega⟩, ⟨by omega, by omega⟩, ?_⟩
  refine ⟨fun c3 => ?_, fun c3 => ?_⟩
  · exact hQ _ (by intros; omega) (by intros; omega)
  · exact hQ _ (by intros; omega) (by intros; omega)
-- SpoutNewsModel.isDry(I)V
set_option maxRecDepth 100000 in
set_option maxHeartbeats 4000000 in
theorem k_M_isDry_l2 {l1 : Int} {K51 : zi_M → Prop} {Q : Int → zi_M → Prop} {g0 : zi_M} (q1 : 0 ≤ l1 ∧ l1 ≤ 9) (hK51 : ∀ (g : zi_M), zk_I g → zk_fr fr_M_isDry g0 g → (zMB l1 g0 g) → K51 g) (hQ : ∀ g' : zi_M, zk_I g' → zk_fr fr_M_isDry g0 g' → (zMP l1 g0 g') → Q 0 g') : ∀ (n : Nat) {l2 : Int} {g : zi_M}, zk_I g → zk_fr fr_M_isDry g0 g → (0 ≤ l2 ∧ l2 ≤ 8) → (l2 ≤ g0 214 7) → (zMI l1 l2 g0 g) → 8 - l2 < (n : Int) → w_M_isDry_l2 l1 K51 Q n l2 g
  | 0, l2, g, I, F, b0, b1, b2, hm => by exfalso; omega
  | n + 1, l2, g, I, F, b0, b1, b2, hm => by
    unfold w_M_isDry_l2
    have m_1 : 0 ≤ (g 214 7) ∧ (g 214 7) ≤ 8 := I.1 214 7
    refine ⟨⟨by omega, by omega⟩, ⟨by omega, by omega⟩, ?_⟩
    refine ⟨fun c13 => ?_, fun c13 => ?_⟩
    · exact hK51 _ I F (by exact zMI_x b2 (by have hf := (zMfr_d F).2.2.2.1; omega))
    · refine ⟨⟨by omega, by omega⟩, ?_⟩
      have m_2 := zk_now6 I (i := (6 + l1)) (by omega)
      refine ⟨⟨by omega, by omega⟩, ?_⟩
      refine ⟨fun c12 => ?_, fun c12 => ?_⟩
      · exact k_M_isDry_l2 q1 hK51 hQ n I F ⟨by omega, by omega⟩ (by first | omega | (have hf := (zMfr_d F).2.2.2.1; omega) | (have hz := zk_r7 I; omega)) (by first | exact zMI_0 | exact zMI_l b2 ⟨by omega, by omega⟩ (by omega) (by assumption) | exact zMI_n b2 (by omega) (zMfr_d F) (by omega) (by have hz := zk_r7 I; omega) (by assumption) | exact zMI_n b2 (by omega) (zMfr_d F) (by omega) (by have hz := zk_r7 I; omega) (by omega) | exact zMI_y b2 ⟨by omega, by omega⟩ (by omega) (zMfr_d F) (by omega) (by have hz := zk_r7 I; omega) (by assumption) (by omega) (by assumption)) (by omega)
      · refine ⟨⟨by omega, by omega⟩, ?_⟩
        have m_3 := zk_now244 I (i := (244 + l2)) (by omega)
        refine ⟨⟨by omega, by omega⟩, ⟨by omega, by omega⟩, ?_⟩
        refine ⟨fun c11 => ?_, fun c11 => ?_⟩
        · exact k_M_isDry_l2 q1 hK51 hQ n I F ⟨by omega, by omega⟩ (by first | omega | (have hf := (zMfr_d F).2.2.2.1; omega) | (have hz := zk_r7 I; omega)) (by first | exact zMI_0 | exact zMI_l b2 ⟨by omega, by omega⟩ (by omega) (by assumption) | exact zMI_n b2 (by omega) (zMfr_d F) (by omega) (by have hz := zk_r7 I; omega) (by assumption) | exact zMI_n b2 (by omega) (zMfr_d F) (by omega) (by have hz := zk_r7 I; omega) (by omega) | exact zMI_y b2 ⟨by omega, by omega⟩ (by omega) (zMfr_d F) (by omega) (by have hz := zk_r7 I; omega) (by assumption) (by omega) (by assumption)) (by omega)
        · refine k_M_hears I ⟨by omega, by omega⟩ ⟨by omega, by omega⟩ (fun g9 I_5 F_6 b_4 => ?_)
          have F_7 : zk_fr fr_M_isDry g0 g9 := zk_ft F F_6 (fun a i => (fun h => Or.elim h (fun h => (Or.inl h)) (fun h => Or.elim h (fun h => (Or.inr (Or.inl h))) (fun h => Or.elim h (fun h => (Or.inr (Or.inr (Or.inl h)))) (fun h => Or.elim h (fun h => (Or.inr (Or.inr (Or.inr (Or.inr (Or.inl h)))))) (fun h => Or.elim h (fun h => (Or.inr (Or.inr (Or.inr (Or.inr (Or.inr (Or.inl h))))))) (fun h => (Or.inr (Or.inr (Or.inr (Or.inr (Or.inr (Or.inr h)))))))))))))
          exact k_M_isDry_l2 q1 hK51 hQ n I_5 F_7 ⟨by omega, by omega⟩ (by first | omega | (have hf := (zMfr_d F).2.2.2.1; omega) | (have hz := zk_r7 I; omega)) (by first | exact zMI_0 | exact zMI_l b2 ⟨by omega, by omega⟩ (by omega) (by assumption) | exact zMI_n b2 (by omega) (zMfr_d F) (by omega) (by have hz := zk_r7 I; omega) (by assumption) | exact zMI_n b2 (by omega) (zMfr_d F) (by omega) (by have hz := zk_r7 I; omega) (by omega) | exact zMI_y b2 ⟨by omega, by omega⟩ (by omega) (zMfr_d F) (by omega) (by have hz := zk_r7 I; omega) (by assumption) (by omega) (by assumption)) (by omega)
set_option maxRecDepth 100000 in
set_option maxHeartbeats 4000000 in
theorem k_M_isDry {l1 : Int} {g : zi_M} {Q : Int → zi_M → Prop} (I : zk_I g) (p1 : 0 ≤ l1 ∧ l1 ≤ 9) (hQ : ∀ g' : zi_M, zk_I g' → zk_fr fr_M_isDry g g' → (zMP l1 g g') → Q 0 g') : w_M_isDry l1 g Q := by
  unfold w_M_isDry
  refine ⟨((8 - 0 : Int).toNat + 1), k_M_isDry_l2 (l1 := l1) ⟨by omega, by omega⟩ (fun g14 I_8 F_9 b_10 => ?_) hQ ((8 - 0 : Int).toNat + 1) I (zk_f0 _) ⟨by omega, by omega⟩ (by first | omega | (have hf := (zMfr_d F).2.2.2.1; omega) | (have hz := zk_r7 I; omega)) (by first | exact zMI_0 | exact zMI_l b2 ⟨by omega, by omega⟩ (by omega) (by assumption) | exact zMI_n b2 (by omega) (zMfr_d F) (by omega) (by have hz := zk_r7 I; omega) (by assumption) | exact zMI_n b2 (by omega) (zMfr_d F) (by omega) (by have hz := zk_r7 I; omega) (by omega) | exact zMI_y b2 ⟨by omega, by omega⟩ (by omega) (zMfr_d F) (by omega) (by have hz := zk_r7 I; omega) (by assumption) (by omega) (by assumption)) (by omega)⟩
  refine ⟨⟨by omega, by omega⟩, ?_⟩
  have m_11 := zk_now16 I_8 (i := (16 + l1)) (by omega)
  refine k_M_lesser I_8 ⟨by omega, by omega⟩ ⟨by omega, by omega⟩ (fun v16 b_12 b_13 => ?_)
  intro g19 e_14
  have I_15 : zk_I g19 := by rw [e_14]; exact zk_upd (zk_nl16 (i := 16 + l1) (by omega)).1 (zk_nl16 (i := 16 + l1) (by omega)).2 I_8 ⟨by omega, by omega⟩
  have F_16 : zk_fr fr_M_isDry g g19 := by rw [e_14]; exact zk_fu F_9 (Or.inr (Or.inr (Or.inr (Or.inl ⟨rfl, by omega, by omega⟩))))
  exact hQ _ I_15 F_16 (by exact zMP_of (by assumption) ⟨by omega, by omega⟩ (by assumption) (by omega))
-- SpoutNewsModel.canSay(I)Z
set_option maxRecDepth 100000 in
set_option maxHeartbeats 4000000 in
theorem k_M_canSay {l1 : Int} {g : zi_M} {Q : Int → zi_M → Prop} (I : zk_I g) (p1 : 0 ≤ l1 ∧ l1 ≤ 9) (hQ : ∀ v : Int, ((g 215 (6 + l1)) = 0 → v = 1) → (¬ (g 215 (6 + l1)) = 0 → ¬ (g 215 (6 + l1)) = 1 → v = 0) → (¬ (g 215 (6 + l1)) = 0 → (g 215 (6 + l1)) = 1 → (g 215 3) < 5 → v = 0) → (¬ (g 215 (6 + l1)) = 0 → (g 215 (6 + l1)) = 1 → 5 ≤ (g 215 3) → v = 1) → Q v g) : w_M_canSay l1 g Q := by
  unfold w_M_canSay
  refine ⟨⟨by omega, by omega⟩, ?_⟩
  have m_1 := zk_now6 I (i := (6 + l1)) (by omega)
  refine ⟨⟨by omega, by omega⟩, ?_⟩
  refine ⟨fun c6 => ?_, fun c6 => ?_⟩
  · have m_2 := zk_rng I 215 3
    exact hQ _ (by intros; omega) (by intros; omega) (by intros; omega) (by intros; omega)
  · refine ⟨fun c5 => ?_, fun c5 => ?_⟩
    · have m_3 := zk_rng I 215 3
      exact hQ _ (by intros; omega) (by intros; omega) (by intros; omega) (by intros; omega)
    · have m_4 := zk_rng I 215 3
      refine ⟨⟨by omega, by omega⟩, ?_⟩
      refine ⟨fun c4 => ?_, fun c4 => ?_⟩
      · exact hQ _ (by intros; omega) (by intros; omega) (by intros; omega) (by intros; omega)
      · exact hQ _ (by intros; omega) (by intros; omega) (by intros; omega) (by intros; omega)
-- SpoutNewsModel.slipOf(II)I
set_option maxRecDepth 100000 in
set_option maxHeartbeats 4000000 in
theorem k_M_slipOf {l1 : Int} {l2 : Int} {g : zi_M} {Q : Int → zi_M → Prop} (I : zk_I g) (p1 : 0 ≤ l1 ∧ l1 ≤ 9) (p2 : 0 ≤ l2 ∧ l2 ≤ 15) (hQ : ∀ (v : Int) (g' : zi_M), zk_I g' → zk_fr fr_M_slipOf g g' → (0 ≤ v ∧ v ≤ 1000) → (zLk g → ∀ T : Int, v = zLm (g) 2 l1 l2 (zVM T g)) → Q v g') : w_M_slipOf l1 l2 g Q := by
  unfold w_M_slipOf
  refine k_M_asks I ⟨by omega, by omega⟩ ⟨by omega, by omega⟩ (fun g2 I_2 F_3 b_1 => ?_)
  have F_4 : zk_fr fr_M_slipOf g g2 := zk_ft (zk_f0 _) F_3 (fun a i => (fun h => (Or.inl h)))
  have m_5 := zk_rng I_2 215 3
  have m_6 : g2 215 3 = g 215 3 := F_3 _ _ (by unfold fr_M_asks; omega)
  have m_7 := zk_rng I 215 3
  have m_8 := zi_r_w (20 * (g2 215 3))
  refine k_M_lawTells I_2 ⟨by omega, by omega⟩ ⟨by omega, by omega⟩ ⟨by omega, by omega⟩ (fun v4 g5 I_12 F_13 b_9 b_10 b_11 => ?_)
  have F_14 : zk_fr fr_M_slipOf g g5 := zk_ft F_4 F_13 (fun a i => (fun h => (Or.inr h)))
  exact hQ _ _ I_12 F_14 ⟨by omega, by omega⟩ (by intro hk_ T; exact zLm_v (T := T) I (by assumption) ((by assumption : ∀ T n : Int, 0 ≤ n → n < 9 → _ = zfct _ _ _ (zVM T _) _ _ n) T) (by assumption) (by rw [if_neg (by decide), if_neg (by decide), zVM_r ⟨by decide, by decide⟩ (by omega)]; exact congrArg (fun x => zi_w (20 * x)) (zMr_3 (by assumption))) rfl hk_)
-- SpoutNewsModel.draw(I)I
set_option maxRecDepth 100000 in
set_option maxHeartbeats 4000000 in
theorem k_M_draw {l1 : Int} {g : zi_M} {Q : Int → zi_M → Prop} (I : zk_I g) (p1 : 1000 ≤ l1 ∧ l1 ≤ 1000) (hQ : ∀ (v : Int) (g' : zi_M), zk_I g' → zk_fr fr_M_draw g g' → (0 ≤ v ∧ v ≤ 999) → (∀ T : Int, zVM T g' = zup (zVM T g) 1 (zi_w (1664525 * zVM T g 1 + 1013904223)) ∧ v = Int.tmod (zi_ush (zVM T g' 1) 8) l1) → Q v g') : w_M_draw l1 g Q := by
  unfold w_M_draw
  have m_4 := zk_rng I 215 1
  have m_5 := zi_r_w ((1664525 * (g 215 1)) + 1013904223)
  intro g1 e_1
  have I_2 : zk_I g1 := by rw [e_1]; exact zk_upd (zk_nl0 (i := 1) (by omega)).1 (zk_nl0 (i := 1) (by omega)).2 I ⟨by omega, by omega⟩
  have F_3 : zk_fr fr_M_draw g g1 := by rw [e_1]; exact zk_fu (zk_f0 _) ⟨rfl, by omega, by omega⟩
  refine ⟨⟨by omega, by omega⟩, (by omega), ?_⟩
  have m_6 := zk_rng I_2 215 1
  have m_7 : g1 215 1 = zi_w ((1664525 * (g 215 1)) + 1013904223) := by rw [e_1]; exact zi_u_eq
  have m_8 := zi_ush_f (g1 215 1) 8
  have m_9 := zi_tmod_f (zi_ush (g1 215 1) 8) l1
  exact hQ _ _ I_2 F_3 ⟨by omega, by omega⟩ (by exact zMd_of (by assumption))
-- SpoutNewsModel.saysAs(II)I
set_option maxRecDepth 100000 in
set_option maxHeartbeats 4000000 in
theorem k_M_saysAs_b47 {l1 : Int} {l2 : Int} {s0 : Int} {Q : Int → zi_M → Prop} {g : zi_M} {g0 : zi_M} (I : zk_I g) (F : zk_fr fr_M_saysAs g0 g) (p2 : 0 ≤ l2 ∧ l2 ≤ 15) (ix0 : zAs l1 l2 g0 g s0) (ps0 : 0 ≤ s0 ∧ s0 ≤ 1) (hQ : ∀ (v : Int) (g' : zi_M), zk_I g' → zk_fr fr_M_saysAs g0 g' → (0 ≤ v ∧ v ≤ 15) → (zAF l1 l2 g0 g' v) → Q v g') : w_M_saysAs_b47 l2 s0 g Q := by
  unfold w_M_saysAs_b47
  refine ⟨⟨by omega, by omega⟩, ?_⟩
  refine ⟨fun c13 => ?_, fun c13 => ?_⟩
  · have m_17 := zk_rng I 215 5
    have m_18 := zi_r_w ((g 215 5) + 1)
    intro g11 e_14
    have I_15 : zk_I g11 := by rw [e_14]; exact zk_upd (zk_nl3 (i := 5) (by omega)).1 (zk_nl3 (i := 5) (by omega)).2 I ⟨by omega, by omega⟩
    have F_16 : zk_fr fr_M_saysAs g0 g11 := by rw [e_14]; exact zk_fu F (Or.inr (Or.inr (Or.inr ⟨rfl, by omega, by omega⟩)))
    refine ⟨⟨by omega, by omega⟩, ?_⟩
    have m_19 := zi_tmod_f (l2 + 1) 16
    have m_20 := zi_tmod_c (l2 + 1) 16 (by decide)
    exact hQ _ _ I_15 F_16 ⟨by omega, by omega⟩ (by first | exact zAF_n ix0 (by assumption) (by rfl) | exact zAF_y ix0 (by assumption) (by assumption) (by rfl))
  · exact hQ _ _ I F ⟨by omega, by omega⟩ (by first | exact zAF_n ix0 (by assumption) (by rfl) | exact zAF_y ix0 (by assumption) (by assumption) (by rfl))
set_option maxRecDepth 100000 in
set_option maxHeartbeats 4000000 in
theorem k_M_saysAs {l1 : Int} {l2 : Int} {g : zi_M} {Q : Int → zi_M → Prop} (I : zk_I g) (p1 : 0 ≤ l1 ∧ l1 ≤ 9) (p2 : 0 ≤ l2 ∧ l2 ≤ 15) (hQ : ∀ (v : Int) (g' : zi_M), zk_I g' → zk_fr fr_M_saysAs g g' → (0 ≤ v ∧ v ≤ 15) → (zAF l1 l2 g g' v) → Q v g') : w_M_saysAs l1 l2 g Q := by
  unfold w_M_saysAs
  refine k_M_slipOf I ⟨by omega, by omega⟩ ⟨by omega, by omega⟩ (fun v1 g2 I_3 F_4 b_1 b_2 => ?_)
  have F_5 : zk_fr fr_M_saysAs g g2 := zk_ft (zk_f0 _) F_4 (fun a i => (fun h => Or.elim h (fun h => (Or.inl h)) (fun h => (Or.inr (Or.inl h)))))
  have m_6 : 0 ≤ (g2 214 5) ∧ (g2 214 5) ≤ 1 := I_3.1 214 5
  have m_7 : g2 214 5 = g 214 5 := F_4 _ _ (by unfold fr_M_slipOf; omega)
  have m_8 : 0 ≤ (g 214 5) ∧ (g 214 5) ≤ 1 := I.1 214 5
  refine ⟨⟨by omega, by omega⟩, ?_⟩
  refine ⟨fun c17 => ?_, fun c17 => ?_⟩
  · refine k_M_draw I_3 ⟨by omega, by omega⟩ (fun v5 g6 I_11 F_12 b_9 b_10 => ?_)
    have F_13 : zk_fr fr_M_saysAs g g6 := zk_ft F_5 F_12 (fun a i => (fun h => (Or.inr (Or.inr (Or.inl h)))))
    refine ⟨⟨by omega, by omega⟩, ⟨by omega, by omega⟩, ?_⟩
    refine ⟨fun c14 => ?_, fun c14 => ?_⟩
    · exact k_M_saysAs_b47 I_11 F_13 ⟨by omega, by omega⟩ (by first | exact zAs_a (by assumption) (by assumption) (by assumption) (by assumption) (by omega) | exact zAs_b (by assumption) (by assumption) (by assumption) (by assumption) (by omega) | exact zAs_c (by assumption) (by assumption) (by assumption) (by omega) | exact zAs_d (by assumption) (by assumption) (by assumption) (by omega)) ⟨by omega, by omega⟩ hQ
    · exact k_M_saysAs_b47 I_11 F_13 ⟨by omega, by omega⟩ (by first | exact zAs_a (by assumption) (by assumption) (by assumption) (by assumption) (by omega) | exact zAs_b (by assumption) (by assumption) (by assumption) (by assumption) (by omega) | exact zAs_c (by assumption) (by assumption) (by assumption) (by omega) | exact zAs_d (by assumption) (by assumption) (by assumption) (by omega)) ⟨by omega, by omega⟩ hQ
  · refine ⟨⟨by omega, by omega⟩, ?_⟩
    refine ⟨fun c16 => ?_, fun c16 => ?_⟩
    · exact k_M_saysAs_b47 I_3 F_5 ⟨by omega, by omega⟩ (by first | exact zAs_a (by assumption) (by assumption) (by assumption) (by assumption) (by omega) | exact zAs_b (by assumption) (by assumption) (by assumption) (by assumption) (by omega) | exact zAs_c (by assumption) (by assumption) (by assumption) (by omega) | exact zAs_d (by assumption) (by assumption) (by assumption) (by omega)) ⟨by omega, by omega⟩ hQ
    · exact k_M_saysAs_b47 I_3 F_5 ⟨by omega, by omega⟩ (by first | exact zAs_a (by assumption) (by assumption) (by assumption) (by assumption) (by omega) | exact zAs_b (by assumption) (by assumption) (by assumption) (by assumption) (by omega) | exact zAs_c (by assumption) (by assumption) (by assumption) (by omega) | exact zAs_d (by assumption) (by assumption) (by assumption) (by omega)) ⟨by omega, by omega⟩ hQ
-- SpoutNewsModel.into(I)I
set_option maxRecDepth 100000 in
set_option maxHeartbeats 4000000 in
theorem k_M_into {l1 : Int} {g : zi_M} {Q : Int → zi_M → Prop} (I : zk_I g) (p1 : 0 ≤ l1 ∧ l1 ≤ 9) (hQ : ∀ v : Int, (v = (g 232 l1) - 1) → Q v g) : w_M_into l1 g Q := by
  unfold w_M_into
  refine ⟨⟨by omega, by omega⟩, ?_⟩
  have m_1 : 0 ≤ (g 232 l1) ∧ (g 232 l1) ≤ 10 := I.1 232 l1
  exact hQ _ (by intros; omega)
-- SpoutNewsModel.saysFirst(I)V
set_option maxRecDepth 100000 in
set_option maxHeartbeats 4000000 in
theorem k_M_saysFirst_l14 {l1 : Int} {K65 : zi_M → Prop} {Q : Int → zi_M → Prop} {g0 : zi_M} (q1 : 0 ≤ l1 ∧ l1 ≤ 9) (hK65 : ∀ (g : zi_M), zk_I g → zk_fr fr_M_saysFirst g0 g → (g 215 (26 + l1) = g0 215 (26 + l1)) → (g 214 43 = g0 214 43) → (zN2 l1 g0 g) → K65 g) (hQ : ∀ g' : zi_M, zk_I g' → zk_fr fr_M_saysFirst g0 g' → (g' 215 (26 + l1) = g0 215 (26 + l1) - 1) → (g' 214 43 ≤ g0 214 43 + 1) → (zNY l1 g0 g') → Q 0 g') : ∀ (n : Nat) {l3 : Int} {g : zi_M}, zk_I g → zk_fr fr_M_saysFirst g0 g → (0 ≤ l3 ∧ l3 ≤ 20) → (g 215 (26 + l1) = g0 215 (26 + l1)) → (g 214 43 = g0 214 43) → (l3 ≤ g0 215 (26 + l1) - 1) → (zN1 l1 l3 g0 g) → 20 - l3 < (n : Int) → w_M_saysFirst_l14 l1 K65 Q n l3 g
  | 0, l3, g, I, F, b0, b1, b2, b3, b4, hm => by exfalso; omega
  | n + 1, l3, g, I, F, b0, b1, b2, b3, b4, hm => by
    unfold w_M_saysFirst_l14
    refine ⟨⟨by omega, by omega⟩, ?_⟩
    have m_8 := zk_now26 I (i := (26 + l1)) (by omega)
    refine ⟨⟨by omega, by omega⟩, ⟨by omega, by omega⟩, ?_⟩
    refine ⟨fun c13 => ?_, fun c13 => ?_⟩
    · have m_9 : 0 ≤ (g 214 43) ∧ (g 214 43) ≤ 90 := I.1 214 43
      exact hK65 _ I F (by omega) (by omega) (by exact zN1_x b4 (by omega))
    · refine ⟨⟨by omega, by omega⟩, ?_⟩
      refine ⟨⟨by omega, by omega⟩, ?_⟩
      have m_13 := zk_now36 I (i := (((36 + (20 * l1)) + l3) + 1)) (by omega)
      intro g12 e_10
      have I_11 : zk_I g12 := by rw [e_10]; exact zk_upd (zk_nl36 (i := (36 + (20 * l1)) + l3) (by omega)).1 (zk_nl36 (i := (36 + (20 * l1)) + l3) (by omega)).2 I ⟨by omega, by omega⟩
      have F_12 : zk_fr fr_M_saysFirst g0 g12 := by rw [e_10]; exact zk_fu F (Or.inr (Or.inr (Or.inr (Or.inr (Or.inr (Or.inr (Or.inr (Or.inr (Or.inr (Or.inr (Or.inl ⟨rfl, by omega, by omega⟩)))))))))))
      have m_14 := zk_now26 I_11 (i := (26 + l1)) (by omega)
      have m_15 : (26 + l1 = (36 + (20 * l1)) + l3 → g12 215 (26 + l1) = g 215 (((36 + (20 * l1)) + l3) + 1)) ∧ (¬ 26 + l1 = (36 + (20 * l1)) + l3 → g12 215 (26 + l1) = g 215 (26 + l1)) := by rw [e_10]; exact zi_u_if
      have m_16 : 0 ≤ (g12 214 43) ∧ (g12 214 43) ≤ 90 := I_11.1 214 43
      have m_17 : g12 214 43 = g 214 43 := by rw [e_10]; exact zi_u_ne (by decide)
      have m_18 : 0 ≤ (g 214 43) ∧ (g 214 43) ≤ 90 := I.1 214 43
      exact k_M_saysFirst_l14 q1 hK65 hQ n I_11 F_12 ⟨by omega, by omega⟩ (by omega) (by omega) (by omega) (by first | exact zN1_s b4 ⟨by omega, by omega⟩ (by omega) (by omega) (by assumption) | exact zN1_0 ⟨by omega, by omega⟩ (by assumption) (by assumption)) (by omega)
set_option maxRecDepth 100000 in
set_option maxHeartbeats 4000000 in
theorem k_M_saysFirst_l108 {l1 : Int} {l2 : Int} {K160 : zi_M → Prop} {Q : Int → zi_M → Prop} {g0 : zi_M} (q1 : 0 ≤ l1 ∧ l1 ≤ 9) (q2 : 0 ≤ l2 ∧ l2 ≤ 15) (hK160 : ∀ (g : zi_M), zk_I g → zk_fr fr_M_saysFirst g0 g → (g 215 (26 + l1) = g0 215 (26 + l1) - 1) → (g 214 43 = g0 214 43) → (zN4 l1 l2 g0 g) → K160 g) (hQ : ∀ g' : zi_M, zk_I g' → zk_fr fr_M_saysFirst g0 g' → (g' 215 (26 + l1) = g0 215 (26 + l1) - 1) → (g' 214 43 ≤ g0 214 43 + 1) → (zNY l1 g0 g') → Q 0 g') : ∀ (n : Nat) {l3 : Int} {g : zi_M}, zk_I g → zk_fr fr_M_saysFirst g0 g → (0 ≤ l3 ∧ l3 ≤ 6) → (g 215 (26 + l1) = g0 215 (26 + l1) - 1) → (g 214 43 = g0 214 43) → (zN3 l1 l2 l3 g0 g) → 6 - l3 < (n : Int) → w_M_saysFirst_l108 l1 l2 K160 Q n l3 g
  | 0, l3, g, I, F, b0, b1, b2, b3, hm => by exfalso; omega
  | n + 1, l3, g, I, F, b0, b1, b2, b3, hm => by
    unfold w_M_saysFirst_l108
    refine ⟨⟨by omega, by omega⟩, ?_⟩
    refine ⟨fun c28 => ?_, fun c28 => ?_⟩
    · have m_39 := zk_now26 I (i := (26 + l1)) (by omega)
      have m_40 : 0 ≤ (g 214 43) ∧ (g 214 43) ≤ 90 := I.1 214 43
      exact hK160 _ I F (by omega) (by omega) (by exact zN3_x b3 (by omega))
    · refine ⟨⟨by omega, by omega⟩, ?_⟩
      have m_41 := zk_now252 I (i := (252 + l3)) (by omega)
      refine ⟨⟨by omega, by omega⟩, ⟨by omega, by omega⟩, ?_⟩
      refine ⟨fun c27 => ?_, fun c27 => ?_⟩
      · have m_42 := zk_now26 I (i := (26 + l1)) (by omega)
        have m_43 : 0 ≤ (g 214 43) ∧ (g 214 43) ≤ 90 := I.1 214 43
        exact k_M_saysFirst_l108 q1 q2 hK160 hQ n I F ⟨by omega, by omega⟩ (by omega) (by omega) (by first | exact zN3_n b3 (by omega) (by omega) (by omega) | exact zN3_y b3 (by omega) (by omega) (by omega) (by assumption) | exact zN3_0 (by assumption) ⟨by omega, by omega⟩ (by assumption) (zk_now26 I (i := (26 + l1)) (by omega)) (by assumption) (by assumption) (by assumption) (zNY_5 (by assumption))) (by omega)
      · refine ⟨⟨by omega, by omega⟩, ?_⟩
        have m_47 := zk_rng I 215 (258 + l3)
        have m_48 := zi_r_shl 1 l2
        try have m_49 := (zi_shl_f l2).2.1 ⟨by omega, by omega⟩
        first | have m_50 := (zi_shl_f l2).2.2.1 ⟨by omega, by omega⟩ | have m_51 := (zi_shl_f l2).2.2.2.1 ⟨by omega, by omega⟩ | have m_52 := (zi_shl_f l2).2.2.2.2.1 ⟨by omega, by omega⟩ | have m_53 := (zi_shl_f l2).2.2.2.2.2.1 ⟨by omega, by omega⟩ | have m_54 := (zi_shl_f l2).2.2.2.2.2.2 ⟨by omega, by omega⟩ | skip
        first | have m_55 := (zi_or_f (g 215 (258 + l3)) (zi_shl 1 l2)).2.1 ⟨by omega, by omega, by omega, by omega⟩ | have m_55 := (zi_or_f (g 215 (258 + l3)) (zi_shl 1 l2)).2.2.1 ⟨by omega, by omega, by omega, by omega⟩ | have m_55 := (zi_or_f (g 215 (258 + l3)) (zi_shl 1 l2)).2.2.2.1 ⟨by omega, by omega, by omega, by omega⟩ | have m_55 := (zi_or_f (g 215 (258 + l3)) (zi_shl 1 l2)).2.2.2.2.1 ⟨by omega, by omega, by omega, by omega⟩ | have m_55 := (zi_or_f (g 215 (258 + l3)) (zi_shl 1 l2)).2.2.2.2.2 ⟨by omega, by omega, by omega, by omega⟩ | have m_55 := zi_r_or (g 215 (258 + l3)) (zi_shl 1 l2)
        intro g26 e_44
        have I_45 : zk_I g26 := by rw [e_44]; exact zk_upd (zk_nl258 (i := 258 + l3) (by omega)).1 (zk_nl258 (i := 258 + l3) (by omega)).2 I ⟨by omega, by omega⟩
        have F_46 : zk_fr fr_M_saysFirst g0 g26 := by rw [e_44]; exact zk_fu F (Or.inr (Or.inr (Or.inr (Or.inr (Or.inr (Or.inr (Or.inr (Or.inr (Or.inl ⟨rfl, by omega, by omega⟩)))))))))
        have m_56 := zk_now26 I_45 (i := (26 + l1)) (by omega)
        have m_57 := zk_now26 I (i := (26 + l1)) (by omega)
        have m_58 : (26 + l1 = 258 + l3 → g26 215 (26 + l1) = zi_or (g 215 (258 + l3)) (zi_shl 1 l2)) ∧ (¬ 26 + l1 = 258 + l3 → g26 215 (26 + l1) = g 215 (26 + l1)) := by rw [e_44]; exact zi_u_if
        have m_59 : 0 ≤ (g26 214 43) ∧ (g26 214 43) ≤ 90 := I_45.1 214 43
        have m_60 : g26 214 43 = g 214 43 := by rw [e_44]; exact zi_u_ne (by decide)
        have m_61 : 0 ≤ (g 214 43) ∧ (g 214 43) ≤ 90 := I.1 214 43
        exact k_M_saysFirst_l108 q1 q2 hK160 hQ n I_45 F_46 ⟨by omega, by omega⟩ (by omega) (by omega) (by first | exact zN3_n b3 (by omega) (by omega) (by omega) | exact zN3_y b3 (by omega) (by omega) (by omega) (by assumption) | exact zN3_0 (by assumption) ⟨by omega, by omega⟩ (by assumption) (zk_now26 I (i := (26 + l1)) (by omega)) (by assumption) (by assumption) (by assumption) (zNY_5 (by assumption))) (by omega)
set_option maxRecDepth 100000 in
set_option maxHeartbeats 4000000 in
theorem k_M_saysFirst {l1 : Int} {g : zi_M} {Q : Int → zi_M → Prop} (I : zk_I g) (p1 : 0 ≤ l1 ∧ l1 ≤ 9) (px0 : 1 ≤ g 215 (26 + l1)) (px1 : g 214 43 ≤ 89) (hQ : ∀ g' : zi_M, zk_I g' → zk_fr fr_M_saysFirst g g' → (g' 215 (26 + l1) = g 215 (26 + l1) - 1) → (g' 214 43 ≤ g 214 43 + 1) → (zNY l1 g g') → Q 0 g') : w_M_saysFirst l1 g Q := by
  unfold w_M_saysFirst
  have m_2 := zk_now36 I (i := ((36 + (20 * l1)) + 0)) (by omega)
  refine k_M_heardAt I ⟨by omega, by omega⟩ ⟨by omega, by omega⟩ (fun v1 b_1 => ?_)
  refine k_M_saysAs I ⟨by omega, by omega⟩ ⟨by omega, by omega⟩ (fun v4 g5 I_5 F_6 b_3 b_4 => ?_)
  have F_7 : zk_fr fr_M_saysFirst g g5 := zk_ft (zk_f0 _) F_6 (fun a i => (fun h => Or.elim h (fun h => (Or.inr (Or.inl h))) (fun h => Or.elim h (fun h => (Or.inr (Or.inr (Or.inl h)))) (fun h => Or.elim h (fun h => (Or.inr (Or.inr (Or.inr (Or.inr (Or.inr (Or.inr (Or.inl h)))))))) (fun h => (Or.inr (Or.inr (Or.inr (Or.inr (Or.inr (Or.inr (Or.inr (Or.inr (Or.inr (Or.inr (Or.inr (Or.inr h)))))))))))))))))
  have m_108 := zk_now26 I_5 (i := (26 + l1)) (by omega)
  have m_109 : g5 215 (26 + l1) = g 215 (26 + l1) := F_6 _ _ (by unfold fr_M_saysAs; omega)
  have m_110 := zk_now26 I (i := (26 + l1)) (by omega)
  have m_111 : 0 ≤ (g5 214 43) ∧ (g5 214 43) ≤ 90 := I_5.1 214 43
  have m_112 : g5 214 43 = g 214 43 := F_6 _ _ (by unfold fr_M_saysAs; omega)
  have m_113 : 0 ≤ (g 214 43) ∧ (g 214 43) ≤ 90 := I.1 214 43
  refine ⟨((20 - 0 : Int).toNat + 1), k_M_saysFirst_l14 (l1 := l1) ⟨by omega, by omega⟩ (fun g14 I_19 F_20 b_21 b_22 b_23 => ?_) hQ ((20 - 0 : Int).toNat + 1) I_5 F_7 ⟨by omega, by omega⟩ (by omega) (by omega) (by omega) (by first | exact zN1_s b4 ⟨by omega, by omega⟩ (by omega) (by omega) (by assumption) | exact zN1_0 ⟨by omega, by omega⟩ (by assumption) (by assumption)) (by omega)⟩
  refine ⟨⟨by omega, by omega⟩, ?_⟩
  have m_27 := zk_now26 I_19 (i := (26 + l1)) (by omega)
  intro g16 e_24
  have I_25 : zk_I g16 := by rw [e_24]; exact zk_upd (zk_nl26 (i := 26 + l1) (by omega)).1 (zk_nl26 (i := 26 + l1) (by omega)).2 I_19 ⟨by omega, by omega⟩
  have F_26 : zk_fr fr_M_saysFirst g g16 := by rw [e_24]; exact zk_fu F_20 (Or.inr (Or.inr (Or.inr (Or.inr (Or.inr (Or.inr (Or.inr (Or.inr (Or.inr (Or.inl ⟨rfl, by omega, by omega⟩))))))))))
  have m_31 := zk_rng I_25 215 4
  have m_32 := zk_rng I_19 215 4
  have m_33 : (4 = 26 + l1 → g16 215 4 = (g14 215 (26 + l1)) - 1) ∧ (¬ 4 = 26 + l1 → g16 215 4 = g14 215 4) := by rw [e_24]; exact zi_u_if
  have m_34 := zi_r_w ((g16 215 4) + 1)
  intro g17 e_28
  have I_29 : zk_I g17 := by rw [e_28]; exact zk_upd (zk_nl3 (i := 4) (by omega)).1 (zk_nl3 (i := 4) (by omega)).2 I_25 ⟨by omega, by omega⟩
  have F_30 : zk_fr fr_M_saysFirst g g17 := by rw [e_28]; exact zk_fu F_26 (Or.inr (Or.inr (Or.inr (Or.inr (Or.inr (Or.inr (Or.inr (Or.inr (Or.inr (Or.inr (Or.inr (Or.inl ⟨rfl, by omega, by omega⟩))))))))))))
  refine k_M_notes I_29 ⟨by omega, by omega⟩ ⟨by omega, by omega⟩ ⟨by omega, by omega⟩ (fun g19 I_36 F_37 b_35 => ?_)
  have F_38 : zk_fr fr_M_saysFirst g g19 := zk_ft F_30 F_37 (fun a i => (fun h => Or.elim h (fun h => (Or.inl h)) (fun h => (Or.inr (Or.inr (Or.inr (Or.inr (Or.inr (Or.inr (Or.inr (Or.inl h)))))))))))
  have m_95 := zk_now26 I_36 (i := (26 + l1)) (by omega)
  have m_96 : g19 215 (26 + l1) = g17 215 (26 + l1) := F_37 _ _ (by unfold fr_M_notes; omega)
  have m_97 := zk_now26 I_29 (i := (26 + l1)) (by omega)
  have m_98 := zk_now26 I_25 (i := (26 + l1)) (by omega)
  have m_99 : g16 215 (26 + l1) = (g14 215 (26 + l1)) - 1 := by rw [e_24]; exact zi_u_eq
  have m_100 : (26 + l1 = 4 → g17 215 (26 + l1) = zi_w ((g16 215 4) + 1)) ∧ (¬ 26 + l1 = 4 → g17 215 (26 + l1) = g16 215 (26 + l1)) := by rw [e_28]; exact zi_u_if
  have m_101 : 0 ≤ (g19 214 43) ∧ (g19 214 43) ≤ 90 := I_36.1 214 43
  have m_102 : g19 214 43 = g17 214 43 := F_37 _ _ (by unfold fr_M_notes; omega)
  have m_103 : 0 ≤ (g17 214 43) ∧ (g17 214 43) ≤ 90 := I_29.1 214 43
  have m_104 : g17 214 43 = g16 214 43 := by rw [e_28]; exact zi_u_ne (by decide)
  have m_105 : 0 ≤ (g16 214 43) ∧ (g16 214 43) ≤ 90 := I_25.1 214 43
  have m_106 : g16 214 43 = g14 214 43 := by rw [e_24]; exact zi_u_ne (by decide)
  have m_107 : 0 ≤ (g14 214 43) ∧ (g14 214 43) ≤ 90 := I_19.1 214 43
  refine ⟨((6 - 0 : Int).toNat + 1), k_M_saysFirst_l108 (l1 := l1) (l2 := v4) ⟨by omega, by omega⟩ ⟨by omega, by omega⟩ (fun g29 I_62 F_63 b_64 b_65 b_66 => ?_) hQ ((6 - 0 : Int).toNat + 1) I_36 F_38 ⟨by omega, by omega⟩ (by omega) (by omega) (by first | exact zN3_n b3 (by omega) (by omega) (by omega) | exact zN3_y b3 (by omega) (by omega) (by omega) (by assumption) | exact zN3_0 (by assumption) ⟨by omega, by omega⟩ (by assumption) (zk_now26 I (i := (26 + l1)) (by omega)) (by assumption) (by assumption) (by assumption) (zNY_5 (by assumption))) (by omega)⟩
  have m_68 : 0 ≤ (g29 232 (l1)) ∧ (g29 232 (l1)) ≤ 10 := I_62.1 232 (l1)
  refine k_M_into I_62 ⟨by omega, by omega⟩ (fun v30 b_67 => ?_)
  refine ⟨⟨by omega, by omega⟩, ?_⟩
  refine ⟨fun c42 => ?_, fun c42 => ?_⟩
  · refine k_M_into I_62 ⟨by omega, by omega⟩ (fun v34 b_69 => ?_)
    have m_73 : 0 ≤ (g29 214 43) ∧ (g29 214 43) ≤ 90 := I_62.1 214 43
    refine ⟨⟨by omega, by omega⟩, ?_⟩
    intro g38 e_70
    have I_71 : zk_I g38 := by rw [e_70]; exact zk_upd (L := 0) (H := 9) rfl rfl I_62 ⟨by omega, by omega⟩
    have F_72 : zk_fr fr_M_saysFirst g g38 := by rw [e_70]; exact zk_fu F_63 (Or.inr (Or.inr (Or.inr (Or.inl rfl))))
    have m_77 : 0 ≤ (g38 214 43) ∧ (g38 214 43) ≤ 90 := I_71.1 214 43
    have m_78 : g38 214 43 = g29 214 43 := by rw [e_70]; exact zi_u_ne (by decide)
    refine ⟨⟨by omega, by omega⟩, ?_⟩
    intro g40 e_74
    have I_75 : zk_I g40 := by rw [e_74]; exact zk_upd (L := 0) (H := 15) rfl rfl I_71 ⟨by omega, by omega⟩
    have F_76 : zk_fr fr_M_saysFirst g g40 := by rw [e_74]; exact zk_fu F_72 (Or.inr (Or.inr (Or.inr (Or.inr (Or.inl rfl)))))
    have m_82 : 0 ≤ (g40 214 43) ∧ (g40 214 43) ≤ 90 := I_75.1 214 43
    have m_83 : g40 214 43 = g38 214 43 := by rw [e_74]; exact zi_u_ne (by decide)
    intro g41 e_79
    have I_80 : zk_I g41 := by rw [e_79]; exact zk_upd (L := 0) (H := 90) rfl rfl I_75 ⟨by omega, by omega⟩
    have F_81 : zk_fr fr_M_saysFirst g g41 := by rw [e_79]; exact zk_fu F_76 (Or.inr (Or.inr (Or.inr (Or.inr (Or.inr (Or.inl ⟨rfl, rfl⟩))))))
    have m_84 := zk_now26 I_80 (i := (26 + l1)) (by omega)
    have m_85 : g41 215 (26 + l1) = g40 215 (26 + l1) := by rw [e_79]; exact zi_u_ne (by decide)
    have m_86 := zk_now26 I_75 (i := (26 + l1)) (by omega)
    have m_87 : g40 215 (26 + l1) = g38 215 (26 + l1) := by rw [e_74]; exact zi_u_ne (by decide)
    have m_88 := zk_now26 I_71 (i := (26 + l1)) (by omega)
    have m_89 : g38 215 (26 + l1) = g29 215 (26 + l1) := by rw [e_70]; exact zi_u_ne (by decide)
    have m_90 := zk_now26 I_62 (i := (26 + l1)) (by omega)
    have m_91 : 0 ≤ (g41 214 43) ∧ (g41 214 43) ≤ 90 := I_80.1 214 43
    have m_92 : g41 214 43 = (g40 214 43) + 1 := by rw [e_79]; exact zi_u_eq
    exact hQ _ I_80 F_81 (by omega) (by omega) (by first | exact zNY_n I (zNa0_of ⟨by omega, by omega⟩ (by assumption) (by assumption)) (by assumption) ⟨by omega, by omega⟩ (zk_now26 I (i := (26 + l1)) (by omega)) (by assumption) (zNY_r (by assumption) l1) (by omega) | exact zNY_y I (zNa0_of ⟨by omega, by omega⟩ (by assumption) (by assumption)) (by assumption) ⟨by omega, by omega⟩ (zk_now26 I (i := (26 + l1)) (by omega)) (by assumption) (zNY_r (by assumption) l1) (by omega) (by assumption) ⟨by omega, by omega⟩ (by assumption) (by assumption) (by assumption))
  · have m_93 := zk_now26 I_62 (i := (26 + l1)) (by omega)
    have m_94 : 0 ≤ (g29 214 43) ∧ (g29 214 43) ≤ 90 := I_62.1 214 43
    exact hQ _ I_62 F_63 (by omega) (by omega) (by first | exact zNY_n I (zNa0_of ⟨by omega, by omega⟩ (by assumption) (by assumption)) (by assumption) ⟨by omega, by omega⟩ (zk_now26 I (i := (26 + l1)) (by omega)) (by assumption) (zNY_r (by assumption) l1) (by omega) | exact zNY_y I (zNa0_of ⟨by omega, by omega⟩ (by assumption) (by assumption)) (by assumption) ⟨by omega, by omega⟩ (zk_now26 I (i := (26 + l1)) (by omega)) (by assumption) (zNY_r (by assumption) l1) (by omega) (by assumption) ⟨by omega, by omega⟩ (by assumption) (by assumption) (by assumption))
-- SpoutNewsModel.jetOf(I)I
set_option maxRecDepth 100000 in
set_option maxHeartbeats 4000000 in
theorem k_M_jetOf {l1 : Int} {g : zi_M} {Q : Int → zi_M → Prop} (I : zk_I g) (p1 : 0 ≤ l1 ∧ l1 ≤ 9) (hQ : ∀ (v : Int) (g' : zi_M), zk_I g' → zk_fr fr_M_jetOf g g' → (0 ≤ v ∧ v ≤ 9) → (zLk g → ∀ T : Int, v = zLm (g) 1 l1 0 (zVM T g)) → Q v g') : w_M_jetOf l1 g Q := by
  unfold w_M_jetOf
  refine k_M_asks I ⟨by omega, by omega⟩ ⟨by omega, by omega⟩ (fun g2 I_2 F_3 b_1 => ?_)
  have F_4 : zk_fr fr_M_jetOf g g2 := zk_ft (zk_f0 _) F_3 (fun a i => (fun h => (Or.inl h)))
  have m_5 := zk_rng I_2 215 3
  have m_6 : g2 215 3 = g 215 3 := F_3 _ _ (by unfold fr_M_asks; omega)
  have m_7 := zk_rng I 215 3
  refine k_M_lawTells I_2 ⟨by omega, by omega⟩ ⟨by omega, by omega⟩ ⟨by omega, by omega⟩ (fun v4 g5 I_11 F_12 b_8 b_9 b_10 => ?_)
  have F_13 : zk_fr fr_M_jetOf g g5 := zk_ft F_4 F_12 (fun a i => (fun h => (Or.inr h)))
  exact hQ _ _ I_11 F_13 ⟨by omega, by omega⟩ (by intro hk_ T; exact zLm_v (T := T) I (by assumption) ((by assumption : ∀ T n : Int, 0 ≤ n → n < 9 → _ = zfct _ _ _ (zVM T _) _ _ n) T) (by assumption) (by rw [if_neg (by decide), if_pos rfl, zVM_r ⟨by decide, by decide⟩ (by omega)]; exact zMr_3 (by assumption)) rfl hk_)
