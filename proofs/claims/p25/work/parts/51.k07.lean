-- by program (wip/gen/mkz.py)
-- SpoutNews$Law.tells(ILSpoutNews$World;II)I
theorem k_Law_tells_l55 {r2 : Nat} {l1 : Int} {g0 : zi_M} {K113 : Int → zi_M → Prop} {K142 : zi_M → Prop} {Q : Int → zi_M → Prop} (R1 : zi_r l1) (hK113 : ∀ (k : Int) (g : zi_M), zk_I g → zk_fr fr_Law_worth g0 g → 0 ≤ k → k < 16 → zlr g0 l1 0 = k → K113 k g) (hK142 : ∀ g : zi_M, zk_I g → zk_fr fr_Law_worth g0 g → zlr g0 l1 0 = -1 → K142 g) :
    ∀ (n : Nat) (l7 : Int) (g : zi_M), zk_I g → zk_fr fr_Law_worth g0 g → (0 ≤ l7 ∧ l7 ≤ 16) → zlr g0 l1 l7 = zlr g0 l1 0 → 16 - l7 < (n : Int) → w_Law_tells_l55 r2 l1 K113 K142 Q n l7 g
  | 0, l7, g, I, F, b, e, hm => by exfalso; omega
  | n + 1, l7, g, I, F, b, e, hm => by
    unfold w_Law_tells_l55
    have b20 : 0 ≤ g 20 7 ∧ g 20 7 ≤ 16 := I.1 20 7
    have f : ∀ (a : Nat) (i : Int), ¬ a = 27 → g a i = g0 a i := fun a i h => F a i (fun w => h (by unfold fr_Law_worth at w; exact w))
    have e20 := f 20 7 (by decide)
    have e23 := f 23 l7 (by decide)
    have e25 := f 25 l7 (by decide)
    have e26 := f 26 l7 (by decide)
    have r21 : g 21 = g0 21 := funext fun i => f 21 i (by decide)
    have r22 : g 22 = g0 22 := funext fun i => f 22 i (by decide)
    have r28 : g 28 = g0 28 := funext fun i => f 28 i (by decide)
    refine ⟨⟨by omega, by omega⟩, ⟨by omega, by omega⟩, fun c => ?_, fun c => ⟨⟨by omega, by omega⟩, zk_rng I 23 l7, R1, fun ne => ?_, fun eq => ⟨zk_rng I 25 l7, zk_rng I 26 l7, fun le => ?_, fun lt => ?_⟩⟩⟩
    · exact hK142 g I F (by rw [← e]; exact zlr_e (by omega))
    · refine k_Law_tells_l55 R1 hK113 hK142 n (l7 + 1) g I F ⟨by omega, by omega⟩ ?_ (by omega)
      rw [← e, zlr_s (i := l7) (by omega), zite_n (fun z => ne (by rw [e23]; exact z.1))]
    · refine hK113 l7 g I F b.1 (by omega) ?_
      rw [← e, zlr_s (i := l7) (by omega), zite_p ⟨by rw [← e23]; exact eq, Or.inl (by omega)⟩]
    · have b25 : 0 ≤ g 25 l7 ∧ g 25 l7 ≤ 400 := I.1 25 l7
      have b26 : 0 ≤ g 26 l7 ∧ g 26 l7 ≤ 400 := I.1 26 l7
      refine k_Law_worth I b25 b26 (fun v g' I' F' hv hz => ⟨hv, fun z => ?_, fun nz => ?_⟩)
      · refine k_Law_tells_l55 R1 hK113 hK142 n (l7 + 1) g' I' (zk_ft F F' (fun _ _ h => h)) ⟨by omega, by omega⟩ ?_ (by omega)
        rw [← e, zlr_s (i := l7) (by omega), zite_n]
        rintro ⟨-, w | w⟩
        · omega
        · rw [hz, r21, r22, r28, e25, e26] at z
          exact w z
      · refine hK113 l7 g' I' (zk_ft F F' (fun _ _ h => h)) b.1 (by omega) ?_
        rw [hz, r21, r22, r28, e25, e26] at nz
        rw [← e, zlr_s (i := l7) (by omega), zite_p ⟨by rw [← e23]; exact eq, Or.inr nz⟩]
theorem zLc_v {g g1 : zi_M} {r : Nat} {kd p w T v : Int} {f : Int → Int} (F : ∀ (a : Nat) (i : Int), ¬ a = 28 → g1 a i = g a i) (hf : ∀ n : Int, 0 ≤ n → n < 9 → g1 28 n = zfct (g (r + 1)) (g (r + 2)) (g (r + 3)) f p w n)
    (hv : v = max 0 (min (zite (zlr g1 kd 0 = -1) (if kd = 0 then 2 else if kd = 1 then f 3 else zi_w (20 * f 3)) (zwo (g1 21) (g1 22) (g1 28) (g1 24 (zlr g1 kd 0)) (g1 25 (zlr g1 kd 0)))) (if kd = 2 then 1000 else 9))) : v = zLc g r kd p w f := by
  have h : ∀ a : Nat, ¬ a = 28 → g1 a = g a := fun a q => funext fun i => F a i q
  have ew : zwo (g1 21) (g1 22) (g1 28) = zwo (g 21) (g 22) (zfct (g (r + 1)) (g (r + 2)) (g (r + 3)) f p w) := funext fun a => funext fun b => by
    rw [h 21 (by decide), h 22 (by decide)]
    exact zwo_c hf
  unfold zlr at hv
  rw [ew, h 23 (by decide), h 24 (by decide), h 25 (by decide), h 26 (by decide), F 20 7 (by decide), Int.sub_zero] at hv
  exact hv
theorem k_Law_tells {r2 : Nat} (hr2 : zs_sh r2 = some (10, 20)) {l1 : Int} {l3 : Int} {l4 : Int} {g : zi_M} {Q : Int → zi_M → Prop} (I : zk_I g) (p1 : 0 ≤ l1 ∧ l1 ≤ 2) (p3 : 0 ≤ l3 ∧ l3 ≤ 9) (p4 : 0 ≤ l4 ∧ l4 ≤ 15) (hQ : ∀ (v : Int) (g' : zi_M), zk_I g' → zk_fr (fr_Law_tells r2) g g' → (0 ≤ v ∧ v ≤ 1000) → (∀ T : Int, v = zLc g r2 l1 l3 l4 (zVC T r2 g)) → Q v g') : w_Law_tells r2 l1 l3 l4 g Q := by
  have R1 : zi_r l1 := ⟨by omega, by omega⟩
  have hb := zs_wb hr2
  have b14 := zk_c10_14 hr2 I
  -- behind the facts
  have key : ∀ (df ms : Int) (C : zi_M → Prop), (∀ x, (zi_r df ∧ zi_r ms ∧ (zi_r (min df ms) ∧ Q (max 0 (min df ms)) x)) → C x) → (df = if l1 = 0 then 2 else if l1 = 1 then g r2 14 else 20 * g r2 14) → (ms = if l1 = 2 then 1000 else 9) → (0 ≤ df ∧ df ≤ 180) → (ms = 9 ∨ ms = 1000) → w_Law_gatherFacts r2 l3 l4 g (fun _ g4 => ∃ f, w_Law_tells_l55 r2 l1 (fun k x => w_Law_tells_b113 r2 ms k x Q) C Q f 0 g4) := by
    intro df ms C hC hdf hms bd bm
    refine k_Law_gatherFacts hr2 I p3 p4 (fun g1 I1 F1 hf => ⟨18, ?_⟩)
    have F2 : ∀ (a : Nat) (i : Int), ¬ a = 28 → g1 a i = g a i := fun a i h => F1 a i (fun w => h (by unfold fr_Law_gatherFacts at w; exact w))
    have fin : ∀ (x : zi_M) (v : Int), zk_I x → zk_fr fr_Law_worth g1 x → v = max 0 (min (zite (zlr g1 l1 0 = -1) df (zwo (g1 21) (g1 22) (g1 28) (g1 24 (zlr g1 l1 0)) (g1 25 (zlr g1 l1 0)))) ms) → Q v x := by
      intro x v Ix Fx hv
      refine hQ v x Ix (zk_ft (zk_ft (zk_f0 _) F1 (fun a i h => ?_)) Fx (fun a i h => ?_)) ⟨by rw [hv]; omega, by rw [hv]; omega⟩ (fun T => ?_)
      · unfold fr_Law_gatherFacts at h; unfold fr_Law_tells; omega
      · unfold fr_Law_worth at h; unfold fr_Law_tells; omega
      · refine zLc_v (T := T) F2 (hf T) ?_
        rw [(zVC_rd (T := T) (r := r2) (g := g)).2.2.2.1, show zi_w (20 * g r2 14) = 20 * g r2 14 from zi_w_id ⟨by omega, by omega⟩, ← hdf, ← hms]
        exact hv
    refine k_Law_tells_l55 R1 (fun k x Ix Fx k0 k1 hk => ?_) (fun x Ix Fx hk => ?_) 18 0 g1 I1 (zk_f0 _) ⟨by decide, by decide⟩ rfl (by decide)
    · unfold w_Law_tells_b113
      have b24 : 0 ≤ x 24 k ∧ x 24 k ≤ 400 := Ix.1 24 k
      have b25 : 0 ≤ x 25 k ∧ x 25 k ≤ 400 := Ix.1 25 k
      refine ⟨⟨k0, k1⟩, k_Law_worth Ix b24 b25 (fun v y Iy Fy hv hz => ⟨hv, ⟨by omega, by omega⟩, ⟨by omega, by omega⟩, fin y _ Iy (zk_ft Fx Fy (fun _ _ h => h)) ?_⟩)⟩
      have f : ∀ (a : Nat) (i : Int), ¬ a = 27 → x a i = g1 a i := fun a i h => Fx a i (fun w => h (by unfold fr_Law_worth at w; exact w))
      rw [zite_n (by omega), hk, hz, f 24 k (by decide), f 25 k (by decide), show x 21 = g1 21 from funext fun i => f 21 i (by decide), show x 22 = g1 22 from funext fun i => f 22 i (by decide), show x 28 = g1 28 from funext fun i => f 28 i (by decide)]
    · exact hC x ⟨⟨by omega, by omega⟩, ⟨by omega, by omega⟩, ⟨by omega, by omega⟩, fin x _ Ix Fx (by rw [zite_p hk])⟩
  have b13 : ∀ ms : Int, (ms = if l1 = 2 then 1000 else 9) → (ms = 9 ∨ ms = 1000) → w_Law_tells_b13 r2 l1 l3 l4 ms g Q := by
    intro ms hms bm
    unfold w_Law_tells_b13
    refine ⟨R1, fun n0 => ⟨fun n1 => ?_, fun e1 => ?_⟩, fun e0 => ?_⟩
    · exact key (20 * g r2 14) ms _ (fun _ h => h) (by rw [if_neg n0, if_neg n1]) hms (by omega) bm
    · exact key (g r2 14) ms _ (fun _ h => h) (by rw [if_neg n0, if_pos e1]) hms (by omega) bm
    · exact key 2 ms _ (fun _ h => h.2) (by rw [if_pos e0]) hms (by omega) bm
  unfold w_Law_tells
  exact ⟨R1, fun n2 => b13 9 (by rw [if_neg n2]) (Or.inl rfl), fun e2 => b13 1000 (by rw [if_pos e2]) (Or.inr rfl)⟩

-- SpoutNews$World.wordAt(II)I
set_option maxRecDepth 100000 in
set_option maxHeartbeats 4000000 in
theorem k_World_wordAt {r0 : Nat} (hr0 : zs_sh r0 = some (10, 20)) {l1 : Int} {l2 : Int} {g : zi_M} {Q : Int → zi_M → Prop} (I : zk_I g) (p1 : 0 ≤ l1 ∧ l1 ≤ 9) (p2 : 0 ≤ l2 ∧ l2 ≤ 19) (hQ : ∀ v : Int, (l1 < 0 → v = 0) → (0 ≤ l1 → (g r0 8) ≤ l1 → v = 0) → (0 ≤ l1 → l1 < (g r0 8) → l2 < 0 → v = 0) → (0 ≤ l1 → l1 < (g r0 8) → 0 ≤ l2 → 20 ≤ l2 → v = 0) → (0 ≤ l1 → l1 < (g r0 8) → 0 ≤ l2 → l2 < 20 → v = g (r0 + 7) ((l1 * 20) + l2)) → Q v g) : w_World_wordAt r0 l1 l2 g Q := by
  unfold w_World_wordAt
  have m_4 := zk_c10_8 hr0 I
  refine k_World_isSpout hr0 I ⟨by omega, by omega⟩ (fun v1 b_1 b_2 b_3 => ?_)
  try simp only [Nat.reduceAdd] at b_1 b_2 b_3
  refine ⟨fun c8 => ?_, fun c8 => ?_⟩
  · have m_5 := zk_a10_7 hr0 I ((l1 * 20) + l2)
    exact hQ _ (by intros; omega) (by intros; omega) (by intros; omega) (by intros; omega) (by intros; omega)
  · refine ⟨⟨by omega, by omega⟩, ?_⟩
    refine ⟨fun c7 => ?_, fun c7 => ?_⟩
    · have m_6 := zk_a10_7 hr0 I ((l1 * 20) + l2)
      exact hQ _ (by intros; omega) (by intros; omega) (by intros; omega) (by intros; omega) (by intros; omega)
    · refine ⟨fun c6 => ?_, fun c6 => ?_⟩
      · have m_7 := zk_a10_7 hr0 I ((l1 * 20) + l2)
        exact hQ _ (by intros; omega) (by intros; omega) (by intros; omega) (by intros; omega) (by intros; omega)
      · refine ⟨⟨by omega, by omega⟩, ?_⟩
        have m_8 := zk_a10_7 hr0 I ((l1 * 20) + l2)
        exact hQ _ (by intros; omega) (by intros; omega) (by intros; omega) (by intros; omega) (by intros; omega)
-- SpoutNews$World.slips(I)Z
set_option maxRecDepth 100000 in
set_option maxHeartbeats 4000000 in
theorem k_World_slips {r0 : Nat} (hr0 : zs_sh r0 = some (10, 20)) {l1 : Int} {g : zi_M} {Q : Int → zi_M → Prop} (I : zk_I g) (p1 : 0 ≤ l1 ∧ l1 ≤ 1000) (hQ : ∀ (v : Int) (g' : zi_M), zk_I g' → zk_fr (fr_World_slips r0) g g' → (0 ≤ v ∧ v ≤ 1) → (zYl r0 l1 g g' v) → Q v g') : w_World_slips r0 l1 g Q := by
  unfold w_World_slips
  have m_1 := zk_c10_0 hr0 I
  refine ⟨⟨by omega, by omega⟩, ?_⟩
  refine ⟨fun c8 => ?_, fun c8 => ?_⟩
  · have m_5 := zk_c10_18 hr0 I
    have m_6 := zi_r_w ((1664525 * (g r0 18)) + 1013904223)
    intro g2 e_2
    have I_3 : zk_I g2 := by rw [e_2]; exact zk_upd (zk_lc10_18 hr0).1 (zk_lc10_18 hr0).2 I ⟨by omega, by omega⟩ (zj_w10 hr0)
    have F_4 : zk_fr (fr_World_slips r0) g g2 := by rw [e_2]; exact zk_fu (zk_f0 _) ⟨rfl, rfl⟩
    have m_7 := zk_c10_18 hr0 I_3
    have m_8 : g2 r0 18 = zi_w ((1664525 * (g r0 18)) + 1013904223) := by rw [e_2]; exact zi_u_eq
    have m_9 := zi_ush_f (g2 r0 18) 8
    have m_10 := zi_tmod_f (zi_ush (g2 r0 18) 8) 1000
    have m_11 := zi_tmod_c (zi_ush (g2 r0 18) 8) 1000 (by decide)
    refine ⟨⟨by omega, by omega⟩, ⟨by omega, by omega⟩, ?_⟩
    refine ⟨fun c5 => ?_, fun c5 => ?_⟩
    · exact hQ _ _ I_3 F_4 ⟨by omega, by omega⟩ (by first | exact zYl_a hr0 (by assumption) (by assumption) (by assumption) | exact zYl_b hr0 (by assumption) (by assumption) (by assumption) | exact zYl_c (by assumption) (by assumption) | exact zYl_d (by assumption) (by assumption))
    · exact hQ _ _ I_3 F_4 ⟨by omega, by omega⟩ (by first | exact zYl_a hr0 (by assumption) (by assumption) (by assumption) | exact zYl_b hr0 (by assumption) (by assumption) (by assumption) | exact zYl_c (by assumption) (by assumption) | exact zYl_d (by assumption) (by assumption))
  · refine ⟨⟨by omega, by omega⟩, ?_⟩
    refine ⟨fun c7 => ?_, fun c7 => ?_⟩
    · exact hQ _ _ I (zk_f0 _) ⟨by omega, by omega⟩ (by first | exact zYl_a hr0 (by assumption) (by assumption) (by assumption) | exact zYl_b hr0 (by assumption) (by assumption) (by assumption) | exact zYl_c (by assumption) (by assumption) | exact zYl_d (by assumption) (by assumption))
    · exact hQ _ _ I (zk_f0 _) ⟨by omega, by omega⟩ (by first | exact zYl_a hr0 (by assumption) (by assumption) (by assumption) | exact zYl_b hr0 (by assumption) (by assumption) (by assumption) | exact zYl_c (by assumption) (by assumption) | exact zYl_d (by assumption) (by assumption))
-- SpoutNews$World.fillJarsAt(II)V
set_option maxRecDepth 100000 in
set_option maxHeartbeats 4000000 in
theorem k_World_fillJarsAt_l2 {r0 : Nat} (hr0 : zs_sh r0 = some (10, 20)) {l1 : Int} {l2 : Int} {K36 : zi_M → Prop} {Q : Int → zi_M → Prop} {g0 : zi_M} (q1 : 0 ≤ l1 ∧ l1 ≤ 9) (q2 : 0 ≤ l2 ∧ l2 ≤ 15) (hK36 : ∀ (g : zi_M), zk_I g → zk_fr (fr_World_fillJarsAt r0) g0 g → (zJF r0 l1 l2 g0 g) → K36 g) (hQ : ∀ g' : zi_M, zk_I g' → zk_fr (fr_World_fillJarsAt r0) g0 g' → (zJF r0 l1 l2 g0 g') → Q 0 g') : ∀ (n : Nat) {l3 : Int} {g : zi_M}, zk_I g → zk_fr (fr_World_fillJarsAt r0) g0 g → (0 ≤ l3 ∧ l3 ≤ 6) → (zJI r0 l1 l2 g0 g l3) → 6 - l3 < (n : Int) → w_World_fillJarsAt_l2 r0 l1 l2 K36 Q n l3 g
  | 0, l3, g, I, F, b0, b1, hm => by exfalso; omega
  | n + 1, l3, g, I, F, b0, b1, hm => by
    unfold w_World_fillJarsAt_l2
    refine ⟨⟨by omega, by omega⟩, ?_⟩
    refine ⟨fun c7 => ?_, fun c7 => ?_⟩
    · exact hK36 _ I F (by exact zJI_x (by assumption) (by omega))
    · refine ⟨⟨by omega, by omega⟩, ?_⟩
      have m_1 := zk_a10_10 hr0 I l3
      refine ⟨⟨by omega, by omega⟩, ⟨by omega, by omega⟩, ?_⟩
      refine ⟨fun c6 => ?_, fun c6 => ?_⟩
      · exact k_World_fillJarsAt_l2 hr0 q1 q2 hK36 hQ n I F ⟨by omega, by omega⟩ (by first | exact zJI_n (by assumption) (by omega) (by assumption) (by assumption) | exact zJI_y hr0 (by assumption) (by omega) (by assumption) (by assumption) (by assumption) | exact zJI_0) (by omega)
      · have m_5 := zk_a10_11 hr0 I l3
        have m_6 := zi_r_shl 1 l2
        try have m_7 := (zi_shl_f l2).2.1 ⟨by omega, by omega⟩
        first | have m_8 := (zi_shl_f l2).2.2.1 ⟨by omega, by omega⟩ | have m_9 := (zi_shl_f l2).2.2.2.1 ⟨by omega, by omega⟩ | have m_10 := (zi_shl_f l2).2.2.2.2.1 ⟨by omega, by omega⟩ | have m_11 := (zi_shl_f l2).2.2.2.2.2.1 ⟨by omega, by omega⟩ | have m_12 := (zi_shl_f l2).2.2.2.2.2.2 ⟨by omega, by omega⟩ | skip
        first | have m_13 := (zi_or_f (g (r0 + 11) l3) (zi_shl 1 l2)).2.1 ⟨by omega, by omega, by omega, by omega⟩ | have m_13 := (zi_or_f (g (r0 + 11) l3) (zi_shl 1 l2)).2.2.1 ⟨by omega, by omega, by omega, by omega⟩ | have m_13 := (zi_or_f (g (r0 + 11) l3) (zi_shl 1 l2)).2.2.2.1 ⟨by omega, by omega, by omega, by omega⟩ | have m_13 := (zi_or_f (g (r0 + 11) l3) (zi_shl 1 l2)).2.2.2.2.1 ⟨by omega, by omega, by omega, by omega⟩ | have m_13 := (zi_or_f (g (r0 + 11) l3) (zi_shl 1 l2)).2.2.2.2.2 ⟨by omega, by omega, by omega, by omega⟩ | have m_13 := zi_r_or (g (r0 + 11) l3) (zi_shl 1 l2)
        intro g5 e_2
        have I_3 : zk_I g5 := by rw [e_2]; exact zk_upd (zk_la10_11 hr0).1 (zk_la10_11 hr0).2 I ⟨by omega, by omega⟩ (zj_a10_11 hr0)
        have F_4 : zk_fr (fr_World_fillJarsAt r0) g0 g5 := by rw [e_2]; exact zk_fu F rfl
        exact k_World_fillJarsAt_l2 hr0 q1 q2 hK36 hQ n I_3 F_4 ⟨by omega, by omega⟩ (by first | exact zJI_n (by assumption) (by omega) (by assumption) (by assumption) | exact zJI_y hr0 (by assumption) (by omega) (by assumption) (by assumption) (by assumption) | exact zJI_0) (by omega)
set_option maxRecDepth 100000 in
set_option maxHeartbeats 4000000 in
theorem k_World_fillJarsAt {r0 : Nat} (hr0 : zs_sh r0 = some (10, 20)) {l1 : Int} {l2 : Int} {g : zi_M} {Q : Int → zi_M → Prop} (I : zk_I g) (p1 : 0 ≤ l1 ∧ l1 ≤ 9) (p2 : 0 ≤ l2 ∧ l2 ≤ 15) (hQ : ∀ g' : zi_M, zk_I g' → zk_fr (fr_World_fillJarsAt r0) g g' → (zJF r0 l1 l2 g g') → Q 0 g') : w_World_fillJarsAt r0 l1 l2 g Q := by
  unfold w_World_fillJarsAt
  refine ⟨((6 - 0 : Int).toNat + 1), k_World_fillJarsAt_l2 (l1 := l1) (l2 := l2) hr0 ⟨by omega, by omega⟩ ⟨by omega, by omega⟩ (fun g8 I_14 F_15 b_16 => ?_) hQ ((6 - 0 : Int).toNat + 1) I (zk_f0 _) ⟨by omega, by omega⟩ (by first | exact zJI_n (by assumption) (by omega) (by assumption) (by assumption) | exact zJI_y hr0 (by assumption) (by omega) (by assumption) (by assumption) (by assumption) | exact zJI_0) (by omega)⟩
  exact hQ _ I_14 F_15 (by assumption)
-- SpoutNews$Book.write(LSpoutNews$World;III)V
set_option maxRecDepth 100000 in
set_option maxHeartbeats 4000000 in
theorem k_Book_write {r1 : Nat} (hr1 : zs_sh r1 = some (10, 20)) {l2 : Int} {l3 : Int} {l4 : Int} {g : zi_M} {Q : Int → zi_M → Prop} (I : zk_I g) (p2 : 0 ≤ l2 ∧ l2 ≤ 2) (p3 : 0 ≤ l3 ∧ l3 ≤ 9) (p4 : 0 ≤ l4 ∧ l4 ≤ 15) (hQ : ∀ g' : zi_M, zk_I g' → zk_fr (fr_Book_write r1) g g' → (zBw r1 l2 l3 l4 g g') → Q 0 g') : w_Book_write r1 l2 l3 l4 g Q := by
  unfold w_Book_write
  have m_1 := zk_c10_0 hr1 I
  refine ⟨⟨by omega, by omega⟩, ?_⟩
  refine ⟨fun c10 => ?_, fun c10 => ?_⟩
  · exact hQ _ I (zk_f0 _) (by first | exact zBw_a (by assumption) | exact zBw_b (by assumption) | exact zBw_c hr1 (by assumption) (by assumption) (by omega) (by assumption) (by assumption) (by assumption) (by assumption) (by assumption))
  · have m_2 := zk_c10_19 hr1 I
    refine ⟨⟨by omega, by omega⟩, ?_⟩
    refine ⟨fun c9 => ?_, fun c9 => ?_⟩
    · refine ⟨⟨by omega, by omega⟩, ?_⟩
      have m_6 := zk_c10_17 hr1 I
      intro g4 e_3
      have I_4 : zk_I g4 := by rw [e_3]; exact zk_upd (L := (-2147483648)) (H := 2147483647) rfl rfl I ⟨by omega, by omega⟩
      have F_5 : zk_fr (fr_Book_write r1) g g4 := by rw [e_3]; exact zk_fu (zk_f0 _) (Or.inl rfl)
      intro g5 e_7
      have I_8 : zk_I g5 := by rw [e_7]; exact zk_upd (L := (-2147483648)) (H := 2147483647) rfl rfl I_4 ⟨by omega, by omega⟩
      have F_9 : zk_fr (fr_Book_write r1) g g5 := by rw [e_7]; exact zk_fu F_5 (Or.inr (Or.inl rfl))
      intro g6 e_10
      have I_11 : zk_I g6 := by rw [e_10]; exact zk_upd (L := (-2147483648)) (H := 2147483647) rfl rfl I_8 ⟨by omega, by omega⟩
      have F_12 : zk_fr (fr_Book_write r1) g g6 := by rw [e_10]; exact zk_fu F_9 (Or.inr (Or.inr (Or.inl rfl)))
      intro g7 e_13
      have I_14 : zk_I g7 := by rw [e_13]; exact zk_upd (L := (-2147483648)) (H := 2147483647) rfl rfl I_11 ⟨by omega, by omega⟩
      have F_15 : zk_fr (fr_Book_write r1) g g7 := by rw [e_13]; exact zk_fu F_12 (Or.inr (Or.inr (Or.inr (Or.inl rfl))))
      intro g8 e_16
      have I_17 : zk_I g8 := by rw [e_16]; exact zk_upd (zk_lc10_19 hr1).1 (zk_lc10_19 hr1).2 I_14 ⟨by omega, by omega⟩ (zj_w10 hr1)
      have F_18 : zk_fr (fr_Book_write r1) g g8 := by rw [e_16]; exact zk_fu F_15 (Or.inr (Or.inr (Or.inr (Or.inr ⟨rfl, rfl⟩))))
      exact hQ _ I_17 F_18 (by first | exact zBw_a (by assumption) | exact zBw_b (by assumption) | exact zBw_c hr1 (by assumption) (by assumption) (by omega) (by assumption) (by assumption) (by assumption) (by assumption) (by assumption))
    · exact hQ _ I (zk_f0 _) (by first | exact zBw_a (by assumption) | exact zBw_b (by assumption) | exact zBw_c hr1 (by assumption) (by assumption) (by omega) (by assumption) (by assumption) (by assumption) (by assumption) (by assumption))
-- SpoutNews$Texts.gutterOf(I)I
set_option maxRecDepth 100000 in
set_option maxHeartbeats 4000000 in
theorem k_Texts_gutterOf {l1 : Int} {g : zi_M} {Q : Int → zi_M → Prop} (I : zk_I g) (p1 : (-2147483648) ≤ l1 ∧ l1 ≤ 2147483647) (hQ : ∀ v : Int, (l1 < 0 → v = (-1)) → (0 ≤ l1 → 10 ≤ l1 → v = (-1)) → (0 ≤ l1 → l1 < 10 → v = g 29 l1) → Q v g) : w_Texts_gutterOf l1 g Q := by
  unfold w_Texts_gutterOf
  refine ⟨⟨by omega, by omega⟩, ?_⟩
  refine ⟨fun c4 => ?_, fun c4 => ?_⟩
  · have m_1 : (-1) ≤ (g 29 l1) ∧ (g 29 l1) ≤ 9 := I.1 29 l1
    exact hQ _ (by intros; omega) (by intros; omega) (by intros; omega)
  · refine ⟨fun c3 => ?_, fun c3 => ?_⟩
    · have m_2 : (-1) ≤ (g 29 l1) ∧ (g 29 l1) ≤ 9 := I.1 29 l1
      exact hQ _ (by intros; omega) (by intros; omega) (by intros; omega)
    · refine ⟨⟨by omega, by omega⟩, ?_⟩
      have m_3 : (-1) ≤ (g 29 l1) ∧ (g 29 l1) ≤ 9 := I.1 29 l1
      exact hQ _ (by intros; omega) (by intros; omega) (by intros; omega)
-- SpoutNews$World.dropFirst(I)V
set_option maxRecDepth 100000 in
set_option maxHeartbeats 4000000 in
theorem k_World_dropFirst {r0 : Nat} (hr0 : zs_sh r0 = some (10, 20)) {l1 : Int} {g : zi_M} {Q : Int → zi_M → Prop} (I : zk_I g) (p1 : 0 ≤ l1 ∧ l1 ≤ 9) (hQ : ∀ g' : zi_M, zk_I g' → zk_fr (fr_World_dropFirst r0) g g' → (zDp r0 l1 g g') → Q 0 g') : w_World_dropFirst r0 l1 g Q := by
  unfold w_World_dropFirst
  refine ⟨⟨by omega, by omega⟩, ?_⟩
  have m_1 := zk_a10_6 hr0 I l1
  refine ⟨⟨by omega, by omega⟩, ?_⟩
  refine ⟨fun c6 => ?_, fun c6 => ?_⟩
  · refine ⟨⟨⟨by omega, by omega, by omega⟩, by omega, by omega⟩, ?_⟩
    intro g4 e_2
    have I_3 : zk_I g4 := by rw [e_2]; exact zk_cp (L := 0) (H := 15) (fun i => zk_la10_7 hr0 (i := i)) (fun i => zk_la10_7 hr0 (i := i)) I (zj_a10_7 hr0)
    have F_4 : zk_fr (fr_World_dropFirst r0) g g4 := by rw [e_2]; exact zk_fc (zk_f0 _) (fun i => (Or.inr rfl))
    intro g5 e_5
    have I_6 : zk_I g5 := by rw [e_5]; exact zk_upd (zk_la10_6 hr0).1 (zk_la10_6 hr0).2 I_3 ⟨by omega, by omega⟩ (zj_a10_6 hr0)
    have F_7 : zk_fr (fr_World_dropFirst r0) g g5 := by rw [e_5]; exact zk_fu F_4 (Or.inl rfl)
    exact hQ _ I_6 F_7 (by first | exact zDp_of hr0 (by assumption) (by assumption) (by assumption) (by assumption) (by assumption) | exact zDp_n (by assumption))
  · exact hQ _ I (zk_f0 _) (by first | exact zDp_of hr0 (by assumption) (by assumption) (by assumption) (by assumption) (by assumption) | exact zDp_n (by assumption))
-- SpoutNews$DayRun.sayFirst(LSpoutNews$World;LSpoutNews$Texts;LSpoutNews$Book;I)V
set_option maxRecDepth 100000 in
set_option maxHeartbeats 4000000 in
theorem k_DayRun_sayFirst_b48 {r1 : Nat} (hr1 : zs_sh r1 = some (10, 20)) {l4 : Int} {l5 : Int} {Q : Int → zi_M → Prop} {g : zi_M} {g0 : zi_M} (I : zk_I g) (F : zk_fr (fr_DayRun_sayFirst r1) g0 g) (p4 : 0 ≤ l4 ∧ l4 ≤ 9) (p5 : 0 ≤ l5 ∧ l5 ≤ 15) (ix0 : zYj r1 l4 l5 g0 g) (hQ : ∀ g' : zi_M, zk_I g' → zk_fr (fr_DayRun_sayFirst r1) g0 g' → (zSF r1 l4 g0 g') → Q 0 g') : w_DayRun_sayFirst_b48 r1 l4 l5 g Q := by
  unfold w_DayRun_sayFirst_b48
  have m_21 := zk_c10_15 hr1 I
  have m_22 := zi_r_w ((g r1 15) + 1)
  intro g10 e_18
  have I_19 : zk_I g10 := by rw [e_18]; exact zk_upd (zk_lc10_15 hr1).1 (zk_lc10_15 hr1).2 I ⟨by omega, by omega⟩ (zj_w10 hr1)
  have F_20 : zk_fr (fr_DayRun_sayFirst r1) g0 g10 := by rw [e_18]; exact zk_fu F (Or.inr (Or.inr (Or.inr (Or.inr (Or.inr (Or.inr (Or.inr (Or.inr (Or.inr (Or.inr (Or.inr (Or.inl ⟨rfl, rfl⟩))))))))))))
  refine k_World_fillJarsAt hr1 I_19 ⟨by omega, by omega⟩ ⟨by omega, by omega⟩ (fun g12 I_24 F_25 b_23 => ?_)
  have F_26 : zk_fr (fr_DayRun_sayFirst r1) g0 g12 := zk_ft F_20 F_25 (fun a i => (fun h => (Or.inl h)))
  refine k_Book_write hr1 I_24 ⟨by omega, by omega⟩ ⟨by omega, by omega⟩ ⟨by omega, by omega⟩ (fun g15 I_28 F_29 b_27 => ?_)
  have F_30 : zk_fr (fr_DayRun_sayFirst r1) g0 g15 := zk_ft F_26 F_29 (fun a i => (fun h => Or.elim h (fun h => (Or.inr (Or.inr (Or.inr (Or.inl h))))) (fun h => Or.elim h (fun h => (Or.inr (Or.inr (Or.inr (Or.inr (Or.inl h)))))) (fun h => Or.elim h (fun h => (Or.inr (Or.inr (Or.inr (Or.inr (Or.inr (Or.inl h))))))) (fun h => Or.elim h (fun h => (Or.inr (Or.inr (Or.inr (Or.inr (Or.inr (Or.inr (Or.inr (Or.inr (Or.inl h)))))))))) (fun h => (Or.inr (Or.inr (Or.inr (Or.inr (Or.inr (Or.inr (Or.inr (Or.inr (Or.inr (Or.inr (Or.inr (Or.inr (Or.inr (Or.inr (Or.inl h)))))))))))))))))))))
  have m_34 : (-1) ≤ (g15 29 (l4)) ∧ (g15 29 (l4)) ≤ 9 := I_28.1 29 (l4)
  refine k_Texts_gutterOf I_28 ⟨by omega, by omega⟩ (fun v17 b_31 b_32 b_33 => ?_)
  refine ⟨⟨by omega, by omega⟩, ?_⟩
  refine ⟨fun c37 => ?_, fun c37 => ?_⟩
  · refine k_World_dropFirst hr1 I_28 ⟨by omega, by omega⟩ (fun g22 I_36 F_37 b_35 => ?_)
    have F_38 : zk_fr (fr_DayRun_sayFirst r1) g0 g22 := zk_ft F_30 F_37 (fun a i => (fun h => Or.elim h (fun h => (Or.inr (Or.inl h))) (fun h => (Or.inr (Or.inr (Or.inl h))))))
    exact hQ _ I_36 F_38 (by first | exact zSb_1 hr1 ix0 (by assumption) (by assumption) (by assumption) (by assumption) (by assumption) (by assumption) (by assumption) (by assumption) (Or.inl (by assumption)) (by assumption) | exact zSb_1 hr1 ix0 (by assumption) (by assumption) (by assumption) (by assumption) (by assumption) (by assumption) (by assumption) (by assumption) (Or.inr (by assumption)) (by assumption) | exact zSb_3 hr1 ix0 (by assumption) (by assumption) (by assumption) (by assumption) (by assumption) (by assumption) (by assumption) (by assumption) (by assumption) (by assumption) (by omega) (by assumption) (by assumption) (by assumption) (by assumption))
  · have m_39 : 0 ≤ (g15 177 2) ∧ (g15 177 2) ≤ 90 := I_28.1 177 2
    refine ⟨⟨by omega, by omega⟩, ?_⟩
    refine ⟨fun c36 => ?_, fun c36 => ?_⟩
    · refine k_World_dropFirst hr1 I_28 ⟨by omega, by omega⟩ (fun g26 I_41 F_42 b_40 => ?_)
      have F_43 : zk_fr (fr_DayRun_sayFirst r1) g0 g26 := zk_ft F_30 F_42 (fun a i => (fun h => Or.elim h (fun h => (Or.inr (Or.inl h))) (fun h => (Or.inr (Or.inr (Or.inl h))))))
      exact hQ _ I_41 F_43 (by first | exact zSb_1 hr1 ix0 (by assumption) (by assumption) (by assumption) (by assumption) (by assumption) (by assumption) (by assumption) (by assumption) (Or.inl (by assumption)) (by assumption) | exact zSb_1 hr1 ix0 (by assumption) (by assumption) (by assumption) (by assumption) (by assumption) (by assumption) (by assumption) (by assumption) (Or.inr (by assumption)) (by assumption) | exact zSb_3 hr1 ix0 (by assumption) (by assumption) (by assumption) (by assumption) (by assumption) (by assumption) (by assumption) (by assumption) (by assumption) (by assumption) (by omega) (by assumption) (by assumption) (by assumption) (by assumption))
    · refine ⟨⟨by omega, by omega⟩, ?_⟩
      intro g29 e_44
      have I_45 : zk_I g29 := by rw [e_44]; exact zk_upd (L := 0) (H := 15) rfl rfl I_28 ⟨by omega, by omega⟩
      have F_46 : zk_fr (fr_DayRun_sayFirst r1) g0 g29 := by rw [e_44]; exact zk_fu F_30 (Or.inr (Or.inr (Or.inr (Or.inr (Or.inr (Or.inr (Or.inl rfl)))))))
      have m_50 : 0 ≤ (g29 177 2) ∧ (g29 177 2) ≤ 90 := I_45.1 177 2
      have m_51 : g29 177 2 = g15 177 2 := by rw [e_44]; exact zi_u_ne (by decide)
      refine ⟨⟨by omega, by omega⟩, ?_⟩
      intro g31 e_47
      have I_48 : zk_I g31 := by rw [e_47]; exact zk_upd (L := 0) (H := 9) rfl rfl I_45 ⟨by omega, by omega⟩
      have F_49 : zk_fr (fr_DayRun_sayFirst r1) g0 g31 := by rw [e_47]; exact zk_fu F_46 (Or.inr (Or.inr (Or.inr (Or.inr (Or.inr (Or.inr (Or.inr (Or.inl rfl))))))))
      have m_55 : 0 ≤ (g31 177 2) ∧ (g31 177 2) ≤ 90 := I_48.1 177 2
      have m_56 : g31 177 2 = g29 177 2 := by rw [e_47]; exact zi_u_ne (by decide)
      intro g32 e_52
      have I_53 : zk_I g32 := by rw [e_52]; exact zk_upd (L := 0) (H := 90) rfl rfl I_48 ⟨by omega, by omega⟩
      have F_54 : zk_fr (fr_DayRun_sayFirst r1) g0 g32 := by rw [e_52]; exact zk_fu F_49 (Or.inr (Or.inr (Or.inr (Or.inr (Or.inr (Or.inr (Or.inr (Or.inr (Or.inr (Or.inr (Or.inr (Or.inr (Or.inr (Or.inr (Or.inr ⟨rfl, rfl⟩)))))))))))))))
      refine k_World_dropFirst hr1 I_53 ⟨by omega, by omega⟩ (fun g34 I_58 F_59 b_57 => ?_)
      have F_60 : zk_fr (fr_DayRun_sayFirst r1) g0 g34 := zk_ft F_54 F_59 (fun a i => (fun h => Or.elim h (fun h => (Or.inr (Or.inl h))) (fun h => (Or.inr (Or.inr (Or.inl h))))))
      exact hQ _ I_58 F_60 (by first | exact zSb_1 hr1 ix0 (by assumption) (by assumption) (by assumption) (by assumption) (by assumption) (by assumption) (by assumption) (by assumption) (Or.inl (by assumption)) (by assumption) | exact zSb_1 hr1 ix0 (by assumption) (by assumption) (by assumption) (by assumption) (by assumption) (by assumption) (by assumption) (by assumption) (Or.inr (by assumption)) (by assumption) | exact zSb_3 hr1 ix0 (by assumption) (by assumption) (by assumption) (by assumption) (by assumption) (by assumption) (by assumption) (by assumption) (by assumption) (by assumption) (by omega) (by assumption) (by assumption) (by assumption) (by assumption))
set_option maxRecDepth 100000 in
set_option maxHeartbeats 4000000 in
theorem k_DayRun_sayFirst {r1 : Nat} (hr1 : zs_sh r1 = some (10, 20)) {l4 : Int} {g : zi_M} {Q : Int → zi_M → Prop} (I : zk_I g) (p4 : 0 ≤ l4 ∧ l4 ≤ 9) (hQ : ∀ g' : zi_M, zk_I g' → zk_fr (fr_DayRun_sayFirst r1) g g' → (zSF r1 l4 g g') → Q 0 g') : w_DayRun_sayFirst r1 l4 g Q := by
  unfold w_DayRun_sayFirst
  have m_6 := zk_c10_8 hr1 I
  have m_7 := zk_a10_7 hr1 I ((l4 * 20) + 0)
  refine k_World_wordAt hr1 I ⟨by omega, by omega⟩ ⟨by omega, by omega⟩ (fun v1 b_1 b_2 b_3 b_4 b_5 => ?_)
  try simp only [Nat.reduceAdd] at b_1 b_2 b_3 b_4 b_5
  refine k_Law_tells hr1 I ⟨by omega, by omega⟩ ⟨by omega, by omega⟩ ⟨by omega, by omega⟩ (fun v4 g5 I_10 F_11 b_8 b_9 => ?_)
  have F_12 : zk_fr (fr_DayRun_sayFirst r1) g g5 := zk_ft (zk_f0 _) F_11 (fun a i => (fun h => Or.elim h (fun h => (Or.inr (Or.inr (Or.inr (Or.inr (Or.inr (Or.inr (Or.inr (Or.inr (Or.inr (Or.inl h))))))))))) (fun h => (Or.inr (Or.inr (Or.inr (Or.inr (Or.inr (Or.inr (Or.inr (Or.inr (Or.inr (Or.inr (Or.inl h))))))))))))))
  refine k_World_slips hr1 I_10 ⟨by omega, by omega⟩ (fun v7 g8 I_15 F_16 b_13 b_14 => ?_)
  have F_17 : zk_fr (fr_DayRun_sayFirst r1) g g8 := zk_ft F_12 F_16 (fun a i => (fun h => (Or.inr (Or.inr (Or.inr (Or.inr (Or.inr (Or.inr (Or.inr (Or.inr (Or.inr (Or.inr (Or.inr (Or.inr (Or.inr (Or.inl h))))))))))))))))
  refine ⟨fun c40 => ?_, fun c40 => ?_⟩
  · exact k_DayRun_sayFirst_b48 hr1 I_15 F_17 ⟨by omega, by omega⟩ ⟨by omega, by omega⟩ (by first | exact zYj_a hr1 (by assumption) (by assumption) (by assumption) (by assumption) (by assumption) (by assumption) (by assumption) | exact zYj_b hr1 (by assumption) (by assumption) (by assumption) (by assumption) (by assumption) (by assumption) (by assumption) (by assumption)) hQ
  · refine ⟨⟨by omega, by omega⟩, ?_⟩
    have m_64 := zk_c10_16 hr1 I_15
    have m_65 := zi_r_w ((g8 r1 16) + 1)
    intro g39 e_61
    have I_62 : zk_I g39 := by rw [e_61]; exact zk_upd (zk_lc10_16 hr1).1 (zk_lc10_16 hr1).2 I_15 ⟨by omega, by omega⟩ (zj_w10 hr1)
    have F_63 : zk_fr (fr_DayRun_sayFirst r1) g g39 := by rw [e_61]; exact zk_fu F_17 (Or.inr (Or.inr (Or.inr (Or.inr (Or.inr (Or.inr (Or.inr (Or.inr (Or.inr (Or.inr (Or.inr (Or.inr (Or.inl ⟨rfl, rfl⟩)))))))))))))
    have m_66 := zi_tmod_f (v1 + 1) 16
    have m_67 := zi_tmod_c (v1 + 1) 16 (by decide)
    exact k_DayRun_sayFirst_b48 hr1 I_62 F_63 ⟨by omega, by omega⟩ ⟨by omega, by omega⟩ (by first | exact zYj_a hr1 (by assumption) (by assumption) (by assumption) (by assumption) (by assumption) (by assumption) (by assumption) | exact zYj_b hr1 (by assumption) (by assumption) (by assumption) (by assumption) (by assumption) (by assumption) (by assumption) (by assumption)) hQ
