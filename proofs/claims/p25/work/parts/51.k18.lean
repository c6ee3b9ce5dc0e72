-- by program (wip/gen/mkz.py)
-- SpoutNews$LawReader.settleBinary(LSpoutNews$Law;I)V
theorem k_LawReader_settleBinary_l2 {g0 : zi_M} {l2 : Int} {P0 : List Int} {K45 K82 : zi_M → Prop} {Q : Int → zi_M → Prop} (q2 : l2 = 4 ∨ l2 = 5) (hK : ∀ g, zk_I g → zk_fr fr_LawReader_settleBinary g0 g → zB (zsbP l2 P0) g → (g0 196 2 + ((zsbL l2 P0).length : Int) ≤ 400 → zEa (zsbL l2 P0) g0 g) → K45 g ∧ K82 g) :
    ∀ (P : List Int) (n : Nat) (l3 : Int) (M : List (Int × Int)) (g : zi_M), zk_I g → zk_fr fr_LawReader_settleBinary g0 g → zB P g → zsbP l2 P = zsbP l2 P0 → M ++ zsbL l2 P = zsbL l2 P0 → (g0 196 2 + ((zsbL l2 P0).length : Int) ≤ 400 → zEa M g0 g) → 0 ≤ l3 → l3 + g 212 1 ≤ 40 → P.length < n → w_LawReader_settleBinary_l2 l2 K45 K82 Q n l3 g
  | P, 0, l3, M, g, I, F, h, e, eM, eE, h0, h1, hm => absurd hm (Nat.not_lt_zero _)
  | [], n + 1, l3, M, g, I, F, h, e, eM, eE, h0, h1, hm => by
    have q : g 212 1 = 0 := h.q1
    have eM' : M = zsbL l2 P0 := by rw [← eM]; exact (List.append_nil M).symm
    have hk := (hK g I F (by rw [← e]; exact h) (by rw [← eM']; rw [← eM'] at eE; exact eE)).2
    unfold w_LawReader_settleBinary_l2
    exact ⟨⟨by omega, by omega⟩, fun _ => hk, fun _ => ⟨zk_rng I _ _, fun _ => hk, fun n => by omega⟩⟩
  | x :: t, n + 1, l3, M, g, I, F, h, e, eM, eE, h0, h1, hm => by
    have q := h.q1
    rw [List.length_cons] at q hm
    have b1 : g 212 1 ≤ 40 := (I.1 212 1).2
    have ei : g 212 1 - 1 = (t.length : Int) := by omega
    have hx : g 213 (g 212 1 - 1) = x := by rw [ei]; exact h.ql.1
    have b48 : x = 5 ∨ (x = 4 ∧ l2 = 4) → w_LawReader_settleBinary_b48 l2 l3 (g 213 (g 212 1 - 1)) g (w_LawReader_settleBinary_l2 l2 K45 K82 Q n) K45 K82 Q := by
      intro hx2
      rw [(zsbP_y hx2).1] at e
      rw [(zsbP_y hx2).2] at eM
      have ln : M.length + ((zsbL l2 t).length + 1) = (zsbL l2 P0).length := by rw [← eM, List.length_append, List.length_cons]
      have go : ∀ w : Int, w = (if x = 5 then 10 else 11) → 0 ≤ w ∧ w ≤ 11 → w_Law_add w 0 g (fun _ g7 => (∀ g9, g9 = zi_u g7 212 1 ((g7 212 1) - 1) → w_LawReader_settleBinary_l2 l2 K45 K82 Q n (l3 + 1) g9)) := by
        intro w ew hw
        refine k_Law_add I hw ⟨by decide, by decide⟩ (fun g6 I6 F6 a6 => ?_)
        intro g9 e9
        have c1 : g6 212 1 = g 212 1 := F6 _ _ (by unfold fr_Law_add; omega)
        have c2 : g6 212 2 = g 212 2 := F6 _ _ (by unfold fr_Law_add; omega)
        have c3 : g6 212 3 = g 212 3 := F6 _ _ (by unfold fr_Law_add; omega)
        have z6 := h.c c1 c2 c3 (fun i => F6 _ _ (by unfold fr_Law_add; omega))
        have z9 := z6.b (by omega) e9
        have d1 : g9 212 1 = g 212 1 - 1 := by rw [e9, zi_u_eq, c1]
        have I9 : zk_I g9 := by rw [e9]; exact zk_upd (L := 0) (H := 40) rfl rfl I6 ⟨by omega, by omega⟩
        have F6' : zk_fr fr_LawReader_settleBinary g0 g6 := zk_ft F F6 (fun a i h => h.elim Or.inl (fun h => Or.inr (h.elim Or.inl (fun h => Or.inr (Or.inl h)))))
        have f9 : ∀ (a : Nat) (i : Int), 196 ≤ a → a ≤ 198 → g9 a i = g6 a i := fun a i h1 h2 => by rw [e9, zi_u_ne (by omega)]
        refine k_LawReader_settleBinary_l2 q2 hK t n (l3 + 1) (M ++ [(w, 0)]) g9 I9 (by rw [e9]; exact zk_fu F6' (Or.inr (Or.inr (Or.inr ⟨rfl, rfl⟩)))) z9 e (by rw [List.append_assoc, ew]; exact eM) (fun cap => ?_) (by omega) (by omega) (by omega)
        have E := eE cap
        have n1 := zEa_len E
        exact zEa_t E (zEa_m (a6 (by omega)) f9)
      unfold w_LawReader_settleBinary_b48
      refine ⟨zk_rng I _ _, fun n5 => go 11 ?_ ⟨by decide, by decide⟩, fun e5 => go 10 ?_ ⟨by decide, by decide⟩⟩
      · rw [if_neg (fun q => by omega)]
      · rw [if_pos (by omega)]
    have st : ¬ (x = 5 ∨ (x = 4 ∧ l2 = 4)) → K45 g ∧ K82 g := fun nx => by
      rw [(zsbP_n nx).1] at e
      rw [(zsbP_n nx).2, List.append_nil] at eM
      exact hK g I F (by rw [← e]; exact h) (by rw [← eM]; rw [← eM] at eE; exact eE)
    unfold w_LawReader_settleBinary_l2
    refine ⟨⟨by omega, by omega⟩, fun q => by omega, fun _ => ⟨zk_rng I _ _, fun q => by omega, fun _ => ⟨⟨by omega, by omega⟩, zk_rng I _ _, fun e5 => b48 (by omega), fun n5 => ⟨fun n4 => ?_, fun e4 => ⟨⟨by omega, by omega⟩, fun el => b48 (by omega), fun nl => ?_⟩⟩⟩⟩⟩
    · rw [hx] at n5 n4
      exact (st (by omega)).2
    · rw [hx] at n5
      exact (st (by omega)).1
theorem k_LawReader_settleBinary {l2 : Int} {g : zi_M} {Q : Int → zi_M → Prop} (I : zk_I g) (p2 : (-1) ≤ l2 ∧ l2 ≤ 9999) (px0 : l2 = 4 ∨ l2 = 5) (px1 : ∃ P, zB P g ∧ zl_top P ≠ 6) (hQ : ∀ g' : zi_M, zk_I g' → zk_fr fr_LawReader_settleBinary g g' → (∃ P, zB P g' ∧ zl_top P ≠ 6 ∧ zl_top P ≠ 5 ∧ (l2 = 4 → zl_top P ≠ 4)) → (∀ P : List Int, zB P g → zB (zsbP l2 P) g' ∧ (g 196 2 + ((zsbL l2 P).length : Int) ≤ 400 → zEa (zsbL l2 P) g g')) → Q 0 g') : w_LawReader_settleBinary l2 g Q := by
  unfold w_LawReader_settleBinary
  obtain ⟨P, hP, ht⟩ := px1
  have b1 : g 212 1 ≤ 40 := (I.1 212 1).2
  have hh : ∀ g', zk_I g' → zk_fr fr_LawReader_settleBinary g g' → zB (zsbP l2 P) g' → (g 196 2 + ((zsbL l2 P).length : Int) ≤ 400 → zEa (zsbL l2 P) g g') → Q 0 g' := fun g' I' F' z zE => by
    have tp := zsb_top px0 hP.ok ht
    exact hQ g' I' F' ⟨_, z, tp.1, tp.2.1, tp.2.2⟩ (fun P' h' => by rw [← zB_u hP h']; exact ⟨z, zE⟩)
  exact ⟨P.length + 1, k_LawReader_settleBinary_l2 (g0 := g) (P0 := P) px0 (fun g' I' F' z zE => ⟨hh g' I' F' z zE, hh g' I' F' z zE⟩) P (P.length + 1) 0 [] g I (zk_f0 _) hP rfl rfl (fun _ => zEa_0) (by omega) (by omega) (Nat.lt_succ_self _)⟩

-- SpoutNews$LawReader.closeAll(LSpoutNews$Tokens;LSpoutNews$Law;)V
theorem k_LawReader_closeAll_l7 {g0 gA : zi_M} {PA : List Int} {K : zi_M → Prop} {Q : Int → zi_M → Prop} (hK : ∀ (g : zi_M) (P : List Int) (L : List (Int × Int)) (k : Nat), zk_I g → zk_fr fr_LawReader_closeAll g0 g → zB P g → zl_top P ≠ 6 → (∀ (T : zyT) (t0 : Int), zyC T gA t0 → zyE T → gA 196 2 + (PA.length : Int) ≤ t0 → zyC T g (t0 + (k : Int)) ∧ zEa L gA g ∧ (∀ n : Nat, zCd T (n + k) 0 PA t0 = zpre L (zCd T n 0 P (t0 + (k : Int)))) ∧ g 196 2 + (P.length : Int) ≤ t0 + (k : Int) ∧ ¬ (1 ≤ zl_of 0 0 P ∧ zSg T 41 (t0 + (k : Int)))) → K g) :
    ∀ (n : Nat) (l3 : Int) (P : List Int) (L : List (Int × Int)) (k : Nat) (g : zi_M), zk_I g → zk_fr fr_LawReader_closeAll g0 g → zB P g → zl_top P ≠ 6 → (∀ (T : zyT) (t0 : Int), zyC T gA t0 → zyE T → gA 196 2 + (PA.length : Int) ≤ t0 → zyC T g (t0 + (k : Int)) ∧ zEa L gA g ∧ (∀ n : Nat, zCd T (n + k) 0 PA t0 = zpre L (zCd T n 0 P (t0 + (k : Int)))) ∧ g 196 2 + (P.length : Int) ≤ t0 + (k : Int)) → l3 + zl_of 0 0 P ≤ 8 → 0 ≤ l3 → l3 ≤ 8 → 8 - l3 < (n : Int) → w_LawReader_closeAll_l7 K Q n l3 g
  | 0, l3, P, L, k, g, I, F, h, ht, hS, hp8, h0, h1, hm => by exfalso; omega
  | n + 1, l3, P, L, k, g, I, F, h, ht, hS, hp8, h0, h1, hm => by
    have pr0 := h.pr
    have p00 := zl_of0 0 0 P
    unfold w_LawReader_closeAll_l7
    have hk : (∀ (T : zyT) (t : Int), zyC T g t → ¬ (1 ≤ zl_of 0 0 P ∧ zSg T 41 t)) → K g := fun hn => hK g P L k I F h ht (fun T t0 hC hE hs => by
      obtain ⟨s1, s2, s3, s4⟩ := hS T t0 hC hE hs
      exact ⟨s1, s2, s3, s4, hn T _ s1⟩)
    refine ⟨⟨by omega, by omega⟩, fun _ => hk (fun T t _ w => by have := w.1; omega), fun _ => ⟨zk_rng I _ _, fun _ => hk (fun T t _ w => by have := w.1; omega), fun hp => ?_⟩⟩
    refine k_Tokens_isAt I ⟨by decide, by decide⟩ ⟨by decide, by decide⟩ (fun v6 d1 d2 d3 d4 => ⟨fun z6 => hk (fun T t hC w => zis_n hC d4 z6 w.2), fun n6 => ?_⟩)
    have c1 : 1 ≤ zl_of 0 0 P := by omega
    obtain ⟨t, et⟩ := zsb_0 h.ok ht c1
    refine k_LawReader_settleBinary I ⟨by decide, by decide⟩ (Or.inl rfl) ⟨P, h, ht⟩ (fun g10 I10 F10 hz sb => ?_)
    have z2 := (sb P h).1
    rw [et] at z2
    intro g12 e12 g13 e13 g14 e14
    have z14 := z2.p e12 e13 e14
    have q1 := z2.q1
    rw [List.length_cons] at q1
    have o : g10 212 2 = zl_of 6 0 t + 1 := z2.op
    have p : g10 212 3 = zl_of 0 0 t + 1 := z2.pr
    have o0 := zl_of0 6 0 t
    have p0 := zl_of0 0 0 t
    have r1 : g10 212 1 ≤ 40 := (I10.1 212 1).2
    have r2 : g10 212 2 ≤ 8 := (I10.1 212 2).2
    have r3 : g10 212 3 ≤ 8 := (I10.1 212 3).2
    have a3 : g12 212 3 = g10 212 3 := by rw [e12]; exact zi_u_ni (by decide)
    have a2 : g13 212 2 = g10 212 2 := by rw [e13, zi_u_ni (by decide), e12]; exact zi_u_ni (by decide)
    have I12 : zk_I g12 := by rw [e12]; exact zk_upd (L := 0) (H := 40) rfl rfl I10 ⟨by omega, by omega⟩
    have I13 : zk_I g13 := by rw [e13]; exact zk_upd (L := 0) (H := 8) rfl rfl I12 ⟨by omega, by omega⟩
    have I14 : zk_I g14 := by rw [e14]; exact zk_upd (L := 0) (H := 8) rfl rfl I13 ⟨by omega, by omega⟩
    have G10 : zk_fr fr_LawReader_closeAll g0 g10 := zk_ft F F10 (fun a i h => h.elim Or.inl (fun h => Or.inr (h.elim Or.inl (fun h => Or.inr (Or.inr (h.elim Or.inl (fun h => Or.inr (Or.inl h))))))))
    have G14 : zk_fr fr_LawReader_closeAll g0 g14 := by
      rw [e14, e13, e12]
      exact zk_fu (zk_fu (zk_fu G10 (Or.inr (Or.inr (Or.inr (Or.inr (Or.inl ⟨rfl, rfl⟩)))))) (Or.inr (Or.inr (Or.inr (Or.inr (Or.inr (Or.inr ⟨rfl, rfl⟩))))))) (Or.inr (Or.inr (Or.inr (Or.inr (Or.inr (Or.inl ⟨rfl, rfl⟩))))))
    have f14 : ∀ (a : Nat) (i : Int), 191 ≤ a → a ≤ 198 → g14 a i = g10 a i := fun a i h1 h2 => by rw [e14, zi_u_ne (by omega), e13, zi_u_ne (by omega), e12, zi_u_ne (by omega)]
    have f10 : ∀ (a : Nat) (i : Int), 191 ≤ a → a ≤ 194 → g10 a i = g a i := fun a i h1 h2 => F10 a i (fun q => by unfold fr_LawReader_settleBinary at q; omega)
    refine k_Tokens_step I14 (fun g16 I16 F16 st => ?_)
    have z16 : zB t g16 := z14.c (F16 _ _ (by unfold fr_Tokens_step; omega)) (F16 _ _ (by unfold fr_Tokens_step; omega)) (F16 _ _ (by unfold fr_Tokens_step; omega)) (fun i => F16 _ _ (by unfold fr_Tokens_step; omega))
    have G16 : zk_fr fr_LawReader_closeAll g0 g16 := zk_ft G14 F16 (fun a i h => Or.inr (Or.inr (Or.inl h)))
    have f16 : ∀ (a : Nat) (i : Int), 196 ≤ a → a ≤ 198 → g16 a i = g10 a i := fun a i h1 h2 => by rw [zsf_196 F16 a i h1 h2]; exact f14 a i (by omega) h2
    refine k_LawReader_settleNots I16 ⟨t, z16⟩ (fun g19 I19 F19 hz sn => ?_)
    have z19 := (sn t z16).1
    have f19 : ∀ (a : Nat) (i : Int), 191 ≤ a → a ≤ 194 → g19 a i = g16 a i := fun a i h1 h2 => F19 a i (fun q => by unfold fr_LawReader_settleNots at q; omega)
    have pof : zl_of 0 0 (zsnP t) + 1 = zl_of 0 0 P := by
      rw [zsn_of, ← zsb_of 4 P, et]
      show _ = zl_of 0 0 t + (if (0 : Int) = 0 ∨ (0 : Int) = 0 then 1 else 0)
      rw [if_pos (Or.inl rfl)]
    refine k_LawReader_closeAll_l7 hK n (l3 + 1) (zsnP t) (L ++ (zsbL 4 P ++ zsnL t)) (k + 1) g19 I19 (zk_ft G16 F19 (fun a i h => h.elim Or.inl (fun h => Or.inr (h.elim Or.inl (fun h => Or.inr (Or.inr (h.elim Or.inl (fun h => Or.inr (h.elim Or.inl (fun h => Or.inr (Or.inl h))))))))))) z19 (zsn_t t) (fun T t0 hC hE hs => ?_) (by omega) (by omega) (by omega) (by omega)
    obtain ⟨s1, s2, s3, s4⟩ := hS T t0 hC hE hs
    have y := zis_y s1 d2 d3 n6
    have b := zyC_b s1 hE
    have l1 := zsb_l 4 P
    rw [et, List.length_cons] at l1
    have l2 := zsn_l t
    have E1 := (sb P h).2 (by omega)
    have n1 := zEa_len E1
    have n16 : g16 196 2 = g10 196 2 := f16 196 2 (by decide) (by decide)
    have E2 := (sn t z16).2 (by omega)
    have n2 := zEa_len E2
    have c14 : zyC T g14 (t0 + (k : Int)) := zyC_m s1 (fun a i h1 h2 => by rw [f14 a i h1 (by omega), f10 a i h1 h2])
    have c16 := st T _ c14 hE (by omega)
    rw [show t0 + (k : Int) + 1 = t0 + ((k + 1 : Nat) : Int) by omega] at c16
    refine ⟨zyC_m c16 f19, zEa_t s2 (zEa_t E1 (zEa_s E2 f16)), fun m => ?_, by omega⟩
    rw [show m + (k + 1) = (m + 1) + k by omega, s3 (m + 1), zCd_p (by omega) y, et, zpre_p, show t0 + (k : Int) + 1 = t0 + ((k + 1 : Nat) : Int) by omega]
    rfl
theorem k_LawReader_closeAll {g : zi_M} {Q : Int → zi_M → Prop} (I : zk_I g) (px0 : ∃ P, zB P g) (hQ : ∀ g' : zi_M, zk_I g' → zk_fr fr_LawReader_closeAll g g' → (∃ P, zB P g' ∧ zl_top P ≠ 6) → (∀ (T : zyT) (t : Int) (P : List Int), zyC T g t → zyE T → zB P g → g 196 2 + (P.length : Int) ≤ t → ∃ g2 : zi_M, zEa (zsnL P) g g2 ∧ zclS T (zsnP P) t g2 g') → Q 0 g') : w_LawReader_closeAll g Q := by
  unfold w_LawReader_closeAll
  obtain ⟨P, hP⟩ := px0
  refine k_LawReader_settleNots I ⟨P, hP⟩ (fun g2 I2 F2 hz sn => ?_)
  obtain ⟨z, zE⟩ := sn P hP
  have G2 : zk_fr fr_LawReader_closeAll g g2 := zk_ft (zk_f0 _) F2 (fun a i h => h.elim Or.inl (fun h => Or.inr (h.elim Or.inl (fun h => Or.inr (Or.inr (h.elim Or.inl (fun h => Or.inr (h.elim Or.inl (fun h => Or.inr (Or.inl h)))))))))) 
  have f2 : ∀ (a : Nat) (i : Int), 191 ≤ a → a ≤ 194 → g2 a i = g a i := fun a i h1 h2 => F2 a i (fun q => by unfold fr_LawReader_settleNots at q; omega)
  have r3 : g2 212 3 ≤ 8 := (I2.1 212 3).2
  have pr := z.pr
  refine ⟨9, k_LawReader_closeAll_l7 (gA := g2) (PA := zsnP P) (fun g' P' L k I' F' z' t' hS => hQ g' I' F' ⟨_, z', t'⟩ (fun T t P1 hC hE h1 hs => ?_)) 9 0 (zsnP P) [] 0 g2 I2 G2 z (zsn_t P) (fun T t0 hC hE hs => ?_) (by omega) (by omega) (by omega) (by omega)⟩
  · have e1 := zB_u hP h1
    subst e1
    have b := zyC_b hC hE
    have ln := zsn_l P
    have E := zE (by omega)
    have n1 := zEa_len E
    obtain ⟨s1, s2, s3, s4, s5⟩ := hS T t (zyC_m hC f2) hE (by omega)
    exact ⟨g2, E, P', _, L, k, s1, z', s2, s3, t', s5, rfl, s4⟩
  · have e0 : t0 + ((0 : Nat) : Int) = t0 := by omega
    rw [e0]
    exact ⟨hC, zEa_0, fun n => rfl, hs⟩

-- SpoutNews$LawReader.conditions(LSpoutNews$Tokens;LSpoutNews$Law;)Z
theorem k_LawReader_conditions_l17 {g0 : zi_M} {K41 K65 K97 : zi_M → Prop} {Q : Int → zi_M → Prop} (hK41 : ∀ g, zk_I g → zk_fr fr_LawReader_conditions g0 g → zkF g0 g → K41 g) (hK65 : ∀ g P, zk_I g → zk_fr fr_LawReader_conditions g0 g → zB P g → zl_top P ≠ 6 → zkE P g0 g → K65 g) (hK97 : ∀ g P, zk_I g → zk_fr fr_LawReader_conditions g0 g → zB P g → zl_top P ≠ 6 → zkE P g0 g → K97 g) :
    ∀ (n : Nat) (l3 : Int) (P : List Int) (g : zi_M), zk_I g → zk_fr fr_LawReader_conditions g0 g → zB P g → zl_top P ≠ 6 → zkD l3 P g0 g → 0 ≤ l3 → l3 ≤ 401 → 401 - l3 < (n : Int) → w_LawReader_conditions_l17 K41 K65 K97 Q n l3 g
  | 0, l3, P, g, I, F, h, ht, hD, h0, h1, hm => by exfalso; omega
  | n + 1, l3, P, g, I, F, h, ht, hD, h0, h1, hm => by
    unfold w_LawReader_conditions_l17
    refine ⟨⟨by omega, by omega⟩, fun c => hK97 g P I F h ht (zkD_x hD (by omega)), fun hl => ?_⟩
    have OC : ∀ a i, fr_LawReader_openAll a i → fr_LawReader_conditions a i := by
      intro a i h
      unfold fr_LawReader_openAll at h
      unfold fr_LawReader_conditions
      rcases h with h | h | h | h | h | h | h <;> simp [h]
    have CC : ∀ a i, fr_LawReader_comparison a i → fr_LawReader_conditions a i := by
      intro a i h
      unfold fr_LawReader_comparison at h
      unfold fr_LawReader_conditions
      rcases h with h | h | h | h | h | h <;> simp [h]
    have LC : ∀ a i, fr_LawReader_closeAll a i → fr_LawReader_conditions a i := by
      intro a i h
      unfold fr_LawReader_closeAll at h
      unfold fr_LawReader_conditions
      rcases h with h | h | h | h | h | h | h <;> simp [h]
    have BC : ∀ a i, fr_LawReader_settleBinary a i → fr_LawReader_conditions a i := by
      intro a i h
      unfold fr_LawReader_settleBinary at h
      unfold fr_LawReader_conditions
      rcases h with h | h | h | h <;> simp [h]
    have UC : ∀ a i, fr_LawReader_push a i → fr_LawReader_conditions a i := by
      intro a i h
      unfold fr_LawReader_push at h
      unfold fr_LawReader_conditions
      rcases h with h | h <;> simp [h]
    have SC : ∀ a i, fr_Tokens_step a i → fr_LawReader_conditions a i := by
      intro a i h
      unfold fr_Tokens_step at h
      unfold fr_LawReader_conditions
      simp [h]
    refine k_LawReader_openAll I ⟨P, h⟩ (fun v5 g6 I6 F6 hv5 hz oS => ⟨fun z5 => hK41 g6 I6 (zk_ft F F6 OC) (zk_open hD h oS z5), fun n5 => ?_⟩)
    obtain ⟨P6, z6⟩ := hz n5
    have G6 := zk_ft F F6 OC
    have f6 : ∀ (a : Nat) (i : Int), 196 ≤ a → a ≤ 198 → g6 a i = g a i := fun a i h1 h2 => F6 a i (fun q => by unfold fr_LawReader_openAll at q; omega)
    refine k_LawReader_comparison I6 (fun v8 g9 I9 F9 hv8 cm => ⟨fun n8 => ?_, fun z8 => hK41 g9 I9 (zk_ft G6 F9 CC) (zk_cmp hD h oS n5 f6 z6 cm z8)⟩)
    have z9 : zB P6 g9 := z6.c (F9 _ _ (by unfold fr_LawReader_comparison; omega)) (F9 _ _ (by unfold fr_LawReader_comparison; omega)) (F9 _ _ (by unfold fr_LawReader_comparison; omega)) (fun i => F9 _ _ (by unfold fr_LawReader_comparison; omega))
    have G9 := zk_ft G6 F9 CC
    refine k_LawReader_closeAll I9 ⟨P6, z9⟩ (fun g12 I12 F12 hz cl => ?_)
    obtain ⟨P12, z12, t12⟩ := hz
    have G12 := zk_ft G9 F12 LC
    have hM := zk_mid hD h oS n5 f6 z6 cm n8 z9 cl z12
    have r := I12.1 193 (g12 191 4)
    have r1 : -1 ≤ g12 193 (g12 191 4) := r.1
    have r2 : g12 193 (g12 191 4) ≤ 9999 := r.2
    have b68 : (g12 191 4 < g12 191 3 ∧ g12 192 (g12 191 4) = 2 ∧ (g12 193 (g12 191 4) = 4 ∨ g12 193 (g12 191 4) = 5)) → w_LawReader_conditions_b68 l3 g12 (w_LawReader_conditions_l17 K41 K65 K97 Q n) K41 K65 K97 Q := by
      intro hk
      unfold w_LawReader_conditions_b68
      refine k_Tokens_keyword I12 (fun v18 d1 d2 d3 => ?_)
      have hv := d3 hk.1 hk.2.1
      refine k_LawReader_settleBinary I12 ⟨by omega, by omega⟩ (by omega) ⟨P12, z12, t12⟩ (fun g22 I22 F22 hz sb => ?_)
      obtain ⟨P22', z22', t6', t5', t4'⟩ := hz
      have z22 := (sb P12 z12).1
      have e22 := zB_u z22 z22'
      have t6 : zl_top (zsbP v18 P12) ≠ 6 := by rw [e22]; exact t6'
      have t5 : zl_top (zsbP v18 P12) ≠ 5 := by rw [e22]; exact t5'
      have t4 : v18 = 4 → zl_top (zsbP v18 P12) ≠ 4 := by rw [e22]; exact t4'
      have G22 := zk_ft G12 F22 BC
      have ln := z22.len I22
      have q1 := z22.q1
      refine k_LawReader_push I22 ⟨by omega, by omega⟩ (fun g25 I25 F25 hp => ?_)
      obtain ⟨w1, w2, w3⟩ := hp (by omega)
      have z25 : zB (v18 :: zsbP v18 P12) g25 := by
        refine z22.u ⟨z22.ok, ?_⟩ w1 w2 w3 ?_ ?_
        · by_cases e : v18 = 5
          · exact Or.inr (Or.inr (Or.inl ⟨e, t6, t5⟩))
          · exact Or.inr (Or.inr (Or.inr ⟨by omega, t6, t5, t4 (by omega)⟩))
        · rw [F25 _ _ (by unfold fr_LawReader_push; omega), if_neg (by omega)]; omega
        · rw [F25 _ _ (by unfold fr_LawReader_push; omega), if_neg (by omega)]; omega
      have G25 := zk_ft G22 F25 UC
      have f22 : ∀ (a : Nat) (i : Int), 191 ≤ a → a ≤ 194 → g22 a i = g12 a i := fun a i h1 h2 => F22 a i (fun q => by unfold fr_LawReader_settleBinary at q; omega)
      have f25 : ∀ (a : Nat) (i : Int), 191 ≤ a → a ≤ 198 → g25 a i = g22 a i := fun a i h1 h2 => F25 a i (fun q => by unfold fr_LawReader_push at q; omega)
      refine k_Tokens_step I25 (fun g28 I28 F28 st => ?_)
      refine k_LawReader_conditions_l17 hK41 hK65 hK97 n (l3 + 1) (v18 :: zsbP v18 P12) g28 I28 (zk_ft G25 F28 SC) (z25.c ?_ ?_ ?_ (fun i => ?_)) (show v18 ≠ 6 by omega) (zk_and hM z12 (by omega) d2 d3 sb f22 f25 st F28) (by omega) (by omega) (by omega)
      · exact F28 _ _ (by unfold fr_Tokens_step; omega)
      · exact F28 _ _ (by unfold fr_Tokens_step; omega)
      · exact F28 _ _ (by unfold fr_Tokens_step; omega)
      · exact F28 _ _ (by unfold fr_Tokens_step; omega)
    refine k_Tokens_keyword I12 (fun v14 d1 d2 d3 => ⟨⟨by omega, by omega⟩, fun e5 => b68 (by omega), fun n5 => ?_⟩)
    refine k_Tokens_keyword I12 (fun v30 f1 f2 f3 => ⟨⟨by omega, by omega⟩, fun e4 => b68 (by omega), fun n4 => hK65 g12 P12 I12 G12 z12 t12 (zk_end hM z12 d3 n5 f3 n4)⟩)
theorem k_LawReader_conditions {g : zi_M} {Q : Int → zi_M → Prop} (I : zk_I g) (hQ : ∀ (v : Int) (g' : zi_M), zk_I g' → zk_fr fr_LawReader_conditions g g' → (0 ≤ v ∧ v ≤ 1) → (zcon zCnd v g g') → Q v g') : w_LawReader_conditions g Q := by
  unfold w_LawReader_conditions
  intro g1 e1 g2 e2 g3 e3
  have I1 : zk_I g1 := by rw [e1]; exact zk_upd (L := 0) (H := 40) rfl rfl I ⟨by decide, by decide⟩
  have I2 : zk_I g2 := by rw [e2]; exact zk_upd (L := 0) (H := 8) rfl rfl I1 ⟨by decide, by decide⟩
  have I3 : zk_I g3 := by rw [e3]; exact zk_upd (L := 0) (H := 8) rfl rfl I2 ⟨by decide, by decide⟩
  have w : ∀ k : Int, k = 1 ∨ k = 2 ∨ k = 3 → fr_LawReader_conditions 212 k := by
    intro k hk
    unfold fr_LawReader_conditions
    rcases hk with h | h | h <;> simp [h]
  have F3 : zk_fr fr_LawReader_conditions g g3 := by
    rw [e3, e2, e1]
    exact zk_fu (zk_fu (zk_fu (zk_f0 _) (w 1 (Or.inl rfl))) (w 2 (Or.inr (Or.inl rfl)))) (w 3 (Or.inr (Or.inr rfl)))
  have z3 : zB [] g3 := ⟨by rw [e3, zi_u_ni (by decide), e2, zi_u_ni (by decide), e1, zi_u_eq]; rfl, trivial, trivial, by rw [e3, zi_u_ni (by decide), e2, zi_u_eq]; rfl, by rw [e3, zi_u_eq]; rfl⟩
  have f3 : ∀ (a : Nat) (i : Int), 191 ≤ a → a ≤ 198 → g3 a i = g a i := fun a i h1 h2 => by rw [e3, zi_u_ne (by omega), e2, zi_u_ne (by omega), e1, zi_u_ne (by omega)]
  have b97 : ∀ g' P, zk_I g' → zk_fr fr_LawReader_conditions g g' → zB P g' → zl_top P ≠ 6 → zkE P g g' → w_LawReader_conditions_b97 g' Q := by
    intro g' P I' F' z' t' hE'
    have pr := z'.pr
    have p0 := zl_of0 0 0 P
    unfold w_LawReader_conditions_b97
    refine ⟨zk_rng I' _ _, fun c => ?_, fun c => ?_⟩
    · refine k_LawReader_settleBinary I' ⟨by decide, by decide⟩ (Or.inl rfl) ⟨P, z', t'⟩ (fun g'' I'' F'' _ sb => hQ _ _ I'' (zk_ft F' F'' (fun a i h => ?_)) ⟨by decide, by decide⟩ (zkE_y hE' z' (by omega) sb (fun a i h1 h2 => F'' a i (fun q => by unfold fr_LawReader_settleBinary at q; omega))))
      unfold fr_LawReader_settleBinary at h
      unfold fr_LawReader_conditions
      rcases h with h | h | h | h <;> simp [h]
    · refine k_Tokens_refuse I' ⟨by decide, by decide⟩ (fun v g'' I'' F'' hv rf => hQ _ _ I'' (zk_ft F' F'' (fun a i h => ?_)) ⟨by omega, by omega⟩ (zkE_n hE' (by omega) rf (by omega)))
      unfold fr_Tokens_refuse at h
      unfold fr_LawReader_conditions
      rcases h with h | h <;> simp [h]
  exact ⟨402, k_LawReader_conditions_l17 (fun g' I' F' hF => hQ _ _ I' F' ⟨by decide, by decide⟩ (zkF_c hF)) (fun g' P I' F' z' t' hE' => b97 g' P I' F' z' t' hE') (fun g' P I' F' z' t' hE' => b97 g' P I' F' z' t' hE') 402 0 [] g3 I3 F3 z3 (show (0 : Int) ≠ 6 by decide) (zkD_0 f3) (by omega) (by omega) (by omega)⟩

-- SpoutNews$LawReader.readLaw(LSpoutNews$Tokens;LSpoutNews$Law;)Z
theorem k_LawReader_readLaw_l6 {g0 : zi_M} {K36 K67 K96 K108 K126 : zi_M → Prop} {Q : Int → zi_M → Prop} (hK36 : ∀ g, zk_I g → zk_fr fr_LawReader_readLaw g0 g → (∀ (v : Int) (g1 : zi_M), v = 0 → (∀ (T : zyT) (t : Int), zyC T g t → zyF T g1 1 t) → zLwf v g0 g1) → K36 g) (hK67 : ∀ g, zk_I g → zk_fr fr_LawReader_readLaw g0 g → zLwf 0 g0 g → K67 g) (hK96 : ∀ g, zk_I g → zk_fr fr_LawReader_readLaw g0 g → zLwf 0 g0 g → K96 g) (hK108 : ∀ g, zk_I g → zk_fr fr_LawReader_readLaw g0 g → zLwf 0 g0 g → K108 g) (hK126 : ∀ g, zk_I g → zk_fr fr_LawReader_readLaw g0 g → zLwf 1 g0 g → K126 g) :
    ∀ (n : Nat) (l3 : Int) (g : zi_M), zk_I g → zk_fr fr_LawReader_readLaw g0 g → zLwl l3 g0 g → 0 ≤ l3 → l3 ≤ 17 → 17 - l3 < (n : Int) → w_LawReader_readLaw_l6 K36 K67 K96 K108 K126 Q n l3 g
  | 0, l3, g, I, F, h, h0, h1, hm => by exfalso; omega
  | n + 1, l3, g, I, F, h, h0, h1, hm => by
    unfold w_LawReader_readLaw_l6
    refine ⟨⟨by omega, by omega⟩, fun c => hK126 g I F (zLwl_x h c), fun hl => ?_⟩
    refine k_Tokens_isAtEnd I (fun v5 b0 b1 b2 => ⟨fun n5 => hK126 g I F (zLwl_e h b1 n5), fun z5 => ?_⟩)
    have r := I.1 193 (g 191 4)
    have r1 : -1 ≤ g 193 (g 191 4) := r.1
    have r2 : g 193 (g 191 4) ≤ 9999 := r.2
    refine k_Tokens_keyword I (fun v8 d1 d2 d3 => ⟨⟨by omega, by omega⟩, fun c => hK36 g I F (fun v g1 hv rf => zLwl_1 h b2 z5 d3 (Or.inl c) rf hv), fun c0 => ⟨fun c2 => ?_, fun c => hK36 g I F (fun v g1 hv rf => zLwl_1 h b2 z5 d3 (Or.inr c) rf hv)⟩⟩)
    have TC : ∀ a i, fr_Tokens_takeLineStart a i → fr_LawReader_readLaw a i := (fun a i h => by unfold fr_Tokens_takeLineStart at h; unfold fr_LawReader_readLaw; rcases h with h | h | h <;> simp [h])
    have SC : ∀ a i, fr_LawReader_sum a i → fr_LawReader_readLaw a i := (fun a i h => by unfold fr_LawReader_sum at h; unfold fr_LawReader_readLaw; rcases h with h | h | h | h | h | h <;> simp [h])
    have PC : ∀ a i, fr_Tokens_step a i → fr_LawReader_readLaw a i := (fun a i h => by unfold fr_Tokens_step at h; unfold fr_LawReader_readLaw; simp [h])
    have CC : ∀ a i, fr_LawReader_conditions a i → fr_LawReader_readLaw a i := (fun a i h => by unfold fr_LawReader_conditions at h; unfold fr_LawReader_readLaw; rcases h with h | h | h | h | h | h | h | h | h | h <;> simp [h])
    have KC : ∀ a i, fr_Tokens_take a i → fr_LawReader_readLaw a i := (fun a i h => by unfold fr_Tokens_take at h; unfold fr_LawReader_readLaw; rcases h with h | h | h <;> simp [h])
    have AC : ∀ a i, fr_Law_addLine a i → fr_LawReader_readLaw a i := (fun a i h => by unfold fr_Law_addLine at h; unfold fr_LawReader_readLaw; rcases h with h | h | h | h | h <;> simp [h])
    refine k_Tokens_takeLineStart I ⟨by omega, by omega⟩ ⟨by omega, by omega⟩ (fun v12 g13 I13 F13 hv12 tk => ⟨fun z12 => hK67 g13 I13 (zk_ft F F13 TC) (zLwl_t h d2 d3 c0 c2 tk z12), fun n12 => ?_⟩)
    have G13 := zk_ft F F13 TC
    refine k_LawReader_sum I13 (fun v15 g16 I16 F16 hv15 su => ⟨fun n15 => ?_, fun z15 => hK67 g16 I16 (zk_ft G13 F16 SC) (zLwl_s h d2 d3 c0 c2 tk F13 n12 su z15)⟩)
    have G16 := zk_ft G13 F16 SC
    have ra : 0 ≤ g 196 2 ∧ g 196 2 ≤ 400 := I.1 196 2
    have rb : 0 ≤ g16 196 2 ∧ g16 196 2 ≤ 400 := I16.1 196 2
    have b98 : ∀ g19, zk_I g19 → zk_fr fr_LawReader_readLaw g0 g19 → zLwj l3 v8 (g 196 2) (g16 196 2) g0 g19 → w_LawReader_readLaw_b98 l3 v8 (g 196 2) (g16 196 2) g19 (w_LawReader_readLaw_l6 K36 K67 K96 K108 K126 Q n) K36 K67 K96 K108 K126 Q := by
      intro g19 I19 F19 j
      unfold w_LawReader_readLaw_b98
      refine k_Tokens_take I19 ⟨by decide, by decide⟩ ⟨by decide, by decide⟩ (fun v22 g23 I23 F23 hv22 tk2 => ⟨fun n22 => ?_, fun z22 => hK108 g23 I23 (zk_ft F19 F23 KC) (zLwj_f j tk2 z22)⟩)
      refine k_Law_addLine I23 ⟨by omega, by omega⟩ ⟨by omega, by omega⟩ ⟨by omega, by omega⟩ (fun g26 I26 F26 al => ?_)
      exact k_LawReader_readLaw_l6 hK36 hK67 hK96 hK108 hK126 n (l3 + 1) g26 I26 (zk_ft (zk_ft F19 F23 KC) F26 AC) (zLwj_y j tk2 F23 n22 al F26) (by omega) (by omega) (by omega)
    have s16 := I16.1 193 (g16 191 4)
    have s1 : -1 ≤ g16 193 (g16 191 4) := s16.1
    have s2 : g16 193 (g16 191 4) ≤ 9999 := s16.2
    refine k_Tokens_keyword I16 (fun v18 w1 w2 w3 => ⟨⟨by omega, by omega⟩, fun n18 => b98 g16 I16 G16 (zLwj_1 h d2 d3 c0 c2 tk F13 n12 su F16 n15 w3 n18), fun e18 => ?_⟩)
    refine k_Tokens_step I16 (fun g30 I30 F30 st => ?_)
    refine k_LawReader_conditions I30 (fun v32 g33 I33 F33 hv32 cd => ?_)
    have G33 := zk_ft (zk_ft G16 F30 PC) F33 CC
    have X := zLwj_2 h d2 d3 c0 c2 tk F13 n12 su F16 n15 w2 w3 e18 st F30 cd F33
    exact ⟨fun n32 => b98 g33 I33 G33 (X.1 n32), fun z32 => hK96 g33 I33 G33 (X.2 z32)⟩
theorem k_LawReader_readLaw {g : zi_M} {Q : Int → zi_M → Prop} (I : zk_I g) (hQ : ∀ (v : Int) (g' : zi_M), zk_I g' → zk_fr fr_LawReader_readLaw g g' → (0 ≤ v ∧ v ≤ 1) → (zLwf v g g') → Q v g') : w_LawReader_readLaw g Q := by
  unfold w_LawReader_readLaw
  refine k_Law_clear I (fun g2 I2 F2 e2 e7 => ?_)
  have f2 : ∀ (a : Nat) (i : Int), 191 ≤ a → a ≤ 194 → g2 a i = g a i := fun a i h1 h2 => F2 a i (fun q => by unfold fr_Law_clear at q; omega)
  have LC : ∀ a i, fr_Law_clear a i → fr_LawReader_readLaw a i := (fun a i h => by unfold fr_Law_clear at h; unfold fr_LawReader_readLaw; rcases h with h | h <;> simp [h])
  have RC : ∀ a i, fr_Tokens_refuse a i → fr_LawReader_readLaw a i := (fun a i h => by unfold fr_Tokens_refuse at h; unfold fr_LawReader_readLaw; rcases h with h | h <;> simp [h])
  refine ⟨18, k_LawReader_readLaw_l6 (fun g' I' F' hr => ?_) (fun g' I' F' hf => hQ _ _ I' F' ⟨by decide, by decide⟩ hf) (fun g' I' F' hf => hQ _ _ I' F' ⟨by decide, by decide⟩ hf) (fun g' I' F' hf => hQ _ _ I' F' ⟨by decide, by decide⟩ hf) (fun g' I' F' hf => hQ _ _ I' F' ⟨by decide, by decide⟩ hf) 18 0 g2 I2 (zk_ft (zk_f0 _) F2 LC) (zLwl_0 f2 e2 e7) (by decide) (by decide) (by decide)⟩
  refine k_Tokens_refuse I' ⟨by decide, by decide⟩ (fun v g'' I'' F'' hv rf => hQ _ _ I'' (zk_ft F' F'' RC) ⟨by omega, by omega⟩ (hr v g'' (by omega) rf))

