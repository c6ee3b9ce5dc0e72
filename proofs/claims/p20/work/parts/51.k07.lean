-- by program (wip/gen/mkz.py)
-- SpoutNews$Tokens.add(III)V
set_option maxRecDepth 100000 in
set_option maxHeartbeats 4000000 in
theorem k_Tokens_add {l1 : Int} {l2 : Int} {l3 : Int} {g : zi_M} {Q : Int → zi_M → Prop} (I : zk_I g) (p1 : 0 ≤ l1 ∧ l1 ≤ 4) (p2 : (-1) ≤ l2 ∧ l2 ≤ 9999) (p3 : 0 ≤ l3 ∧ l3 ≤ 400) (hQ : ∀ g' : zi_M, zk_I g' → zk_fr fr_Tokens_add g g' → (g 191 3 ≤ 400 → g' 191 3 = g 191 3 + 1) → (g 191 3 ≤ 400 → g' 192 = zup (g 192) (g 191 3) l1 ∧ g' 193 = zup (g 193) (g 191 3) l2 ∧ g' 194 = zup (g 194) (g 191 3) l3) → Q 0 g') : w_Tokens_add l1 l2 l3 g Q := by
  unfold w_Tokens_add
  have m_1 : 0 ≤ (g 191 3) ∧ (g 191 3) ≤ 401 := I.1 191 3
  refine ⟨⟨by omega, by omega⟩, ?_⟩
  refine ⟨fun c9 => ?_, fun c9 => ?_⟩
  · exact hQ _ I (zk_f0 _) (by omega) (by intro hv; first | (exfalso; omega) | exact zadd_l (by assumption) (by assumption) (by assumption) (by assumption))
  · refine ⟨⟨by omega, by omega⟩, ?_⟩
    intro g3 e_2
    have I_3 : zk_I g3 := by rw [e_2]; exact zk_upd (L := 0) (H := 4) rfl rfl I ⟨by omega, by omega⟩
    have F_4 : zk_fr fr_Tokens_add g g3 := by rw [e_2]; exact zk_fu (zk_f0 _) (Or.inl rfl)
    have m_8 : 0 ≤ (g3 191 3) ∧ (g3 191 3) ≤ 401 := I_3.1 191 3
    have m_9 : g3 191 3 = g 191 3 := by rw [e_2]; exact zi_u_ne (by decide)
    refine ⟨⟨by omega, by omega⟩, ?_⟩
    intro g5 e_5
    have I_6 : zk_I g5 := by rw [e_5]; exact zk_upd (L := (-1)) (H := 9999) rfl rfl I_3 ⟨by omega, by omega⟩
    have F_7 : zk_fr fr_Tokens_add g g5 := by rw [e_5]; exact zk_fu F_4 (Or.inr (Or.inl rfl))
    have m_13 : 0 ≤ (g5 191 3) ∧ (g5 191 3) ≤ 401 := I_6.1 191 3
    have m_14 : g5 191 3 = g3 191 3 := by rw [e_5]; exact zi_u_ne (by decide)
    refine ⟨⟨by omega, by omega⟩, ?_⟩
    intro g7 e_10
    have I_11 : zk_I g7 := by rw [e_10]; exact zk_upd (L := 0) (H := 400) rfl rfl I_6 ⟨by omega, by omega⟩
    have F_12 : zk_fr fr_Tokens_add g g7 := by rw [e_10]; exact zk_fu F_7 (Or.inr (Or.inr (Or.inl rfl)))
    have m_18 : 0 ≤ (g7 191 3) ∧ (g7 191 3) ≤ 401 := I_11.1 191 3
    have m_19 : g7 191 3 = g5 191 3 := by rw [e_10]; exact zi_u_ne (by decide)
    intro g8 e_15
    have I_16 : zk_I g8 := by rw [e_15]; exact zk_upd (L := 0) (H := 401) rfl rfl I_11 ⟨by omega, by omega⟩
    have F_17 : zk_fr fr_Tokens_add g g8 := by rw [e_15]; exact zk_fu F_12 (Or.inr (Or.inr (Or.inr ⟨rfl, rfl⟩)))
    have m_20 : 0 ≤ (g8 191 3) ∧ (g8 191 3) ≤ 401 := I_16.1 191 3
    have m_21 : g8 191 3 = (g7 191 3) + 1 := by rw [e_15]; exact zi_u_eq
    exact hQ _ I_16 F_17 (by omega) (by intro hv; first | (exfalso; omega) | exact zadd_l (by assumption) (by assumption) (by assumption) (by assumption))
-- SpoutNews$Tokens.numberAt([III)I
set_option maxRecDepth 100000 in
set_option maxHeartbeats 4000000 in
theorem k_Tokens_numberAt_l5 {g : zi_M} (I : zk_I g) {l1 : Int} {l2 : Int} {K29 : zi_M → Prop} {K50 : Int → zi_M → Prop} {Q : Int → zi_M → Prop} (q1 : 0 ≤ l1 ∧ l1 ≤ 399) (q2 : 1 ≤ l2 ∧ l2 ≤ 400) (hK29 : (∀ b : Int, zrn zdt (g 190) l2 l1 b → 5 ≤ b - l1) → K29 g) (hK50 : ∀ (k3 : Int), (0 ≤ k3 ∧ k3 ≤ 9999) → (∀ b : Int, zrn zdt (g 190) l2 l1 b → b - l1 < 5 ∧ k3 = zdec (g 190) l1 (b - l1).toNat) → K50 k3 g) (hQ : ∀ v : Int, ((-1) ≤ v ∧ v ≤ 9999) → (∀ b : Int, zrn zdt (g 190) l2 l1 b → (b - l1 < 5 → v = zdec (g 190) l1 (b - l1).toNat) ∧ (5 ≤ b - l1 → v = -1)) → Q v g) : ∀ (n : Nat) {l3 : Int} {l4 : Int}, (0 ≤ l3 ∧ l3 ≤ 9999) → (0 ≤ l4 ∧ l4 ≤ 400) → (l1 ≤ l4) → (l4 ≤ l1 + 4) → (l4 = l1 → l3 = 0) → (l4 = l1 + 1 → l3 ≤ 9) → (l4 = l1 + 2 → l3 ≤ 99) → (l4 = l1 + 3 → l3 ≤ 999) → (l4 ≤ l2 ∨ l4 = l1) → (∀ j : Int, l1 ≤ j → j < l4 → zdt (g 190 j)) → (l3 = zdec (g 190) l1 (l4 - l1).toNat) → 400 - l4 < (n : Int) → w_Tokens_numberAt_l5 l1 l2 K29 K50 Q n l3 l4 g
  | 0, l3, l4, b0, b1, b2, b3, b4, b5, b6, b7, b8, b9, b10, hm => by exfalso; omega
  | n + 1, l3, l4, b0, b1, b2, b3, b4, b5, b6, b7, b8, b9, b10, hm => by
    unfold w_Tokens_numberAt_l5
    refine ⟨⟨by omega, by omega⟩, ⟨by omega, by omega⟩, ?_⟩
    refine ⟨fun c10 => ?_, fun c10 => ?_⟩
    · exact hK50 _ ⟨by omega, by omega⟩ (by exact znm_e b9 b10 (by omega) (by omega) (by omega) (by first | exact Or.inl (by omega) | exact Or.inr (by unfold zdt; omega)))
    · refine ⟨⟨by omega, by omega⟩, ?_⟩
      have m_1 : 0 ≤ (g 190 l4) ∧ (g 190 l4) ≤ 255 := I.1 190 l4
      refine k_Tokens_isDigit I ⟨by omega, by omega⟩ (fun v4 b_2 b_3 b_4 => ?_)
      refine ⟨fun c9 => ?_, fun c9 => ?_⟩
      · exact hK50 _ ⟨by omega, by omega⟩ (by exact znm_e b9 b10 (by omega) (by omega) (by omega) (by first | exact Or.inl (by omega) | exact Or.inr (by unfold zdt; omega)))
      · refine ⟨⟨by omega, by omega⟩, ?_⟩
        refine ⟨fun c8 => ?_, fun c8 => ?_⟩
        · exact k_Tokens_numberAt_l5 I q1 q2 hK29 hK50 hQ n ⟨by omega, by omega⟩ ⟨by omega, by omega⟩ (by omega) (by omega) (by omega) (by omega) (by omega) (by omega) (by omega) (by first | exact zal_j b9 (by unfold zdt; omega) | (intro j h0 h1; exfalso; omega)) (by first | exact zdec_s b10 (by omega) | exact zdec_i (by omega)) (by omega)
        · exact hK29 (by exact znm_b b9 (by unfold zdt; omega) (by omega) (by omega))
set_option maxRecDepth 100000 in
set_option maxHeartbeats 4000000 in
theorem k_Tokens_numberAt {l1 : Int} {l2 : Int} {g : zi_M} {Q : Int → zi_M → Prop} (I : zk_I g) (p1 : 0 ≤ l1 ∧ l1 ≤ 399) (p2 : 1 ≤ l2 ∧ l2 ≤ 400) (hQ : ∀ v : Int, ((-1) ≤ v ∧ v ≤ 9999) → (∀ b : Int, zrn zdt (g 190) l2 l1 b → (b - l1 < 5 → v = zdec (g 190) l1 (b - l1).toNat) ∧ (5 ≤ b - l1 → v = -1)) → Q v g) : w_Tokens_numberAt l1 l2 g Q := by
  unfold w_Tokens_numberAt
  refine ⟨((400 - l1 : Int).toNat + 1), k_Tokens_numberAt_l5 (l1 := l1) (l2 := l2) I ⟨by omega, by omega⟩ ⟨by omega, by omega⟩ (fun b_5 => ?_) (fun k12 b_6 b_7 => ?_) hQ ((400 - l1 : Int).toNat + 1) ⟨by omega, by omega⟩ ⟨by omega, by omega⟩ (by omega) (by omega) (by omega) (by omega) (by omega) (by omega) (by omega) (by first | exact zal_j b9 (by unfold zdt; omega) | (intro j h0 h1; exfalso; omega)) (by first | exact zdec_s b10 (by omega) | exact zdec_i (by omega)) (by omega)⟩
  · exact hQ _ ⟨by omega, by omega⟩ (by intro b hb; first | exact znm_x (by apply_assumption; assumption) | exact znm_y (by apply_assumption; assumption))
  · exact hQ _ ⟨by omega, by omega⟩ (by intro b hb; first | exact znm_x (by apply_assumption; assumption) | exact znm_y (by apply_assumption; assumption))
-- SpoutNews$Tokens.sameLetters([IILjava/lang/String;II)Z
set_option maxRecDepth 100000 in
set_option maxHeartbeats 4000000 in
theorem k_Tokens_sameLetters_l3 {g : zi_M} {r2 : Nat} (hr2 : zs_str r2) (I : zk_I g) {l1 : Int} {l3 : Int} {l4 : Int} {K27 : zi_M → Prop} {K35 : zi_M → Prop} {Q : Int → zi_M → Prop} (q1 : 0 ≤ l1 ∧ l1 ≤ 399) (q3 : 0 ≤ l3 ∧ l3 ≤ 80) (q4 : 0 ≤ l4 ∧ l4 ≤ 80) (hK27 : (¬ zSl (g 190) r2 l1 l3 l4) → K27 g) (hK35 : (zSl (g 190) r2 l1 l3 l4) → K35 g) (hQ : ∀ v : Int, (0 ≤ v ∧ v ≤ 1) → (zSl (g 190) r2 l1 l3 l4 → v = 1) → (¬ v = 0 → zSl (g 190) r2 l1 l3 l4) → Q v g) : ∀ (n : Nat) {l5 : Int}, (0 ≤ l5 ∧ l5 ≤ 80) → (l1 + l4 - l3 ≤ 400) → (l4 ≤ zs_sl r2) → (l3 ≤ l5) → (zSl (g 190) r2 l1 l3 l5) → 80 - l5 < (n : Int) → w_Tokens_sameLetters_l3 r2 l1 l3 l4 K27 K35 Q n l5 g
  | 0, l5, b0, b1, b2, b3, b4, hm => by exfalso; omega
  | n + 1, l5, b0, b1, b2, b3, b4, hm => by
    unfold w_Tokens_sameLetters_l3
    refine ⟨⟨by omega, by omega⟩, ⟨by omega, by omega⟩, ?_⟩
    refine ⟨fun c7 => ?_, fun c7 => ?_⟩
    · exact hK35 (by exact zSl_x b4 (by omega))
    · refine ⟨⟨by omega, by omega⟩, ?_⟩
      have m_1 := zs_slb hr2
      refine ⟨⟨by omega, by omega⟩, ?_⟩
      have m_2 : 0 ≤ (g 190 ((l1 + l5) - l3)) ∧ (g 190 ((l1 + l5) - l3)) ≤ 255 := I.1 190 ((l1 + l5) - l3)
      refine ⟨⟨by omega, by omega⟩, ?_⟩
      have m_3 := zs_scb r2 l5
      refine ⟨fun c6 => ?_, fun c6 => ?_⟩
      · exact k_Tokens_sameLetters_l3 hr2 I q1 q3 q4 hK27 hK35 hQ n ⟨by omega, by omega⟩ (by omega) (by omega) (by omega) (by first | exact zSl_s b4 (by assumption) | exact zSl_0) (by omega)
      · exact hK27 (by exact zSl_n (by omega) (by omega) (by assumption))
set_option maxRecDepth 100000 in
set_option maxHeartbeats 4000000 in
theorem k_Tokens_sameLetters {r2 : Nat} (hr2 : zs_str r2) {l1 : Int} {l3 : Int} {l4 : Int} {g : zi_M} {Q : Int → zi_M → Prop} (I : zk_I g) (p1 : 0 ≤ l1 ∧ l1 ≤ 399) (p3 : 0 ≤ l3 ∧ l3 ≤ 80) (p4 : 0 ≤ l4 ∧ l4 ≤ 80) (px0 : l1 + l4 - l3 ≤ 400) (px1 : l4 ≤ zs_sl r2) (px2 : l3 ≤ l4) (hQ : ∀ v : Int, (0 ≤ v ∧ v ≤ 1) → (zSl (g 190) r2 l1 l3 l4 → v = 1) → (¬ v = 0 → zSl (g 190) r2 l1 l3 l4) → Q v g) : w_Tokens_sameLetters r2 l1 l3 l4 g Q := by
  unfold w_Tokens_sameLetters
  refine ⟨((80 - l3 : Int).toNat + 1), k_Tokens_sameLetters_l3 (l1 := l1) (l3 := l3) (l4 := l4) hr2 I ⟨by omega, by omega⟩ ⟨by omega, by omega⟩ ⟨by omega, by omega⟩ (fun b_4 => ?_) (fun b_5 => ?_) hQ ((80 - l3 : Int).toNat + 1) ⟨by omega, by omega⟩ (by omega) (by omega) (by omega) (by first | exact zSl_s b4 (by assumption) | exact zSl_0) (by omega)⟩
  · exact hQ _ ⟨by omega, by omega⟩ (by intro hv; first | rfl | exact absurd hv (by assumption)) (by intro hv; first | assumption | (exfalso; omega))
  · exact hQ _ ⟨by omega, by omega⟩ (by intro hv; first | rfl | exact absurd hv (by assumption)) (by intro hv; first | assumption | (exfalso; omega))
-- SpoutNews$Tokens.keywordAt([IIILjava/lang/String;)I
theorem k_Tokens_keywordAt_b74 {r3 : Nat} (hr3 : zs_str r3) {l1 l2 l4 l5 l6 s0 : Int} {g : zi_M} {H : Int → Int → Int → zi_M → Prop} {K94 : Int → zi_M → Prop} {K112 : zi_M → Prop} {Q : Int → zi_M → Prop} (I : zk_I g) (q1 : 0 ≤ l1 ∧ l1 ≤ 399) (q2 : 1 ≤ l2 ∧ l2 ≤ 400) (qs : 0 ≤ s0 ∧ s0 ≤ 1) (hv : zKv r3 (g 190) l1 l2 l4 l5 l6) (hl : l5 ≤ zs_sl r3) (hw : l6 = zs_sl r3 ∨ (l6 < zs_sl r3 ∧ zs_sc r3 l6 = 32)) (h0 : s0 = 0 → ∀ b : Int, zrn zlt (g 190) l2 l1 b → ¬ b = l1 + l6 - l5) (h1 : ¬ s0 = 0 → l1 + l6 - l5 ≤ l2 ∧ (l1 + l6 - l5 < l2 → ¬ zlt (g 190 (l1 + l6 - l5)))) (hH : zKv r3 (g 190) l1 l2 (l4 + 1) (l6 + 1) (l6 + 1) → H (l4 + 1) (l6 + 1) (l6 + 1) g) (hK : 0 ≤ l4 → l4 ≤ 81 → (∀ b : Int, zrn zlt (g 190) l2 l1 b → zKw r3 (g 190) l1 b l4) → K94 l4 g) : w_Tokens_keywordAt_b74 r3 l1 l2 l4 l5 l6 s0 g H K94 K112 Q := by
  have hb := zs_slb hr3
  have ks := zKv_w hv hw hl
  have a1 := hv.1
  have a2 := hv.2.1
  unfold w_Tokens_keywordAt_b74
  refine ⟨⟨by omega, by omega⟩, fun e => hH (zKv_n hv hl hw (fun b hb' m => h0 e b hb' (zKm_s m).2)), fun ne => ?_⟩
  have w := h1 ne
  refine k_Tokens_sameLetters hr3 I q1 ⟨by omega, by omega⟩ ⟨by omega, by omega⟩ (by omega) (by omega) (by omega) (fun v5 b1 c1 c2 => ⟨fun e => hH (zKv_n hv hl hw (fun b hb' m => ?_)), fun ne2 => ?_⟩)
  · have := c1 (zKm_s m).1
    omega
  · have sl := c2 ne2
    have z := zKm_r hr3 ks sl w.1 w.2
    refine hK a2.1 (by omega) (fun b hb' => ?_)
    rw [zrn_u hb' z.1]
    exact ⟨l5, l6, ks, (hv.2.2.1 hl).1.symm, z.2⟩
theorem k_Tokens_keywordAt_b38 {r3 : Nat} (hr3 : zs_str r3) {l1 l2 l4 l5 l6 : Int} {g : zi_M} {H : Int → Int → Int → zi_M → Prop} {K94 : Int → zi_M → Prop} {K112 : zi_M → Prop} {Q : Int → zi_M → Prop} (I : zk_I g) (q1 : 0 ≤ l1 ∧ l1 ≤ 399) (q2 : 1 ≤ l2 ∧ l2 ≤ 400) (hv : zKv r3 (g 190) l1 l2 l4 l5 l6) (hl : l5 ≤ zs_sl r3) (hw : l6 = zs_sl r3 ∨ (l6 < zs_sl r3 ∧ zs_sc r3 l6 = 32)) (hH : zKv r3 (g 190) l1 l2 (l4 + 1) (l6 + 1) (l6 + 1) → H (l4 + 1) (l6 + 1) (l6 + 1) g) (hK : 0 ≤ l4 → l4 ≤ 81 → (∀ b : Int, zrn zlt (g 190) l2 l1 b → zKw r3 (g 190) l1 b l4) → K94 l4 g) : w_Tokens_keywordAt_b38 r3 l1 l2 l4 l5 l6 g H K94 K112 Q := by
  have hb := zs_slb hr3
  have a1 := hv.1
  have r2 : 0 ≤ g 190 (l1 + l6 - l5) ∧ g 190 (l1 + l6 - l5) ≤ 255 := I.1 190 _
  unfold w_Tokens_keywordAt_b38
  refine ⟨⟨by omega, by omega⟩, ⟨by omega, by omega⟩, fun e => ?_, fun ne => ⟨fun ge => ?_, fun lt => ⟨⟨by omega, by omega⟩, ?_⟩⟩⟩
  · exact k_Tokens_keywordAt_b74 hr3 I q1 q2 (by decide) hv hl hw (fun e => absurd e (by decide)) (fun _ => ⟨by omega, fun w => by omega⟩) hH hK
  · exact k_Tokens_keywordAt_b74 hr3 I q1 q2 (by decide) hv hl hw (fun _ b hb' e => by have := hb'.1; omega) (fun n => absurd rfl n) hH hK
  · refine k_Tokens_isLetter I ⟨by omega, by omega⟩ (fun v c1 c2 c3 c4 c5 c6 c7 c8 c9 => ⟨fun n => ?_, fun e => ?_⟩)
    · exact k_Tokens_keywordAt_b74 hr3 I q1 q2 (by decide) hv hl hw (fun _ b hb' e => by
        have w := hb'.2.2 (by omega)
        rw [e] at w
        exact n (c9 w)) (fun n => absurd rfl n) hH hK
    · exact k_Tokens_keywordAt_b74 hr3 I q1 q2 (by decide) hv hl hw (fun e => absurd e (by decide)) (fun _ => ⟨by omega, fun _ w => by have := c8 w; omega⟩) hH hK
theorem k_Tokens_keywordAt_l9 {r3 : Nat} (hr3 : zs_str r3) {l1 l2 : Int} {g : zi_M} {K94 : Int → zi_M → Prop} {K112 : zi_M → Prop} {Q : Int → zi_M → Prop} (I : zk_I g) (q1 : 0 ≤ l1 ∧ l1 ≤ 399) (q2 : 1 ≤ l2 ∧ l2 ≤ 400) (hK : ∀ k : Int, 0 ≤ k → k ≤ 81 → (∀ b : Int, zrn zlt (g 190) l2 l1 b → zKw r3 (g 190) l1 b k) → K94 k g) (hN : (∀ b : Int, zrn zlt (g 190) l2 l1 b → ∀ j : Int, ¬ zKw r3 (g 190) l1 b j) → K112 g) :
    ∀ (m : Nat) (l4 l5 l6 : Int), zKv r3 (g 190) l1 l2 l4 l5 l6 → zs_sl r3 + 1 - l6 < (m : Int) → w_Tokens_keywordAt_l9 r3 l1 l2 K94 K112 Q m l4 l5 l6 g
  | 0, l4, l5, l6, hv, hm => by
    have := hv.1
    exfalso; omega
  | m + 1, l4, l5, l6, hv, hm => by
    have hb := zs_slb hr3
    have a1 := hv.1
    unfold w_Tokens_keywordAt_l9
    refine ⟨⟨by omega, by omega⟩, fun c => hN (fun b hb' j k => ?_), fun c => ⟨fun e => ?_, fun ne => ⟨⟨by omega, by omega⟩, fun n32 => ?_, fun e32 => ?_⟩⟩⟩
    · obtain ⟨st, sp, k1, k2, k3⟩ := k
      exact hv.2.2.2.2 b hb' st sp k1 (by have := k1.1; omega) k3
    · exact k_Tokens_keywordAt_b38 hr3 I q1 q2 hv (by omega) (Or.inl e) (fun h => k_Tokens_keywordAt_l9 hr3 I q1 q2 hK hN m _ _ _ h (by omega)) (hK l4)
    · exact k_Tokens_keywordAt_l9 hr3 I q1 q2 hK hN m _ _ _ (zKv_ch hv (by omega) n32) (by omega)
    · exact k_Tokens_keywordAt_b38 hr3 I q1 q2 hv (by omega) (Or.inr ⟨by omega, e32⟩) (fun h => k_Tokens_keywordAt_l9 hr3 I q1 q2 hK hN m _ _ _ h (by omega)) (hK l4)
theorem k_Tokens_keywordAt {r3 : Nat} (hr3 : zs_str r3) {l1 : Int} {l2 : Int} {g : zi_M} {Q : Int → zi_M → Prop} (I : zk_I g) (p1 : 0 ≤ l1 ∧ l1 ≤ 399) (p2 : 1 ≤ l2 ∧ l2 ≤ 400) (hQ : ∀ v : Int, ((-1) ≤ v ∧ v ≤ 81) → (0 ≤ v → ∀ b : Int, zrn zlt (g 190) l2 l1 b → zKw r3 (g 190) l1 b v) → (v = -1 → ∀ b : Int, zrn zlt (g 190) l2 l1 b → ∀ j : Int, ¬ zKw r3 (g 190) l1 b j) → Q v g) : w_Tokens_keywordAt r3 l1 l2 g Q := by
  have hb := zs_slb hr3
  unfold w_Tokens_keywordAt
  exact ⟨80, k_Tokens_keywordAt_l9 hr3 I p1 p2 (fun k k0 k1 h => hQ k ⟨by omega, by omega⟩ (fun _ => h) (fun e => by omega)) (fun h => hQ (-1) ⟨by omega, by omega⟩ (fun e => by omega) (fun _ => h)) 80 0 0 0 (zKv_0 (by omega)) (by omega)⟩

-- SpoutNews$Tokens.split([IILjava/lang/String;)V
/-- what the loop of split keeps -/
noncomputable def zSv (r : Nat) (g0 : zi_M) (n i : Int) (g : zi_M) : Prop := (zk_I g ∧ zk_fr (fr_Tokens_split r) g0 g) ∧ (0 ≤ g 191 3 ∧ g 191 3 ≤ i) ∧ (g 191 4 = 0 ∧ g 191 5 = 0 ∧ g 191 6 = -1) ∧ zSi r (g0 190) n (g 192) (g 193) (g 194) (g 191 3) i
theorem zSv_no {r : Nat} {g0 g : zi_M} {n i : Int} (h : zSv r g0 n i g) (hn : ¬ zSt (g0 190) i) : zSv r g0 n (i + 1) g := ⟨h.1, ⟨h.2.1.1, by have := h.2.1.2; omega⟩, h.2.2.1, zSi_no h.2.2.2 hn⟩
theorem zSv_add {r : Nat} {g0 g g' : zi_M} {n i kd vl : Int} (h : zSv r g0 n i g) (hi : 0 ≤ i) (hs : zSt (g0 190) i) (hk : zCk r (g0 190) n i kd vl) (I' : zk_I g') (F' : zk_fr fr_Tokens_add g g') (hc : g' 191 3 = g 191 3 + 1) (hr : g' 192 = zup (g 192) (g 191 3) kd ∧ g' 193 = zup (g 193) (g 191 3) vl ∧ g' 194 = zup (g 194) (g 191 3) i) : zSv r g0 n (i + 1) g' := by
  obtain ⟨⟨I, F⟩, h2, h3, h4⟩ := h
  refine ⟨⟨I', zk_ft F F' (fun a i h => by unfold fr_Tokens_add at h; unfold fr_Tokens_split; omega)⟩, ⟨by omega, by omega⟩, ?_, ?_⟩
  · rw [F' 191 4 (by unfold fr_Tokens_add; omega), F' 191 5 (by unfold fr_Tokens_add; omega), F' 191 6 (by unfold fr_Tokens_add; omega)]
    exact h3
  · rw [hr.1, hr.2.1, hr.2.2, hc]
    exact zSi_add h4 h2.1 hi hs hk
theorem k_Tokens_split_b67 {r3 : Nat} (hr3 : zs_str r3) {l2 l4 s0 : Int} {g0 g : zi_M} {H : Int → zi_M → Prop} {K209 : zi_M → Prop} {Q : Int → zi_M → Prop} (q2 : 1 ≤ l2 ∧ l2 ≤ 400) (q4 : 0 ≤ l4 ∧ l4 < l2) (qs : 0 ≤ s0 ∧ s0 ≤ 1) (hv : zSv r3 g0 l2 l4 g) (hg : s0 = 0 → ¬ (0 < l4 ∧ ((zlt (g0 190 l4) ∧ zlt (g0 190 (l4 - 1))) ∨ (zdt (g0 190 l4) ∧ zdt (g0 190 (l4 - 1)))))) (hg1 : ¬ s0 = 0 → ¬ zSt (g0 190) l4) (hH : ∀ g', zSv r3 g0 l2 (l4 + 1) g' → H (l4 + 1) g') : w_Tokens_split_b67 r3 l2 l4 s0 g H K209 Q := by
  have I := hv.1.1
  have F := hv.1.2
  have c4 := hv.2.1
  have ef : g 190 = g0 190 := funext (fun i => F 190 i (by unfold fr_Tokens_split; omega))
  have r2 : 0 ≤ g 190 l4 ∧ g 190 l4 ≤ 255 := I.1 190 l4
  have add : ∀ kd vl : Int, 0 ≤ kd → kd ≤ 4 → -1 ≤ vl → vl ≤ 9999 → ¬ zbk (g0 190 l4) → s0 = 0 → zCk r3 (g0 190) l2 l4 kd vl → w_Tokens_add kd vl l4 g (fun _ g19 => H (l4 + 1) g19) := by
    intro kd vl k0 k1 v0 v1 nb es ck
    exact k_Tokens_add I ⟨k0, k1⟩ ⟨v0, v1⟩ ⟨by omega, by omega⟩ (fun g' I' F' h1 h2 => hH g' (zSv_add hv q4.1 ⟨nb, hg es⟩ ck I' F' (h1 (by omega)) (h2 (by omega))))
  unfold w_Tokens_split_b67
  refine ⟨⟨by omega, by omega⟩, fun n0 => hH g (zSv_no hv (hg1 n0)), fun e0 => ⟨⟨by omega, by omega⟩, ⟨by omega, by omega⟩, fun e32 => hH g (zSv_no hv (fun z => z.1 (Or.inl (by rw [← ef]; exact e32)))), fun n32 => ⟨fun n10 => ?_, fun e10 => hH g (zSv_no hv (fun z => z.1 (Or.inr (by rw [← ef]; exact e10))))⟩⟩⟩
  have nb : ¬ zbk (g0 190 l4) := fun z => by
    rw [← ef] at z
    unfold zbk at z
    omega
  refine k_Tokens_isLetter I ⟨by omega, by omega⟩ (fun v9 a1 a2 a3 a4 a5 a6 a7 a8 a9 => ⟨fun e9 => ?_, fun n9 => ?_⟩)
  · have nl : ¬ zlt (g0 190 l4) := fun z => by rw [← ef] at z; have := a8 z; omega
    refine k_Tokens_isDigit I ⟨by omega, by omega⟩ (fun v12 b1 b2 b3 => ⟨fun e12 => ?_, fun n12 => ?_⟩)
    · have nd : ¬ zdt (g0 190 l4) := fun z => by rw [← ef] at z; unfold zdt at z; omega
      refine k_Tokens_isSignOfLaw I ⟨by omega, by omega⟩ (fun v15 => ?_)
      intros
      rename_i y1 y2
      refine ⟨fun e15 => ?_, fun n15 => ?_⟩
      · exact add 0 (g 190 l4) (by decide) (by decide) (by omega) (by omega) nb e0 (Or.inr (Or.inr ⟨nl, nd, Or.inr ⟨rfl, fun z => by rw [← ef] at z; have := y1 z; omega⟩⟩))
      · exact add 3 (g 190 l4) (by decide) (by decide) (by omega) (by omega) nb e0 (Or.inr (Or.inr ⟨nl, nd, Or.inl ⟨rfl, by rw [← ef]; exact Classical.byContradiction (fun z => n15 (y2 z)), by rw [ef]⟩⟩))
    · have dg : zdt (g0 190 l4) := by rw [← ef]; unfold zdt; omega
      refine k_Tokens_numberAt I ⟨by omega, by omega⟩ ⟨by omega, by omega⟩ (fun v25 c1 c2 => ⟨⟨by omega, by omega⟩, fun n25 => ?_, fun e25 => ?_⟩)
      · obtain ⟨b, hb⟩ := zrn_ex (P := zdt) (f := g0 190) (n := l2) (a := l4) q4.2 dg
        have h := c2 b (by rw [ef]; exact hb)
        refine add 1 v25 (by decide) (by decide) (by omega) (by omega) nb e0 (Or.inr (Or.inl ⟨dg, b, hb, ?_⟩))
        by_cases q : b - l4 < 5
        · have := h.1 q
          rw [ef] at this
          exact Or.inl ⟨rfl, q, this⟩
        · exact absurd (h.2 (by omega)) n25
      · obtain ⟨b, hb⟩ := zrn_ex (P := zdt) (f := g0 190) (n := l2) (a := l4) q4.2 dg
        have h := c2 b (by rw [ef]; exact hb)
        refine add 0 v25 (by decide) (by decide) (by omega) (by omega) nb e0 (Or.inr (Or.inl ⟨dg, b, hb, Or.inr ⟨rfl, ?_⟩⟩))
        by_cases q : b - l4 < 5
        · have h1 := h.1 q
          have := zdec_0 (f := g 190) (n := l2) (a := l4) (b := b) (by rw [ef]; exact hb)
          omega
        · omega
  · have lt : zlt (g0 190 l4) := by rw [← ef]; exact Classical.byContradiction (fun z => n9 (a9 z))
    obtain ⟨b, hb⟩ := zrn_ex (P := zlt) (f := g0 190) (n := l2) (a := l4) q4.2 lt
    refine k_Tokens_keywordAt hr3 I ⟨by omega, by omega⟩ ⟨by omega, by omega⟩ (fun v37 c1 c2 c3 => ⟨⟨by omega, by omega⟩, fun n37 => ?_, fun e37 => ?_⟩)
    · have h := c2 (by omega) b (by rw [ef]; exact hb)
      rw [ef] at h
      exact add 2 v37 (by decide) (by decide) (by omega) (by omega) nb e0 (Or.inl ⟨lt, b, hb, Or.inl ⟨rfl, h⟩⟩)
    · have h := c3 e37 b (by rw [ef]; exact hb)
      rw [ef] at h
      exact add 0 v37 (by decide) (by decide) (by omega) (by omega) nb e0 (Or.inl ⟨lt, b, hb, Or.inr ⟨rfl, h⟩⟩)
theorem k_Tokens_split_b40 {r3 : Nat} (hr3 : zs_str r3) {l2 l4 : Int} {g0 g : zi_M} {H : Int → zi_M → Prop} {K209 : zi_M → Prop} {Q : Int → zi_M → Prop} (q2 : 1 ≤ l2 ∧ l2 ≤ 400) (q4 : 0 < l4 ∧ l4 < l2) (hv : zSv r3 g0 l2 l4 g) (hl : ¬ (zlt (g0 190 l4) ∧ zlt (g0 190 (l4 - 1)))) (hH : ∀ g', zSv r3 g0 l2 (l4 + 1) g' → H (l4 + 1) g') : w_Tokens_split_b40 r3 l2 l4 g H K209 Q := by
  have I := hv.1.1
  have ef : g 190 = g0 190 := funext (fun i => hv.1.2 190 i (by unfold fr_Tokens_split; omega))
  have r2 : 0 ≤ g 190 l4 ∧ g 190 l4 ≤ 255 := I.1 190 l4
  have r3' : 0 ≤ g 190 (l4 - 1) ∧ g 190 (l4 - 1) ≤ 255 := I.1 190 (l4 - 1)
  unfold w_Tokens_split_b40
  refine ⟨⟨by omega, by omega⟩, k_Tokens_isDigit I ⟨by omega, by omega⟩ (fun v57 a1 a2 a3 => ⟨fun e => ?_, fun ne => ⟨⟨by omega, by omega⟩, k_Tokens_isDigit I ⟨by omega, by omega⟩ (fun v61 b1 b2 b3 => ⟨fun e => ?_, fun ne2 => ?_⟩)⟩⟩)⟩
  · refine k_Tokens_split_b67 hr3 q2 ⟨by omega, q4.2⟩ (by decide) hv (fun _ w => ?_) (fun n => absurd rfl n) hH
    rcases w.2 with w | w
    · exact hl w
    · have := w.1
      rw [← ef] at this
      unfold zdt at this
      omega
  · refine k_Tokens_split_b67 hr3 q2 ⟨by omega, q4.2⟩ (by decide) hv (fun _ w => ?_) (fun n => absurd rfl n) hH
    rcases w.2 with w | w
    · exact hl w
    · have := w.2
      rw [← ef] at this
      unfold zdt at this
      omega
  · refine k_Tokens_split_b67 hr3 q2 ⟨by omega, q4.2⟩ (by decide) hv (fun e => absurd e (by decide)) (fun _ z => z.2 ⟨q4.1, Or.inr ⟨?_, ?_⟩⟩) hH
    · rw [← ef]; unfold zdt; omega
    · rw [← ef]; unfold zdt; omega
theorem k_Tokens_split_l7 {r3 : Nat} (hr3 : zs_str r3) {l2 : Int} {g0 : zi_M} {K209 : zi_M → Prop} {Q : Int → zi_M → Prop} (q2 : 0 ≤ l2 ∧ l2 ≤ 400) (hK : ∀ g, zSv r3 g0 l2 l2 g → K209 g) : ∀ (m : Nat) (l4 : Int) (g : zi_M), 0 ≤ l4 → l4 ≤ l2 → zSv r3 g0 l2 l4 g → l2 - l4 < (m : Int) → w_Tokens_split_l7 r3 l2 K209 Q m l4 g
  | 0, l4, g, h0, h1, hv, hm => by exfalso; omega
  | m + 1, l4, g, h0, h1, hv, hm => by
    have I := hv.1.1
    have ef : g 190 = g0 190 := funext (fun i => hv.1.2 190 i (by unfold fr_Tokens_split; omega))
    have r2 : 0 ≤ g 190 l4 ∧ g 190 l4 ≤ 255 := I.1 190 l4
    have r3' : 0 ≤ g 190 (l4 - 1) ∧ g 190 (l4 - 1) ≤ 255 := I.1 190 (l4 - 1)
    unfold w_Tokens_split_l7
    refine ⟨⟨by omega, by omega⟩, ⟨by omega, by omega⟩, fun c => hK g (by rw [show l2 = l4 by omega] at hv ⊢; exact hv), fun c => ?_⟩
    have hH : ∀ g', zSv r3 g0 l2 (l4 + 1) g' → w_Tokens_split_l7 r3 l2 K209 Q m (l4 + 1) g' := fun g' hv' => k_Tokens_split_l7 hr3 q2 hK m (l4 + 1) g' (by omega) (by omega) hv' (by omega)
    refine ⟨fun z => k_Tokens_split_b67 hr3 ⟨by omega, q2.2⟩ ⟨h0, c⟩ (by decide) hv (fun _ w => by have := w.1; omega) (fun n => absurd rfl n) hH, fun z => ⟨⟨by omega, by omega⟩, ?_⟩⟩
    refine k_Tokens_isLetter I ⟨by omega, by omega⟩ (fun v53 a1 a2 a3 a4 a5 a6 a7 a8 a9 => ⟨fun e => ?_, fun ne => ⟨⟨by omega, by omega⟩, ?_⟩⟩)
    · exact k_Tokens_split_b40 hr3 ⟨by omega, q2.2⟩ ⟨z, c⟩ hv (fun w => by have := w.1; rw [← ef] at this; have := a8 this; omega) hH
    · refine k_Tokens_isLetter I ⟨by omega, by omega⟩ (fun v67 b1 b2 b3 b4 b5 b6 b7 b8 b9 => ⟨fun ne2 => ?_, fun e => ?_⟩)
      · refine k_Tokens_split_b67 hr3 ⟨by omega, q2.2⟩ ⟨h0, c⟩ (by decide) hv (fun e => absurd e (by decide)) (fun _ w => w.2 ⟨z, Or.inl ⟨?_, ?_⟩⟩) hH
        · rw [← ef]; exact Classical.byContradiction (fun w => ne (a9 w))
        · rw [← ef]; exact Classical.byContradiction (fun w => ne2 (b9 w))
      · exact k_Tokens_split_b40 hr3 ⟨by omega, q2.2⟩ ⟨z, c⟩ hv (fun w => by have := w.2; rw [← ef] at this; have := b8 this; omega) hH
theorem k_Tokens_split {r3 : Nat} (hr3 : zs_str r3) {l2 : Int} {g : zi_M} {Q : Int → zi_M → Prop} (I : zk_I g) (p2 : 0 ≤ l2 ∧ l2 ≤ 400) (hQ : ∀ g' : zi_M, zk_I g' → zk_fr (fr_Tokens_split r3) g g' → (zSp r3 (g 190) l2 (g' 192) (g' 193) (g' 194) (g' 191 3)) → (g' 191 4 = 0 ∧ g' 191 5 = 0 ∧ g' 191 6 = -1 ∧ g' 191 3 ≤ 401) → Q 0 g') : w_Tokens_split r3 l2 g Q := by
  unfold w_Tokens_split
  refine k_Tokens_clear I (fun g2 I2 F2 h1 h2 h3 h4 => ?_)
  have ef : g2 190 = g 190 := funext (fun i => F2 190 i (by unfold fr_Tokens_clear; omega))
  refine ⟨401, k_Tokens_split_l7 hr3 (g0 := g) p2 (fun g74 hv => ?_) 401 0 g2 (Int.le_refl _) p2.1 ⟨⟨I2, zk_ft (zk_f0 _) F2 (fun a i h => by unfold fr_Tokens_clear at h; unfold fr_Tokens_split; omega)⟩, ⟨by omega, by omega⟩, ⟨h2, h3, h4⟩, by rw [h1]; exact zSi_0⟩ (by omega)⟩
  have c4 := hv.2.1
  refine k_Tokens_add hv.1.1 (by decide) (by decide) p2 (fun g76 I76 F76 x1 x2 => ?_)
  have y2 := x2 (by omega)
  have y1 := x1 (by omega)
  refine hQ g76 I76 (zk_ft hv.1.2 F76 (fun a i h => by unfold fr_Tokens_add at h; unfold fr_Tokens_split; omega)) ?_ ?_
  · rw [y2.1, y2.2.1, y2.2.2, y1]
    exact zSp_of hv.2.2.2 c4.1
  · rw [F76 191 4 (by unfold fr_Tokens_add; omega), F76 191 5 (by unfold fr_Tokens_add; omega), F76 191 6 (by unfold fr_Tokens_add; omega)]
    exact ⟨hv.2.2.1.1, hv.2.2.1.2.1, hv.2.2.1.2.2, by omega⟩

-- SpoutNews$Law.clear()V
set_option maxRecDepth 100000 in
set_option maxHeartbeats 4000000 in
theorem k_Law_clear {g : zi_M} {Q : Int → zi_M → Prop} (I : zk_I g) (hQ : ∀ g' : zi_M, zk_I g' → zk_fr fr_Law_clear g g' → Q 0 g') : w_Law_clear g Q := by
  unfold w_Law_clear
  intro g1 e_1
  have I_2 : zk_I g1 := by rw [e_1]; exact zk_upd (L := 0) (H := 400) rfl rfl I ⟨by omega, by omega⟩
  have F_3 : zk_fr fr_Law_clear g g1 := by rw [e_1]; exact zk_fu (zk_f0 _) (Or.inl ⟨rfl, rfl⟩)
  intro g2 e_4
  have I_5 : zk_I g2 := by rw [e_4]; exact zk_upd (L := 0) (H := 16) rfl rfl I_2 ⟨by omega, by omega⟩
  have F_6 : zk_fr fr_Law_clear g g2 := by rw [e_4]; exact zk_fu F_3 (Or.inr ⟨rfl, rfl⟩)
  exact hQ _ I_5 F_6
-- SpoutNews$Tokens.isAtEnd()Z
set_option maxRecDepth 100000 in
set_option maxHeartbeats 4000000 in
theorem k_Tokens_isAtEnd {g : zi_M} {Q : Int → zi_M → Prop} (I : zk_I g) (hQ : ∀ v : Int, ((g 191 3) ≤ (g 191 4) → v = 1) → ((g 191 4) < (g 191 3) → ¬ (g 192 (g 191 4)) = 4 → v = 0) → ((g 191 4) < (g 191 3) → (g 192 (g 191 4)) = 4 → v = 1) → Q v g) : w_Tokens_isAtEnd g Q := by
  unfold w_Tokens_isAtEnd
  have m_1 : 0 ≤ (g 191 4) ∧ (g 191 4) ≤ 401 := I.1 191 4
  have m_2 : 0 ≤ (g 191 3) ∧ (g 191 3) ≤ 401 := I.1 191 3
  refine ⟨⟨by omega, by omega⟩, ⟨by omega, by omega⟩, ?_⟩
  refine ⟨fun c6 => ?_, fun c6 => ?_⟩
  · have m_3 : 0 ≤ (g 192 (g 191 4)) ∧ (g 192 (g 191 4)) ≤ 4 := I.1 192 (g 191 4)
    exact hQ _ (by intros; omega) (by intros; omega) (by intros; omega)
  · refine ⟨⟨by omega, by omega⟩, ?_⟩
    have m_4 : 0 ≤ (g 192 (g 191 4)) ∧ (g 192 (g 191 4)) ≤ 4 := I.1 192 (g 191 4)
    refine ⟨⟨by omega, by omega⟩, ?_⟩
    refine ⟨fun c5 => ?_, fun c5 => ?_⟩
    · exact hQ _ (by intros; omega) (by intros; omega) (by intros; omega)
    · exact hQ _ (by intros; omega) (by intros; omega) (by intros; omega)
-- SpoutNews$Tokens.keyword()I
set_option maxRecDepth 100000 in
set_option maxHeartbeats 4000000 in
theorem k_Tokens_keyword {g : zi_M} {Q : Int → zi_M → Prop} (I : zk_I g) (hQ : ∀ v : Int, ((g 191 3) ≤ (g 191 4) → v = (-1)) → ((g 191 4) < (g 191 3) → ¬ (g 192 (g 191 4)) = 2 → v = (-1)) → ((g 191 4) < (g 191 3) → (g 192 (g 191 4)) = 2 → v = g 193 (g 191 4)) → Q v g) : w_Tokens_keyword g Q := by
  unfold w_Tokens_keyword
  have m_1 : 0 ≤ (g 191 4) ∧ (g 191 4) ≤ 401 := I.1 191 4
  have m_2 : 0 ≤ (g 191 3) ∧ (g 191 3) ≤ 401 := I.1 191 3
  refine ⟨⟨by omega, by omega⟩, ⟨by omega, by omega⟩, ?_⟩
  refine ⟨fun c6 => ?_, fun c6 => ?_⟩
  · have m_3 : 0 ≤ (g 192 (g 191 4)) ∧ (g 192 (g 191 4)) ≤ 4 := I.1 192 (g 191 4)
    have m_4 : (-1) ≤ (g 193 (g 191 4)) ∧ (g 193 (g 191 4)) ≤ 9999 := I.1 193 (g 191 4)
    exact hQ _ (by intros; omega) (by intros; omega) (by intros; omega)
  · refine ⟨⟨by omega, by omega⟩, ?_⟩
    have m_5 : 0 ≤ (g 192 (g 191 4)) ∧ (g 192 (g 191 4)) ≤ 4 := I.1 192 (g 191 4)
    refine ⟨⟨by omega, by omega⟩, ?_⟩
    refine ⟨fun c5 => ?_, fun c5 => ?_⟩
    · have m_6 : (-1) ≤ (g 193 (g 191 4)) ∧ (g 193 (g 191 4)) ≤ 9999 := I.1 193 (g 191 4)
      exact hQ _ (by intros; omega) (by intros; omega) (by intros; omega)
    · have m_7 : (-1) ≤ (g 193 (g 191 4)) ∧ (g 193 (g 191 4)) ≤ 9999 := I.1 193 (g 191 4)
      exact hQ _ (by intros; omega) (by intros; omega) (by intros; omega)
-- SpoutNews$Tokens.isAt(II)Z
set_option maxRecDepth 100000 in
set_option maxHeartbeats 4000000 in
theorem k_Tokens_isAt {l1 : Int} {l2 : Int} {g : zi_M} {Q : Int → zi_M → Prop} (I : zk_I g) (p1 : 2 ≤ l1 ∧ l1 ≤ 3) (p2 : 0 ≤ l2 ∧ l2 ≤ 62) (hQ : ∀ v : Int, ((g 191 3) ≤ (g 191 4) → v = 0) → ((g 191 4) < (g 191 3) → ¬ (g 192 (g 191 4)) = l1 → v = 0) → ((g 191 4) < (g 191 3) → (g 192 (g 191 4)) = l1 → ¬ (g 193 (g 191 4)) = l2 → v = 0) → ((g 191 4) < (g 191 3) → (g 192 (g 191 4)) = l1 → (g 193 (g 191 4)) = l2 → v = 1) → Q v g) : w_Tokens_isAt l1 l2 g Q := by
  unfold w_Tokens_isAt
  have m_1 : 0 ≤ (g 191 4) ∧ (g 191 4) ≤ 401 := I.1 191 4
  have m_2 : 0 ≤ (g 191 3) ∧ (g 191 3) ≤ 401 := I.1 191 3
  refine ⟨⟨by omega, by omega⟩, ⟨by omega, by omega⟩, ?_⟩
  refine ⟨fun c10 => ?_, fun c10 => ?_⟩
  · have m_3 : 0 ≤ (g 192 (g 191 4)) ∧ (g 192 (g 191 4)) ≤ 4 := I.1 192 (g 191 4)
    have m_4 : (-1) ≤ (g 193 (g 191 4)) ∧ (g 193 (g 191 4)) ≤ 9999 := I.1 193 (g 191 4)
    exact hQ _ (by intros; omega) (by intros; omega) (by intros; omega) (by intros; omega)
  · refine ⟨⟨by omega, by omega⟩, ?_⟩
    have m_5 : 0 ≤ (g 192 (g 191 4)) ∧ (g 192 (g 191 4)) ≤ 4 := I.1 192 (g 191 4)
    refine ⟨⟨by omega, by omega⟩, ⟨by omega, by omega⟩, ?_⟩
    refine ⟨fun c9 => ?_, fun c9 => ?_⟩
    · have m_6 : (-1) ≤ (g 193 (g 191 4)) ∧ (g 193 (g 191 4)) ≤ 9999 := I.1 193 (g 191 4)
      exact hQ _ (by intros; omega) (by intros; omega) (by intros; omega) (by intros; omega)
    · have m_7 : (-1) ≤ (g 193 (g 191 4)) ∧ (g 193 (g 191 4)) ≤ 9999 := I.1 193 (g 191 4)
      refine ⟨⟨by omega, by omega⟩, ⟨by omega, by omega⟩, ?_⟩
      refine ⟨fun c8 => ?_, fun c8 => ?_⟩
      · exact hQ _ (by intros; omega) (by intros; omega) (by intros; omega) (by intros; omega)
      · exact hQ _ (by intros; omega) (by intros; omega) (by intros; omega) (by intros; omega)
-- SpoutNews$Tokens.step()V
theorem k_Tokens_step {g : zi_M} {Q : Int → zi_M → Prop} (I : zk_I g) (hQ : ∀ g' : zi_M, zk_I g' → zk_fr fr_Tokens_step g g' → (∀ (T : zyT) (t : Int), zyC T g t → zyE T → ¬ T.1 t = 4 → zyC T g' (t + 1)) → Q 0 g') : w_Tokens_step g Q := by
  unfold w_Tokens_step
  have b4 : 0 ≤ g 191 4 ∧ g 191 4 ≤ 401 := I.1 191 4
  have b3 : 0 ≤ g 191 3 ∧ g 191 3 ≤ 401 := I.1 191 3
  refine ⟨⟨by omega, by omega⟩, ⟨by omega, by omega⟩, fun c => hQ g I (zk_f0 _) (fun T t h hE hk => ?_), fun c g3 e3 => hQ g3 (by rw [e3]; exact zk_upd (L := 0) (H := 401) rfl rfl I ⟨by omega, by omega⟩) (by rw [e3]; exact zk_fu (zk_f0 _) ⟨rfl, rfl⟩) (fun T t h hE hk => zyC_up h e3 ?_)⟩
  · have a := h.1.2.2.2
    have b := h.2.1
    have k := hE.2.1
    rw [show T.2.2.2 - 1 = t by omega] at k
    exact absurd k hk
  · have a := h.1.2.2.2
    have b := h.2.1
    omega

-- SpoutNews$Tokens.refuse(I)Z
theorem k_Tokens_refuse {l1 : Int} {g : zi_M} {Q : Int → zi_M → Prop} (I : zk_I g) (p1 : 1 ≤ l1 ∧ l1 ≤ 3) (hQ : ∀ (v : Int) (g' : zi_M), zk_I g' → zk_fr fr_Tokens_refuse g g' → (0 ≤ v ∧ v ≤ 0) → (∀ (T : zyT) (t : Int), zyC T g t → zyF T g' l1 t) → Q v g') : w_Tokens_refuse l1 g Q := by
  unfold w_Tokens_refuse
  intro g1 e1
  have b4 : 0 ≤ g 191 4 ∧ g 191 4 ≤ 401 := I.1 191 4
  have b3 : 0 ≤ g 191 3 ∧ g 191 3 ≤ 401 := I.1 191 3
  have I1 : zk_I g1 := by rw [e1]; exact zk_upd (L := 0) (H := 3) rfl rfl I ⟨by omega, by omega⟩
  have F1 : zk_fr fr_Tokens_refuse g g1 := by rw [e1]; exact zk_fu (zk_f0 _) (Or.inl ⟨rfl, rfl⟩)
  have m4 : g1 191 4 = g 191 4 := by rw [e1]; exact zi_u_ni (by decide)
  have m3 : g1 191 3 = g 191 3 := by rw [e1]; exact zi_u_ni (by decide)
  refine ⟨⟨by omega, by omega⟩, ⟨by omega, by omega⟩, fun c => ?_, fun c => ⟨⟨by omega, by omega⟩, ?_⟩⟩
  · intro g4 e4
    refine hQ 0 g4 (by rw [e4]; exact zk_upd (L := -1) (H := 400) rfl rfl I1 ⟨by omega, by omega⟩) (by rw [e4]; exact zk_fu F1 (Or.inr ⟨rfl, rfl⟩)) ⟨by omega, by omega⟩ (fun T t h => ?_)
    have := (zyC_a h).2.2.2
    exfalso; omega
  · have r : 0 ≤ g1 194 (g1 191 4) ∧ g1 194 (g1 191 4) ≤ 400 := I1.1 194 _
    intro g6 e6
    exact hQ 0 g6 (by rw [e6]; exact zk_upd (L := -1) (H := 400) rfl rfl I1 ⟨by omega, by omega⟩) (by rw [e6]; exact zk_fu F1 (Or.inr ⟨rfl, rfl⟩)) ⟨by omega, by omega⟩ (fun T t h => zyC_F h e1 e6)

-- SpoutNews$Tokens.take(II)Z
theorem k_Tokens_take {l1 : Int} {l2 : Int} {g : zi_M} {Q : Int → zi_M → Prop} (I : zk_I g) (p1 : 2 ≤ l1 ∧ l1 ≤ 3) (p2 : 0 ≤ l2 ∧ l2 ≤ 59) (hQ : ∀ (v : Int) (g' : zi_M), zk_I g' → zk_fr fr_Tokens_take g g' → (0 ≤ v ∧ v ≤ 1) → (∀ (T : zyT) (t : Int), zyC T g t → zyE T → zyS T g' t (zyK T l1 l2 t) ∧ (zyK T l1 l2 t = 0 → v = 1) ∧ (¬ zyK T l1 l2 t = 0 → v = 0)) → Q v g') : w_Tokens_take l1 l2 g Q := by
  unfold w_Tokens_take
  have b4 : 0 ≤ g 191 4 ∧ g 191 4 ≤ 401 := I.1 191 4
  have b3 : 0 ≤ g 191 3 ∧ g 191 3 ≤ 401 := I.1 191 3
  refine k_Tokens_isAt I ⟨by omega, by omega⟩ ⟨by omega, by omega⟩ (fun v1 a1 a2 a3 a4 => ⟨fun ne => ?_, fun e => ?_⟩)
  · refine k_Tokens_step I (fun g5 I5 F5 x5 => ?_)
    refine hQ 1 g5 I5 (zk_ft (zk_f0 _) F5 (fun a i h => Or.inl h)) ⟨by omega, by omega⟩ (fun T t h hE => ?_)
    have a := zyC_a h
    have k : T.1 t = l1 ∧ T.2.1 t = l2 := by
      refine Classical.byContradiction (fun q => ?_)
      by_cases q1 : T.1 t = l1
      · exact ne (a3 a.2.2.2 (by rw [a.1]; exact q1) (fun z => q ⟨q1, by rw [← a.2.1]; exact z⟩))
      · exact ne (a2 a.2.2.2 (by rw [a.1]; exact q1))
    have z := zyK_0.2 k
    exact ⟨⟨fun _ => x5 T t h hE (by omega), fun n => absurd z n⟩, fun _ => rfl, fun n => absurd z n⟩
  · refine k_Tokens_refuse I ⟨by omega, by omega⟩ (fun v7 g8 I8 F8 c8 x8 => ?_)
    refine hQ v7 g8 I8 (zk_ft (zk_f0 _) F8 (fun a i h => Or.inr h)) ⟨by omega, by omega⟩ (fun T t h hE => ?_)
    have a := zyC_a h
    have k : ¬ (T.1 t = l1 ∧ T.2.1 t = l2) := fun q => by
      have := a4 a.2.2.2 (by rw [a.1]; exact q.1) (by rw [a.2.1]; exact q.2)
      omega
    have z := zyK_1 k
    rw [z]
    exact ⟨⟨fun n => absurd n (by decide), fun _ => x8 T t h⟩, fun n => absurd n (by decide), fun _ => by omega⟩

-- SpoutNews$Tokens.takeLineStart(II)Z
theorem k_Tokens_takeLineStart {l1 : Int} {l2 : Int} {g : zi_M} {Q : Int → zi_M → Prop} (I : zk_I g) (p1 : 0 ≤ l1 ∧ l1 ≤ 7) (p2 : 0 ≤ l2 ∧ l2 ≤ 17) (hQ : ∀ (v : Int) (g' : zi_M), zk_I g' → zk_fr fr_Tokens_takeLineStart g g' → (0 ≤ v ∧ v ≤ 1) → (∀ (T : zyT) (t : Int), zyC T g t → zyE T → zyS T g' t (zyL T l1 l2 t) ∧ (zyL T l1 l2 t = 0 → v = 1) ∧ (¬ zyL T l1 l2 t = 0 → v = 0)) → Q v g') : w_Tokens_takeLineStart l1 l2 g Q := by
  unfold w_Tokens_takeLineStart
  have b4 : 0 ≤ g 191 4 ∧ g 191 4 ≤ 401 := I.1 191 4
  have b3 : 0 ≤ g 191 3 ∧ g 191 3 ≤ 401 := I.1 191 3
  refine k_Tokens_isAt I ⟨by omega, by omega⟩ ⟨by omega, by omega⟩ (fun v1 a1 a2 a3 a4 => ⟨fun e => ?_, fun ne => ⟨⟨by omega, by omega⟩, fun lt => ?_, fun ge => ?_⟩⟩)
  · refine k_Tokens_take I ⟨by omega, by omega⟩ ⟨by omega, by omega⟩ (fun v4 g5 I5 F5 c5 x5 => ?_)
    refine hQ v4 g5 I5 (zk_ft (zk_f0 _) F5 (fun a i h => h)) c5 (fun T t h hE => ?_)
    have a := zyC_a h
    have k : ¬ (T.1 t = 2 ∧ T.2.1 t = l1) := fun q => by
      have := a4 a.2.2.2 (by rw [a.1]; exact q.1) (by rw [a.2.1]; exact q.2)
      omega
    have x := x5 T t h hE
    rw [zyK_1 k] at x
    rw [zyL_1 k]
    exact x
  · refine k_Tokens_take I ⟨by omega, by omega⟩ ⟨by omega, by omega⟩ (fun v4 g5 I5 F5 c5 x5 => ?_)
    refine hQ v4 g5 I5 (zk_ft (zk_f0 _) F5 (fun a i h => h)) c5 (fun T t h hE => ?_)
    have x := x5 T t h hE
    by_cases k : T.1 t = 2 ∧ T.2.1 t = l1
    · rw [zyK_0.2 k] at x
      rw [zyL_0.2 ⟨k, lt⟩]
      exact x
    · rw [zyK_1 k] at x
      rw [zyL_1 k]
      exact x
  · refine k_Tokens_refuse I ⟨by omega, by omega⟩ (fun v7 g8 I8 F8 c8 x8 => ?_)
    refine hQ v7 g8 I8 (zk_ft (zk_f0 _) F8 (fun a i h => Or.inr h)) ⟨by omega, by omega⟩ (fun T t h hE => ?_)
    have a := zyC_a h
    have k : T.1 t = 2 ∧ T.2.1 t = l1 := by
      refine Classical.byContradiction (fun q => ?_)
      by_cases q1 : T.1 t = 2
      · exact ne (a3 a.2.2.2 (by rw [a.1]; exact q1) (fun z => q ⟨q1, by rw [← a.2.1]; exact z⟩))
      · exact ne (a2 a.2.2.2 (by rw [a.1]; exact q1))
    rw [zyL_3 k (by omega)]
    exact ⟨⟨fun n => absurd n (by decide), fun _ => x8 T t h⟩, fun n => absurd n (by decide), fun _ => by omega⟩

-- SpoutNews$Tokens.number()I
set_option maxRecDepth 100000 in
set_option maxHeartbeats 4000000 in
theorem k_Tokens_number {g : zi_M} {Q : Int → zi_M → Prop} (I : zk_I g) (hQ : ∀ v : Int, ((g 191 3) ≤ (g 191 4) → v = (-1)) → ((g 191 4) < (g 191 3) → ¬ (g 192 (g 191 4)) = 1 → v = (-1)) → ((g 191 4) < (g 191 3) → (g 192 (g 191 4)) = 1 → v = g 193 (g 191 4)) → Q v g) : w_Tokens_number g Q := by
  unfold w_Tokens_number
  have m_1 : 0 ≤ (g 191 4) ∧ (g 191 4) ≤ 401 := I.1 191 4
  have m_2 : 0 ≤ (g 191 3) ∧ (g 191 3) ≤ 401 := I.1 191 3
  refine ⟨⟨by omega, by omega⟩, ⟨by omega, by omega⟩, ?_⟩
  refine ⟨fun c6 => ?_, fun c6 => ?_⟩
  · have m_3 : 0 ≤ (g 192 (g 191 4)) ∧ (g 192 (g 191 4)) ≤ 4 := I.1 192 (g 191 4)
    have m_4 : (-1) ≤ (g 193 (g 191 4)) ∧ (g 193 (g 191 4)) ≤ 9999 := I.1 193 (g 191 4)
    exact hQ _ (by intros; omega) (by intros; omega) (by intros; omega)
  · refine ⟨⟨by omega, by omega⟩, ?_⟩
    have m_5 : 0 ≤ (g 192 (g 191 4)) ∧ (g 192 (g 191 4)) ≤ 4 := I.1 192 (g 191 4)
    refine ⟨⟨by omega, by omega⟩, ?_⟩
    refine ⟨fun c5 => ?_, fun c5 => ?_⟩
    · have m_6 : (-1) ≤ (g 193 (g 191 4)) ∧ (g 193 (g 191 4)) ≤ 9999 := I.1 193 (g 191 4)
      exact hQ _ (by intros; omega) (by intros; omega) (by intros; omega)
    · have m_7 : (-1) ≤ (g 193 (g 191 4)) ∧ (g 193 (g 191 4)) ≤ 9999 := I.1 193 (g 191 4)
      exact hQ _ (by intros; omega) (by intros; omega) (by intros; omega)
-- SpoutNews$Law.add(II)V
set_option maxRecDepth 100000 in
set_option maxHeartbeats 4000000 in
theorem k_Law_add {l1 : Int} {l2 : Int} {g : zi_M} {Q : Int → zi_M → Prop} (I : zk_I g) (p1 : 0 ≤ l1 ∧ l1 ≤ 11) (p2 : 0 ≤ l2 ∧ l2 ≤ 9999) (hQ : ∀ g' : zi_M, zk_I g' → zk_fr fr_Law_add g g' → Q 0 g') : w_Law_add l1 l2 g Q := by
  unfold w_Law_add
  have m_1 : 0 ≤ (g 196 2) ∧ (g 196 2) ≤ 400 := I.1 196 2
  refine ⟨⟨by omega, by omega⟩, ?_⟩
  refine ⟨fun c7 => ?_, fun c7 => ?_⟩
  · exact hQ _ I (zk_f0 _)
  · refine ⟨⟨by omega, by omega⟩, ?_⟩
    intro g3 e_2
    have I_3 : zk_I g3 := by rw [e_2]; exact zk_upd (L := (-2147483648)) (H := 2147483647) rfl rfl I ⟨by omega, by omega⟩
    have F_4 : zk_fr fr_Law_add g g3 := by rw [e_2]; exact zk_fu (zk_f0 _) (Or.inl rfl)
    have m_8 : 0 ≤ (g3 196 2) ∧ (g3 196 2) ≤ 400 := I_3.1 196 2
    have m_9 : g3 196 2 = g 196 2 := by rw [e_2]; exact zi_u_ne (by decide)
    refine ⟨⟨by omega, by omega⟩, ?_⟩
    intro g5 e_5
    have I_6 : zk_I g5 := by rw [e_5]; exact zk_upd (L := 0) (H := 9999) rfl rfl I_3 ⟨by omega, by omega⟩
    have F_7 : zk_fr fr_Law_add g g5 := by rw [e_5]; exact zk_fu F_4 (Or.inr (Or.inl rfl))
    have m_13 : 0 ≤ (g5 196 2) ∧ (g5 196 2) ≤ 400 := I_6.1 196 2
    have m_14 : g5 196 2 = g3 196 2 := by rw [e_5]; exact zi_u_ne (by decide)
    intro g6 e_10
    have I_11 : zk_I g6 := by rw [e_10]; exact zk_upd (L := 0) (H := 400) rfl rfl I_6 ⟨by omega, by omega⟩
    have F_12 : zk_fr fr_Law_add g g6 := by rw [e_10]; exact zk_fu F_7 (Or.inr (Or.inr ⟨rfl, rfl⟩))
    exact hQ _ I_11 F_12
-- SpoutNews$LawReader.unit(LSpoutNews$Tokens;LSpoutNews$Law;)Z
set_option maxRecDepth 100000 in
set_option maxHeartbeats 4000000 in
theorem k_LawReader_unit {g : zi_M} {Q : Int → zi_M → Prop} (I : zk_I g) (hQ : ∀ (v : Int) (g' : zi_M), zk_I g' → zk_fr fr_LawReader_unit g g' → (0 ≤ v ∧ v ≤ 1) → Q v g') : w_LawReader_unit g Q := by
  unfold w_LawReader_unit
  have m_4 : 0 ≤ (g 191 4) ∧ (g 191 4) ≤ 401 := I.1 191 4
  have m_5 : 0 ≤ (g 191 3) ∧ (g 191 3) ≤ 401 := I.1 191 3
  have m_6 : 0 ≤ (g 192 (g 191 4)) ∧ (g 192 (g 191 4)) ≤ 4 := I.1 192 (g 191 4)
  have m_7 : (-1) ≤ (g 193 (g 191 4)) ∧ (g 193 (g 191 4)) ≤ 9999 := I.1 193 (g 191 4)
  refine k_Tokens_number I (fun v1 b_1 b_2 b_3 => ?_)
  refine ⟨⟨by omega, by omega⟩, ?_⟩
  refine ⟨fun c31 => ?_, fun c31 => ?_⟩
  · refine k_Tokens_keyword I (fun v5 b_8 b_9 b_10 => ?_)
    refine ⟨⟨by omega, by omega⟩, ?_⟩
    refine ⟨fun c21 => ?_, fun c21 => ?_⟩
    · refine k_Tokens_refuse I ⟨by omega, by omega⟩ (fun v9 g10 I_13 F_14 b_11 b_12 => ?_)
      have F_15 : zk_fr fr_LawReader_unit g g10 := zk_ft (zk_f0 _) F_14 (fun a i => (fun h => Or.elim h (fun h => (Or.inr (Or.inr (Or.inr (Or.inl h))))) (fun h => (Or.inr (Or.inr (Or.inr (Or.inr (Or.inl h))))))))
      exact hQ _ _ I_13 F_15 ⟨by omega, by omega⟩
    · refine k_Tokens_keyword I (fun v12 b_16 b_17 b_18 => ?_)
      refine k_Law_add I ⟨by omega, by omega⟩ ⟨by omega, by omega⟩ (fun g16 I_19 F_20 => ?_)
      have F_21 : zk_fr fr_LawReader_unit g g16 := zk_ft (zk_f0 _) F_20 (fun a i => (fun h => Or.elim h (fun h => (Or.inl h)) (fun h => Or.elim h (fun h => (Or.inr (Or.inl h))) (fun h => (Or.inr (Or.inr (Or.inr (Or.inr (Or.inr h)))))))))
      refine k_Tokens_step I_19 (fun g19 I_23 F_24 b_22 => ?_)
      have F_25 : zk_fr fr_LawReader_unit g g19 := zk_ft F_21 F_24 (fun a i => (fun h => (Or.inr (Or.inr (Or.inl h)))))
      exact hQ _ _ I_23 F_25 ⟨by omega, by omega⟩
  · refine k_Tokens_number I (fun v22 b_26 b_27 b_28 => ?_)
    refine k_Law_add I ⟨by omega, by omega⟩ ⟨by omega, by omega⟩ (fun g26 I_29 F_30 => ?_)
    have F_31 : zk_fr fr_LawReader_unit g g26 := zk_ft (zk_f0 _) F_30 (fun a i => (fun h => Or.elim h (fun h => (Or.inl h)) (fun h => Or.elim h (fun h => (Or.inr (Or.inl h))) (fun h => (Or.inr (Or.inr (Or.inr (Or.inr (Or.inr h)))))))))
    refine k_Tokens_step I_29 (fun g29 I_33 F_34 b_32 => ?_)
    have F_35 : zk_fr fr_LawReader_unit g g29 := zk_ft F_31 F_34 (fun a i => (fun h => (Or.inr (Or.inr (Or.inl h)))))
    exact hQ _ _ I_33 F_35 ⟨by omega, by omega⟩
-- SpoutNews$LawReader.addLate(LSpoutNews$Law;I)V
set_option maxRecDepth 100000 in
set_option maxHeartbeats 4000000 in
theorem k_LawReader_addLate {l2 : Int} {g : zi_M} {Q : Int → zi_M → Prop} (I : zk_I g) (p2 : (-1) ≤ l2 ∧ l2 ≤ 3) (hQ : ∀ g' : zi_M, zk_I g' → zk_fr fr_LawReader_addLate g g' → Q 0 g') : w_LawReader_addLate l2 g Q := by
  unfold w_LawReader_addLate
  refine ⟨⟨by omega, by omega⟩, ?_⟩
  refine ⟨fun c5 => ?_, fun c5 => ?_⟩
  · exact hQ _ I (zk_f0 _)
  · refine k_Law_add I ⟨by omega, by omega⟩ ⟨by omega, by omega⟩ (fun g3 I_1 F_2 => ?_)
    have F_3 : zk_fr fr_LawReader_addLate g g3 := zk_ft (zk_f0 _) F_2 (fun a i => (fun h => Or.elim h (fun h => (Or.inl h)) (fun h => Or.elim h (fun h => (Or.inr (Or.inl h))) (fun h => (Or.inr (Or.inr h))))))
    exact hQ _ I_1 F_3
-- SpoutNews$LawReader.part(LSpoutNews$Tokens;LSpoutNews$Law;)Z
set_option maxRecDepth 100000 in
set_option maxHeartbeats 4000000 in
theorem k_LawReader_part {g : zi_M} {Q : Int → zi_M → Prop} (I : zk_I g) (hQ : ∀ (v : Int) (g' : zi_M), zk_I g' → zk_fr fr_LawReader_part g g' → (0 ≤ v ∧ v ≤ 1) → Q v g') : w_LawReader_part g Q := by
  unfold w_LawReader_part
  have m_4 : 0 ≤ (g 191 4) ∧ (g 191 4) ≤ 401 := I.1 191 4
  have m_5 : 0 ≤ (g 191 3) ∧ (g 191 3) ≤ 401 := I.1 191 3
  have m_6 : 0 ≤ (g 192 (g 191 4)) ∧ (g 192 (g 191 4)) ≤ 4 := I.1 192 (g 191 4)
  have m_7 : (-1) ≤ (g 193 (g 191 4)) ∧ (g 193 (g 191 4)) ≤ 9999 := I.1 193 (g 191 4)
  refine k_Tokens_number I (fun v1 b_1 b_2 b_3 => ?_)
  refine ⟨⟨by omega, by omega⟩, ?_⟩
  refine ⟨fun c18 => ?_, fun c18 => ?_⟩
  · refine k_Law_add I ⟨by omega, by omega⟩ ⟨by omega, by omega⟩ (fun g6 I_8 F_9 => ?_)
    have F_10 : zk_fr fr_LawReader_part g g6 := zk_ft (zk_f0 _) F_9 (fun a i => (fun h => Or.elim h (fun h => (Or.inl h)) (fun h => Or.elim h (fun h => (Or.inr (Or.inl h))) (fun h => (Or.inr (Or.inr (Or.inr (Or.inr (Or.inr h)))))))))
    refine k_Tokens_step I_8 (fun g9 I_12 F_13 b_11 => ?_)
    have F_14 : zk_fr fr_LawReader_part g g9 := zk_ft F_10 F_13 (fun a i => (fun h => (Or.inr (Or.inr (Or.inl h)))))
    exact hQ _ _ I_12 F_14 ⟨by omega, by omega⟩
  · refine ⟨fun c17 => ?_, fun c17 => ?_⟩
    · refine k_Tokens_refuse I ⟨by omega, by omega⟩ (fun v11 g12 I_17 F_18 b_15 b_16 => ?_)
      have F_19 : zk_fr fr_LawReader_part g g12 := zk_ft (zk_f0 _) F_18 (fun a i => (fun h => Or.elim h (fun h => (Or.inr (Or.inr (Or.inr (Or.inl h))))) (fun h => (Or.inr (Or.inr (Or.inr (Or.inr (Or.inl h))))))))
      exact hQ _ _ I_17 F_19 ⟨by omega, by omega⟩
    · refine k_Tokens_refuse I ⟨by omega, by omega⟩ (fun v14 g15 I_22 F_23 b_20 b_21 => ?_)
      have F_24 : zk_fr fr_LawReader_part g g15 := zk_ft (zk_f0 _) F_23 (fun a i => (fun h => Or.elim h (fun h => (Or.inr (Or.inr (Or.inr (Or.inl h))))) (fun h => (Or.inr (Or.inr (Or.inr (Or.inr (Or.inl h))))))))
      exact hQ _ _ I_22 F_24 ⟨by omega, by omega⟩
-- SpoutNews$LawReader.sum(LSpoutNews$Tokens;LSpoutNews$Law;)Z
set_option maxRecDepth 100000 in
set_option maxHeartbeats 4000000 in
theorem k_LawReader_sum_b99 {l4 : Int} {l5 : Int} {H : Int → Int → Int → zi_M → Prop} {K140 : Int → Int → zi_M → Prop} {Q : Int → zi_M → Prop} {g : zi_M} {g0 : zi_M} (I : zk_I g) (F : zk_fr fr_LawReader_sum g0 g) (p4 : (-1) ≤ l4 ∧ l4 ≤ 3) (p5 : 0 ≤ l5 ∧ l5 ≤ 399) (M : Int) (hM : 400 - l5 ≤ M) (hH : ∀ (m3 : Int) (m4 : Int) (m5 : Int) (g : zi_M), zk_I g → zk_fr fr_LawReader_sum g0 g → (0 ≤ m3 ∧ m3 ≤ 1) → ((-1) ≤ m4 ∧ m4 ≤ 3) → (0 ≤ m5 ∧ m5 ≤ 400) → 400 - m5 < M → H m3 m4 m5 g) (hK140 : ∀ (k3 : Int) (k4 : Int) (g : zi_M), zk_I g → zk_fr fr_LawReader_sum g0 g → (0 ≤ k3 ∧ k3 ≤ 1) → ((-1) ≤ k4 ∧ k4 ≤ 3) → K140 k3 k4 g) (hQ : ∀ (v : Int) (g' : zi_M), zk_I g' → zk_fr fr_LawReader_sum g0 g' → (0 ≤ v ∧ v ≤ 1) → Q v g') : w_LawReader_sum_b99 l4 l5 g H K140 Q := by
  unfold w_LawReader_sum_b99
  refine k_LawReader_addLate I ⟨by omega, by omega⟩ (fun g16 I_21 F_22 => ?_)
  have F_23 : zk_fr fr_LawReader_sum g0 g16 := zk_ft F F_22 (fun a i => (fun h => Or.elim h (fun h => (Or.inl h)) (fun h => Or.elim h (fun h => (Or.inr (Or.inl h))) (fun h => (Or.inr (Or.inr (Or.inr (Or.inr (Or.inr h)))))))))
  have m_28 : 0 ≤ (g16 191 4) ∧ (g16 191 4) ≤ 401 := I_21.1 191 4
  have m_29 : g16 191 4 = g 191 4 := F_22 _ _ (by unfold fr_LawReader_addLate; omega)
  have m_30 : 0 ≤ (g 191 4) ∧ (g 191 4) ≤ 401 := I.1 191 4
  have m_31 : 0 ≤ (g16 191 3) ∧ (g16 191 3) ≤ 401 := I_21.1 191 3
  have m_32 : g16 191 3 = g 191 3 := F_22 _ _ (by unfold fr_LawReader_addLate; omega)
  have m_33 : 0 ≤ (g 191 3) ∧ (g 191 3) ≤ 401 := I.1 191 3
  have m_34 : 0 ≤ (g16 192 (g16 191 4)) ∧ (g16 192 (g16 191 4)) ≤ 4 := I_21.1 192 (g16 191 4)
  have m_35 : g16 192 (g16 191 4) = g 192 (g16 191 4) := F_22 _ _ (by unfold fr_LawReader_addLate; omega)
  have m_36 : 0 ≤ (g 192 (g16 191 4)) ∧ (g 192 (g16 191 4)) ≤ 4 := I.1 192 (g16 191 4)
  have m_37 : (-1) ≤ (g16 193 (g16 191 4)) ∧ (g16 193 (g16 191 4)) ≤ 9999 := I_21.1 193 (g16 191 4)
  have m_38 : g16 193 (g16 191 4) = g 193 (g16 191 4) := F_22 _ _ (by unfold fr_LawReader_addLate; omega)
  have m_39 : (-1) ≤ (g 193 (g16 191 4)) ∧ (g 193 (g16 191 4)) ≤ 9999 := I.1 193 (g16 191 4)
  refine k_Tokens_isAt I_21 ⟨by omega, by omega⟩ ⟨by omega, by omega⟩ (fun v18 b_24 b_25 b_26 b_27 => ?_)
  refine ⟨fun c33 => ?_, fun c33 => ?_⟩
  · refine k_Tokens_step I_21 (fun g22 I_41 F_42 b_40 => ?_)
    have F_43 : zk_fr fr_LawReader_sum g0 g22 := zk_ft F_23 F_42 (fun a i => (fun h => (Or.inr (Or.inr (Or.inl h)))))
    refine k_LawReader_unit I_41 (fun v24 g25 I_45 F_46 b_44 => ?_)
    have F_47 : zk_fr fr_LawReader_sum g0 g25 := zk_ft F_43 F_46 (fun a i => (fun h => Or.elim h (fun h => (Or.inl h)) (fun h => Or.elim h (fun h => (Or.inr (Or.inl h))) (fun h => Or.elim h (fun h => (Or.inr (Or.inr (Or.inl h)))) (fun h => Or.elim h (fun h => (Or.inr (Or.inr (Or.inr (Or.inl h))))) (fun h => Or.elim h (fun h => (Or.inr (Or.inr (Or.inr (Or.inr (Or.inl h)))))) (fun h => (Or.inr (Or.inr (Or.inr (Or.inr (Or.inr h))))))))))))
    exact hH _ _ _ _ I_45 F_47 ⟨by omega, by omega⟩ ⟨by omega, by omega⟩ ⟨by omega, by omega⟩ (by omega)
  · refine k_Tokens_step I_21 (fun g28 I_49 F_50 b_48 => ?_)
    have F_51 : zk_fr fr_LawReader_sum g0 g28 := zk_ft F_23 F_50 (fun a i => (fun h => (Or.inr (Or.inr (Or.inl h)))))
    refine k_LawReader_unit I_49 (fun v30 g31 I_53 F_54 b_52 => ?_)
    have F_55 : zk_fr fr_LawReader_sum g0 g31 := zk_ft F_51 F_54 (fun a i => (fun h => Or.elim h (fun h => (Or.inl h)) (fun h => Or.elim h (fun h => (Or.inr (Or.inl h))) (fun h => Or.elim h (fun h => (Or.inr (Or.inr (Or.inl h)))) (fun h => Or.elim h (fun h => (Or.inr (Or.inr (Or.inr (Or.inl h))))) (fun h => Or.elim h (fun h => (Or.inr (Or.inr (Or.inr (Or.inr (Or.inl h)))))) (fun h => (Or.inr (Or.inr (Or.inr (Or.inr (Or.inr h))))))))))))
    exact hH _ _ _ _ I_53 F_55 ⟨by omega, by omega⟩ ⟨by omega, by omega⟩ ⟨by omega, by omega⟩ (by omega)
set_option maxRecDepth 100000 in
set_option maxHeartbeats 4000000 in
theorem k_LawReader_sum_l13 {K140 : Int → Int → zi_M → Prop} {Q : Int → zi_M → Prop} {g0 : zi_M} (hK140 : ∀ (k3 : Int) (k4 : Int) (g : zi_M), zk_I g → zk_fr fr_LawReader_sum g0 g → (0 ≤ k3 ∧ k3 ≤ 1) → ((-1) ≤ k4 ∧ k4 ≤ 3) → K140 k3 k4 g) (hQ : ∀ (v : Int) (g' : zi_M), zk_I g' → zk_fr fr_LawReader_sum g0 g' → (0 ≤ v ∧ v ≤ 1) → Q v g') : ∀ (n : Nat) {l3 : Int} {l4 : Int} {l5 : Int} {g : zi_M}, zk_I g → zk_fr fr_LawReader_sum g0 g → (0 ≤ l3 ∧ l3 ≤ 1) → ((-1) ≤ l4 ∧ l4 ≤ 3) → (0 ≤ l5 ∧ l5 ≤ 400) → 400 - l5 < (n : Int) → w_LawReader_sum_l13 K140 Q n l3 l4 l5 g
  | 0, l3, l4, l5, g, I, F, b0, b1, b2, hm => by exfalso; omega
  | n + 1, l3, l4, l5, g, I, F, b0, b1, b2, hm => by
    unfold w_LawReader_sum_l13
    refine ⟨⟨by omega, by omega⟩, ?_⟩
    refine ⟨fun c57 => ?_, fun c57 => ?_⟩
    · exact hK140 _ _ _ I F ⟨by omega, by omega⟩ ⟨by omega, by omega⟩
    · refine ⟨⟨by omega, by omega⟩, ?_⟩
      refine ⟨fun c56 => ?_, fun c56 => ?_⟩
      · exact hK140 _ _ _ I F ⟨by omega, by omega⟩ ⟨by omega, by omega⟩
      · have m_9 : 0 ≤ (g 191 4) ∧ (g 191 4) ≤ 401 := I.1 191 4
        have m_10 : 0 ≤ (g 191 3) ∧ (g 191 3) ≤ 401 := I.1 191 3
        have m_11 : 0 ≤ (g 192 (g 191 4)) ∧ (g 192 (g 191 4)) ≤ 4 := I.1 192 (g 191 4)
        have m_12 : (-1) ≤ (g 193 (g 191 4)) ∧ (g 193 (g 191 4)) ≤ 9999 := I.1 193 (g 191 4)
        refine k_Tokens_isAt I ⟨by omega, by omega⟩ ⟨by omega, by omega⟩ (fun v6 b_5 b_6 b_7 b_8 => ?_)
        refine ⟨fun c55 => ?_, fun c55 => ?_⟩
        · refine k_Tokens_isAt I ⟨by omega, by omega⟩ ⟨by omega, by omega⟩ (fun v9 b_13 b_14 b_15 b_16 => ?_)
          refine ⟨fun c45 => ?_, fun c45 => ?_⟩
          · refine k_Tokens_isAt I ⟨by omega, by omega⟩ ⟨by omega, by omega⟩ (fun v12 b_17 b_18 b_19 b_20 => ?_)
            refine ⟨fun c38 => ?_, fun c38 => ?_⟩
            · exact k_LawReader_sum_b99 I F ⟨by omega, by omega⟩ ⟨by omega, by omega⟩ (n : Int) (by omega) (fun _ _ _ _ I F b0 b1 b2 hm => k_LawReader_sum_l13 hK140 hQ n I F b0 b1 b2 hm) hK140 hQ
            · refine k_Tokens_isAt I ⟨by omega, by omega⟩ ⟨by omega, by omega⟩ (fun v34 b_56 b_57 b_58 b_59 => ?_)
              refine ⟨fun c37 => ?_, fun c37 => ?_⟩
              · exact hK140 _ _ _ I F ⟨by omega, by omega⟩ ⟨by omega, by omega⟩
              · exact k_LawReader_sum_b99 I F ⟨by omega, by omega⟩ ⟨by omega, by omega⟩ (n : Int) (by omega) (fun _ _ _ _ I F b0 b1 b2 hm => k_LawReader_sum_l13 hK140 hQ n I F b0 b1 b2 hm) hK140 hQ
          · refine k_Tokens_step I (fun g40 I_61 F_62 b_60 => ?_)
            have F_63 : zk_fr fr_LawReader_sum g0 g40 := zk_ft F F_62 (fun a i => (fun h => (Or.inr (Or.inr (Or.inl h)))))
            refine k_LawReader_part I_61 (fun v42 g43 I_65 F_66 b_64 => ?_)
            have F_67 : zk_fr fr_LawReader_sum g0 g43 := zk_ft F_63 F_66 (fun a i => (fun h => Or.elim h (fun h => (Or.inl h)) (fun h => Or.elim h (fun h => (Or.inr (Or.inl h))) (fun h => Or.elim h (fun h => (Or.inr (Or.inr (Or.inl h)))) (fun h => Or.elim h (fun h => (Or.inr (Or.inr (Or.inr (Or.inl h))))) (fun h => Or.elim h (fun h => (Or.inr (Or.inr (Or.inr (Or.inr (Or.inl h)))))) (fun h => (Or.inr (Or.inr (Or.inr (Or.inr (Or.inr h))))))))))))
            exact k_LawReader_sum_l13 hK140 hQ n I_65 F_67 ⟨by omega, by omega⟩ ⟨by omega, by omega⟩ ⟨by omega, by omega⟩ (by omega)
        · refine k_Tokens_step I (fun g47 I_69 F_70 b_68 => ?_)
          have F_71 : zk_fr fr_LawReader_sum g0 g47 := zk_ft F F_70 (fun a i => (fun h => (Or.inr (Or.inr (Or.inl h)))))
          refine k_LawReader_unit I_69 (fun v49 g50 I_73 F_74 b_72 => ?_)
          have F_75 : zk_fr fr_LawReader_sum g0 g50 := zk_ft F_71 F_74 (fun a i => (fun h => Or.elim h (fun h => (Or.inl h)) (fun h => Or.elim h (fun h => (Or.inr (Or.inl h))) (fun h => Or.elim h (fun h => (Or.inr (Or.inr (Or.inl h)))) (fun h => Or.elim h (fun h => (Or.inr (Or.inr (Or.inr (Or.inl h))))) (fun h => Or.elim h (fun h => (Or.inr (Or.inr (Or.inr (Or.inr (Or.inl h)))))) (fun h => (Or.inr (Or.inr (Or.inr (Or.inr (Or.inr h))))))))))))
          refine k_Law_add I_73 ⟨by omega, by omega⟩ ⟨by omega, by omega⟩ (fun g53 I_76 F_77 => ?_)
          have F_78 : zk_fr fr_LawReader_sum g0 g53 := zk_ft F_75 F_77 (fun a i => (fun h => Or.elim h (fun h => (Or.inl h)) (fun h => Or.elim h (fun h => (Or.inr (Or.inl h))) (fun h => (Or.inr (Or.inr (Or.inr (Or.inr (Or.inr h)))))))))
          exact k_LawReader_sum_l13 hK140 hQ n I_76 F_78 ⟨by omega, by omega⟩ ⟨by omega, by omega⟩ ⟨by omega, by omega⟩ (by omega)
set_option maxRecDepth 100000 in
set_option maxHeartbeats 4000000 in
theorem k_LawReader_sum {g : zi_M} {Q : Int → zi_M → Prop} (I : zk_I g) (hQ : ∀ (v : Int) (g' : zi_M), zk_I g' → zk_fr fr_LawReader_sum g g' → (0 ≤ v ∧ v ≤ 1) → Q v g') : w_LawReader_sum g Q := by
  unfold w_LawReader_sum
  refine k_LawReader_unit I (fun v1 g2 I_2 F_3 b_1 => ?_)
  have F_4 : zk_fr fr_LawReader_sum g g2 := zk_ft (zk_f0 _) F_3 (fun a i => (fun h => Or.elim h (fun h => (Or.inl h)) (fun h => Or.elim h (fun h => (Or.inr (Or.inl h))) (fun h => Or.elim h (fun h => (Or.inr (Or.inr (Or.inl h)))) (fun h => Or.elim h (fun h => (Or.inr (Or.inr (Or.inr (Or.inl h))))) (fun h => Or.elim h (fun h => (Or.inr (Or.inr (Or.inr (Or.inr (Or.inl h)))))) (fun h => (Or.inr (Or.inr (Or.inr (Or.inr (Or.inr h))))))))))))
  refine ⟨((400 - 0 : Int).toNat + 1), k_LawReader_sum_l13 (fun k58 k59 g60 I_79 F_80 b_81 b_82 => ?_) hQ ((400 - 0 : Int).toNat + 1) I_2 F_4 ⟨by omega, by omega⟩ ⟨by omega, by omega⟩ ⟨by omega, by omega⟩ (by omega)⟩
  refine k_LawReader_addLate I_79 ⟨by omega, by omega⟩ (fun g62 I_83 F_84 => ?_)
  have F_85 : zk_fr fr_LawReader_sum g g62 := zk_ft F_80 F_84 (fun a i => (fun h => Or.elim h (fun h => (Or.inl h)) (fun h => Or.elim h (fun h => (Or.inr (Or.inl h))) (fun h => (Or.inr (Or.inr (Or.inr (Or.inr (Or.inr h)))))))))
  refine ⟨(by omega), ?_⟩
  exact hQ _ _ I_83 F_85 ⟨by omega, by omega⟩
-- SpoutNews$Law.addLine(III)V
set_option maxRecDepth 100000 in
set_option maxHeartbeats 4000000 in
theorem k_Law_addLine {l1 : Int} {l2 : Int} {l3 : Int} {g : zi_M} {Q : Int → zi_M → Prop} (I : zk_I g) (p1 : 0 ≤ l1 ∧ l1 ≤ 2) (p2 : 0 ≤ l2 ∧ l2 ≤ 400) (p3 : 0 ≤ l3 ∧ l3 ≤ 400) (hQ : ∀ g' : zi_M, zk_I g' → zk_fr fr_Law_addLine g g' → Q 0 g') : w_Law_addLine l1 l2 l3 g Q := by
  unfold w_Law_addLine
  have m_1 : 0 ≤ (g 196 7) ∧ (g 196 7) ≤ 16 := I.1 196 7
  refine ⟨⟨by omega, by omega⟩, ?_⟩
  refine ⟨fun c11 => ?_, fun c11 => ?_⟩
  · exact hQ _ I (zk_f0 _)
  · refine ⟨⟨by omega, by omega⟩, ?_⟩
    intro g3 e_2
    have I_3 : zk_I g3 := by rw [e_2]; exact zk_upd (L := (-2147483648)) (H := 2147483647) rfl rfl I ⟨by omega, by omega⟩
    have F_4 : zk_fr fr_Law_addLine g g3 := by rw [e_2]; exact zk_fu (zk_f0 _) (Or.inl rfl)
    have m_8 : 0 ≤ (g3 196 7) ∧ (g3 196 7) ≤ 16 := I_3.1 196 7
    have m_9 : g3 196 7 = g 196 7 := by rw [e_2]; exact zi_u_ne (by decide)
    refine ⟨⟨by omega, by omega⟩, ?_⟩
    intro g5 e_5
    have I_6 : zk_I g5 := by rw [e_5]; exact zk_upd (L := 0) (H := 400) rfl rfl I_3 ⟨by omega, by omega⟩
    have F_7 : zk_fr fr_Law_addLine g g5 := by rw [e_5]; exact zk_fu F_4 (Or.inr (Or.inl rfl))
    have m_13 : 0 ≤ (g5 196 7) ∧ (g5 196 7) ≤ 16 := I_6.1 196 7
    have m_14 : g5 196 7 = g3 196 7 := by rw [e_5]; exact zi_u_ne (by decide)
    refine ⟨⟨by omega, by omega⟩, ?_⟩
    intro g7 e_10
    have I_11 : zk_I g7 := by rw [e_10]; exact zk_upd (L := 0) (H := 400) rfl rfl I_6 ⟨by omega, by omega⟩
    have F_12 : zk_fr fr_Law_addLine g g7 := by rw [e_10]; exact zk_fu F_7 (Or.inr (Or.inr (Or.inl rfl)))
    have m_18 : 0 ≤ (g7 196 7) ∧ (g7 196 7) ≤ 16 := I_11.1 196 7
    have m_19 : g7 196 7 = g5 196 7 := by rw [e_10]; exact zi_u_ne (by decide)
    refine ⟨⟨by omega, by omega⟩, ?_⟩
    have m_20 : 0 ≤ (g7 196 2) ∧ (g7 196 2) ≤ 400 := I_11.1 196 2
    have m_21 : g7 196 2 = g5 196 2 := by rw [e_10]; exact zi_u_ne (by decide)
    have m_22 : 0 ≤ (g5 196 2) ∧ (g5 196 2) ≤ 400 := I_6.1 196 2
    have m_23 : g5 196 2 = g3 196 2 := by rw [e_5]; exact zi_u_ne (by decide)
    have m_24 : 0 ≤ (g3 196 2) ∧ (g3 196 2) ≤ 400 := I_3.1 196 2
    have m_25 : g3 196 2 = g 196 2 := by rw [e_2]; exact zi_u_ne (by decide)
    have m_26 : 0 ≤ (g 196 2) ∧ (g 196 2) ≤ 400 := I.1 196 2
    intro g9 e_15
    have I_16 : zk_I g9 := by rw [e_15]; exact zk_upd (L := 0) (H := 400) rfl rfl I_11 ⟨by omega, by omega⟩
    have F_17 : zk_fr fr_Law_addLine g g9 := by rw [e_15]; exact zk_fu F_12 (Or.inr (Or.inr (Or.inr (Or.inl rfl))))
    have m_30 : 0 ≤ (g9 196 7) ∧ (g9 196 7) ≤ 16 := I_16.1 196 7
    have m_31 : g9 196 7 = g7 196 7 := by rw [e_15]; exact zi_u_ne (by decide)
    intro g10 e_27
    have I_28 : zk_I g10 := by rw [e_27]; exact zk_upd (L := 0) (H := 16) rfl rfl I_16 ⟨by omega, by omega⟩
    have F_29 : zk_fr fr_Law_addLine g g10 := by rw [e_27]; exact zk_fu F_17 (Or.inr (Or.inr (Or.inr (Or.inr ⟨rfl, rfl⟩))))
    exact hQ _ I_28 F_29
-- SpoutNews$LawReader.push(I)V
theorem k_LawReader_push {l1 : Int} {g : zi_M} {Q : Int → zi_M → Prop} (I : zk_I g) (p1 : (-1) ≤ l1 ∧ l1 ≤ 9999) (hQ : ∀ g' : zi_M, zk_I g' → zk_fr fr_LawReader_push g g' → (g 212 1 < 40 → g' 212 1 = g 212 1 + 1 ∧ g' 213 (g 212 1) = l1 ∧ ∀ i : Int, ¬ i = g 212 1 → g' 213 i = g 213 i) → Q 0 g') : w_LawReader_push l1 g Q := by
  unfold w_LawReader_push
  have h0 : 0 ≤ g 212 1 := (I.1 212 1).1
  have h1 : g 212 1 ≤ 40 := (I.1 212 1).2
  refine ⟨zk_rng I _ _, fun h => hQ g I (zk_f0 _) (fun q => by omega), fun h => ⟨⟨h0, h⟩, ?_⟩⟩
  intro g3 e3 g4 e4
  have I3 : zk_I g3 := by rw [e3]; exact zk_upd (L := -2147483648) (H := 2147483647) rfl rfl I ⟨by omega, by omega⟩
  have a1 : g3 212 1 = g 212 1 := by rw [e3]; exact zi_u_ne (by decide)
  have I4 : zk_I g4 := by rw [e4]; exact zk_upd (L := 0) (H := 40) rfl rfl I3 ⟨by omega, by omega⟩
  refine hQ g4 I4 ?_ (fun _ => ⟨?_, ?_, ?_⟩)
  · rw [e4, e3]; exact zk_fu (zk_fu (zk_f0 _) (Or.inl rfl)) (Or.inr ⟨rfl, rfl⟩)
  · rw [e4, zi_u_eq, a1]
  · rw [e4, zi_u_ne (by decide), e3, zi_u_eq]
  · intro i hi
    rw [e4, zi_u_ne (by decide), e3, zi_u_ni hi]

-- SpoutNews$LawReader.openAll(LSpoutNews$Tokens;)Z
theorem k_LawReader_openAll_l2 {g0 : zi_M} {K29 K40 K94 : zi_M → Prop} {Q : Int → zi_M → Prop} (hK29 : ∀ g P, zk_I g → zk_fr fr_LawReader_openAll g0 g → zB P g → K29 g) (hK40 : ∀ g, zk_I g → zk_fr fr_LawReader_openAll g0 g → K40 g) (hK94 : ∀ g P, zk_I g → zk_fr fr_LawReader_openAll g0 g → zB P g → K94 g) :
    ∀ (n : Nat) (l2 : Int) (P : List Int) (g : zi_M), zk_I g → zk_fr fr_LawReader_openAll g0 g → zB P g → 0 ≤ l2 → l2 ≤ 9 → 9 - l2 < (n : Int) → w_LawReader_openAll_l2 K29 K40 K94 Q n l2 g
  | 0, l2, P, g, I, F, h, h0, h1, hm => by exfalso; omega
  | n + 1, l2, P, g, I, F, h, h0, h1, hm => by
    have b0 : 0 ≤ g 212 2 := (I.1 212 2).1
    have p0 : 0 ≤ g 212 3 := (I.1 212 3).1
    have ln := h.len I
    have q := h.q1
    have b31 : ∀ v : Int, (v = 0 ∨ v = 1) → l2 ≤ 8 → w_LawReader_openAll_b31 l2 v g (w_LawReader_openAll_l2 K29 K40 K94 Q n) K29 K40 K94 Q := by
      intro v hv hl
      unfold w_LawReader_openAll_b31
      refine ⟨zk_rng I _ _, fun h8 => ?_, fun _ => hK40 g I F⟩
      intro g6 e6
      have I6 : zk_I g6 := by rw [e6]; exact zk_upd (L := 0) (H := 8) rfl rfl I ⟨by omega, by omega⟩
      have F6 : zk_fr fr_LawReader_openAll g0 g6 := by rw [e6]; exact zk_fu F (Or.inr (Or.inr (Or.inr (Or.inr (Or.inr (Or.inl ⟨rfl, rfl⟩))))))
      have fin : ∀ (x : Int) (g' : zi_M), (x = 6 ∨ x = 0) → zk_I g' → zk_fr fr_LawReader_openAll g0 g' → g' 212 1 = g 212 1 → g' 212 2 = g 212 2 + 1 → g' 212 3 = g 212 3 + (if x = 0 ∨ x = 0 then 1 else 0) → (∀ i, g' 213 i = g 213 i) → w_LawReader_push x g' (fun _ g10 => w_Tokens_step g10 (fun _ g13 => w_LawReader_openAll_l2 K29 K40 K94 Q n (l2 + 1) g13)) := by
        intro x g' hx I' F' a1 a2 a3 a4
        refine k_LawReader_push I' ⟨by omega, by omega⟩ (fun g10 I10 F10 hp => ?_)
        obtain ⟨w1, w2, w3⟩ := hp (by omega)
        have z10 : zB (x :: P) g10 := by
          refine h.u ⟨h.ok, by omega⟩ (by rw [w1, a1]) (by rw [← a1]; exact w2) (fun i hi => by rw [w3 i (by omega), a4]) ?_ ?_
          · rw [F10 _ _ (by unfold fr_LawReader_push; omega), a2, if_pos hx]
          · rw [F10 _ _ (by unfold fr_LawReader_push; omega), a3]
        have G10 : zk_fr fr_LawReader_openAll g0 g10 := zk_ft F' F10 (fun a i h => h.elim Or.inl (fun h => Or.inr (Or.inr (Or.inr (Or.inr (Or.inl h))))))
        refine k_Tokens_step I10 (fun g13 I13 F13 _ => ?_)
        refine k_LawReader_openAll_l2 hK29 hK40 hK94 n (l2 + 1) (x :: P) g13 I13 (zk_ft G10 F13 (fun a i h => Or.inr (Or.inl h))) (z10.c ?_ ?_ ?_ (fun i => ?_)) (by omega) (by omega) (by omega) <;> exact F13 _ _ (by unfold fr_Tokens_step; omega)
      have c1 : g6 212 1 = g 212 1 := by rw [e6]; exact zi_u_ni (by decide)
      have c2 : g6 212 2 = g 212 2 + 1 := by rw [e6, zi_u_eq]
      have c3 : g6 212 3 = g 212 3 := by rw [e6]; exact zi_u_ni (by decide)
      have c4 : ∀ i, g6 213 i = g 213 i := fun i => by rw [e6]; exact zi_u_ne (by decide)
      refine ⟨⟨by omega, by omega⟩, fun ez => ?_, fun nz => ?_⟩
      · unfold w_LawReader_openAll_b70
        exact ⟨⟨by omega, by omega⟩, fun _ => fin 6 g6 (Or.inl rfl) I6 F6 c1 c2 (by rw [c3, if_neg (by decide)]; omega) c4, fun n => absurd ez n⟩
      · intro g22 e22
        have pl : zl_of 0 0 P ≤ P.length := zl_ofl 0 0 P
        have po : zl_of 0 0 P ≤ zl_of 6 0 P := zl_of_le P
        have h3 := h.pr
        have h2 := h.op
        have I22 : zk_I g22 := by rw [e22]; exact zk_upd (L := 0) (H := 8) rfl rfl I6 ⟨by omega, by omega⟩
        have F22 : zk_fr fr_LawReader_openAll g0 g22 := by rw [e22]; exact zk_fu F6 (Or.inr (Or.inr (Or.inr (Or.inr (Or.inr (Or.inr ⟨rfl, rfl⟩))))))
        unfold w_LawReader_openAll_b70
        exact ⟨⟨by omega, by omega⟩, fun e => absurd e nz, fun _ => fin 0 g22 (Or.inr rfl) I22 F22 (by rw [e22, zi_u_ni (by decide)]; exact c1) (by rw [e22, zi_u_ni (by decide)]; exact c2) (by rw [e22, zi_u_eq, c3, if_pos (Or.inl rfl)]) (fun i => by rw [e22, zi_u_ne (by decide)]; exact c4 i)⟩
    unfold w_LawReader_openAll_l2
    refine ⟨⟨by omega, by omega⟩, fun _ => hK94 g P I F h, fun hl => ?_⟩
    refine k_Tokens_isAt I ⟨by decide, by decide⟩ ⟨by decide, by decide⟩ (fun v2 d1 d2 d3 d4 => ?_)
    have hv2 : v2 = 0 ∨ v2 = 1 := by omega
    refine ⟨fun _ => b31 v2 hv2 hl, fun _ => ?_⟩
    have r := I.1 193 (g 191 4)
    have r1 : -1 ≤ g 193 (g 191 4) := r.1
    have r2 : g 193 (g 191 4) ≤ 9999 := r.2
    refine k_Tokens_keyword I (fun v25 f1 f2 f3 => ⟨⟨by omega, by omega⟩, fun _ => b31 v2 hv2 hl, fun _ => hK29 g P I F h⟩)
theorem k_LawReader_openAll {g : zi_M} {Q : Int → zi_M → Prop} (I : zk_I g) (px0 : ∃ P, zB P g) (hQ : ∀ (v : Int) (g' : zi_M), zk_I g' → zk_fr fr_LawReader_openAll g g' → (0 ≤ v ∧ v ≤ 1) → (¬ v = 0 → ∃ P, zB P g') → Q v g') : w_LawReader_openAll g Q := by
  unfold w_LawReader_openAll
  obtain ⟨P, hP⟩ := px0
  refine ⟨10, k_LawReader_openAll_l2 (g0 := g) (fun g' P' I' F' z => hQ _ _ I' F' ⟨by decide, by decide⟩ (fun _ => ⟨_, z⟩)) (fun g' I' F' => ?_) (fun g' P' I' F' z => hQ _ _ I' F' ⟨by decide, by decide⟩ (fun _ => ⟨_, z⟩)) 10 0 P g I (zk_f0 _) hP (by omega) (by omega) (by omega)⟩
  refine k_Tokens_refuse I' ⟨by decide, by decide⟩ (fun v g'' I'' F'' hv _ => hQ _ _ I'' (zk_ft F' F'' (fun a i h => ?_)) ⟨by omega, by omega⟩ (fun n => by omega))
  unfold fr_Tokens_refuse at h
  unfold fr_LawReader_openAll
  rcases h with h | h <;> simp [h]

