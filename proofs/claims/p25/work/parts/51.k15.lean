-- by program (wip/gen/mkz.py)
-- SpoutNews$Tokens.sameLetters([IILjava/lang/String;II)Z
set_option maxRecDepth 100000 in
set_option maxHeartbeats 4000000 in
theorem k_Tokens_sameLetters_l3 {g : zi_M} {r2 : Nat} (hr2 : zs_str r2) (I : zk_I g) {l1 : Int} {l3 : Int} {l4 : Int} {K27 : zi_M → Prop} {K35 : zi_M → Prop} {Q : Int → zi_M → Prop} (q1 : 0 ≤ l1 ∧ l1 ≤ 399) (q3 : 0 ≤ l3 ∧ l3 ≤ 80) (q4 : 0 ≤ l4 ∧ l4 ≤ 80) (hK27 : (¬ zSl (g 190) r2 l1 l3 l4) → K27 g) (hK35 : (zSl (g 190) r2 l1 l3 l4) → K35 g) (hQ : ∀ v : Int, (0 ≤ v ∧ v ≤ 1) → (zSl (g 190) r2 l1 l3 l4 → v = 1) → (¬ v = 0 → zSl (g 190) r2 l1 l3 l4) → Q v g) : ∀ (n : Nat) {l5 : Int}, (0 ≤ l5 ∧ l5 ≤ 80) → (l1 + l4 - l3 ≤ 400) → (l4 ≤ zs_sl r2) → (l3 ≤ l5) → (zSl (g 190) r2 l1 l3 l5) → 80 - l5 < (n : Int) → w_Tokens_sameLetters_l3 r2 l1 l3 l4 K27 K35 Q n l5 g
  | 0, l5, b0, b1, b2, b3, b4, hm => by exfalso; omega
  | n + 1, l5, b0, b1, b2, b3, b4, hm => by
    unfold w_Tokens_sameLetters_l3
    refine ⟨⟨by omega, by omega⟩, ⟨by omega, by omega⟩, ?_⟩
    refine ⟨fun c7 => ?_, fun c7 => ?_⟩
    · exact hK35 (by exact zSl_x b4 (by omega))
    · refine ⟨⟨by omega, by omega⟩, ?_⟩
      have m_1 := zs_slb hr2
      refine ⟨⟨by omega, by omega⟩, ?_⟩
      have m_2 : 0 ≤ (g 190 ((l1 + l5) - l3)) ∧ (g 190 ((l1 + l5) - l3)) ≤ 255 := I.1 190 ((l1 + l5) - l3)
      refine ⟨⟨by omega, by omega⟩, ?_⟩
      have m_3 := zs_scb r2 l5
      refine ⟨fun c6 => ?_, fun c6 => ?_⟩
      · exact k_Tokens_sameLetters_l3 hr2 I q1 q3 q4 hK27 hK35 hQ n ⟨by omega, by omega⟩ (by omega) (by omega) (by omega) (by first | exact zSl_s b4 (by assumption) | exact zSl_0) (by omega)
      · exact hK27 (by exact zSl_n (by omega) (by omega) (by assumption))
set_option maxRecDepth 100000 in
set_option maxHeartbeats 4000000 in
theorem k_Tokens_sameLetters {r2 : Nat} (hr2 : zs_str r2) {l1 : Int} {l3 : Int} {l4 : Int} {g : zi_M} {Q : Int → zi_M → Prop} (I : zk_I g) (p1 : 0 ≤ l1 ∧ l1 ≤ 399) (p3 : 0 ≤ l3 ∧ l3 ≤ 80) (p4 : 0 ≤ l4 ∧ l4 ≤ 80) (px0 : l1 + l4 - l3 ≤ 400) (px1 : l4 ≤ zs_sl r2) (px2 : l3 ≤ l4) (hQ : ∀ v : Int, (0 ≤ v ∧ v ≤ 1) → (zSl (g 190) r2 l1 l3 l4 → v = 1) → (¬ v = 0 → zSl (g 190) r2 l1 l3 l4) → Q v g) : w_Tokens_sameLetters r2 l1 l3 l4 g Q := by
  unfold w_Tokens_sameLetters
  refine ⟨((80 - l3 : Int).toNat + 1), k_Tokens_sameLetters_l3 (l1 := l1) (l3 := l3) (l4 := l4) hr2 I ⟨by omega, by omega⟩ ⟨by omega, by omega⟩ ⟨by omega, by omega⟩ (fun b_4 => ?_) (fun b_5 => ?_) hQ ((80 - l3 : Int).toNat + 1) ⟨by omega, by omega⟩ (by omega) (by omega) (by omega) (by first | exact zSl_s b4 (by assumption) | exact zSl_0) (by omega)⟩
  · exact hQ _ ⟨by omega, by omega⟩ (by intro hv; first | rfl | exact absurd hv (by assumption)) (by intro hv; first | assumption | (exfalso; omega))
  · exact hQ _ ⟨by omega, by omega⟩ (by intro hv; first | rfl | exact absurd hv (by assumption)) (by intro hv; first | assumption | (exfalso; omega))
-- SpoutNews$Tokens.keywordAt([IIILjava/lang/String;)I
theorem k_Tokens_keywordAt_b74 {r3 : Nat} (hr3 : zs_str r3) {l1 l2 l4 l5 l6 s0 : Int} {g : zi_M} {H : Int → Int → Int → zi_M → Prop} {K94 : Int → zi_M → Prop} {K112 : zi_M → Prop} {Q : Int → zi_M → Prop} (I : zk_I g) (q1 : 0 ≤ l1 ∧ l1 ≤ 399) (q2 : 1 ≤ l2 ∧ l2 ≤ 400) (qs : 0 ≤ s0 ∧ s0 ≤ 1) (hv : zKv r3 (g 190) l1 l2 l4 l5 l6) (hl : l5 ≤ zs_sl r3) (hw : l6 = zs_sl r3 ∨ (l6 < zs_sl r3 ∧ zs_sc r3 l6 = 32)) (h0 : s0 = 0 → ∀ b : Int, zrn zlt (g 190) l2 l1 b → ¬ b = l1 + l6 - l5) (h1 : ¬ s0 = 0 → l1 + l6 - l5 ≤ l2 ∧ (l1 + l6 - l5 < l2 → ¬ zlt (g 190 (l1 + l6 - l5)))) (hH : zKv r3 (g 190) l1 l2 (l4 + 1) (l6 + 1) (l6 + 1) → H (l4 + 1) (l6 + 1) (l6 + 1) g) (hK : 0 ≤ l4 → l4 ≤ 81 → (∀ b : Int, zrn zlt (g 190) l2 l1 b → zKw r3 (g 190) l1 b l4) → K94 l4 g) : w_Tokens_keywordAt_b74 r3 l1 l2 l4 l5 l6 s0 g H K94 K112 Q := by
  have hb := zs_slb hr3
  have ks := zKv_w hv hw hl
  have a1 := hv.1
  have a2 := hv.2.1
  unfold w_Tokens_keywordAt_b74
  refine ⟨⟨by omega, by omega⟩, fun e => hH (zKv_n hv hl hw (fun b hb' m => h0 e b hb' (zKm_s m).2)), fun ne => ?_⟩
  have w := h1 ne
  refine k_Tokens_sameLetters hr3 I q1 ⟨by omega, by omega⟩ ⟨by omega, by omega⟩ (by omega) (by omega) (by omega) (fun v5 b1 c1 c2 => ⟨fun e => hH (zKv_n hv hl hw (fun b hb' m => ?_)), fun ne2 => ?_⟩)
  · have := c1 (zKm_s m).1
    omega
  · have sl := c2 ne2
    have z := zKm_r hr3 ks sl w.1 w.2
    refine hK a2.1 (by omega) (fun b hb' => ?_)
    rw [zrn_u hb' z.1]
    exact ⟨l5, l6, ks, (hv.2.2.1 hl).1.symm, z.2⟩
theorem k_Tokens_keywordAt_b38 {r3 : Nat} (hr3 : zs_str r3) {l1 l2 l4 l5 l6 : Int} {g : zi_M} {H : Int → Int → Int → zi_M → Prop} {K94 : Int → zi_M → Prop} {K112 : zi_M → Prop} {Q : Int → zi_M → Prop} (I : zk_I g) (q1 : 0 ≤ l1 ∧ l1 ≤ 399) (q2 : 1 ≤ l2 ∧ l2 ≤ 400) (hv : zKv r3 (g 190) l1 l2 l4 l5 l6) (hl : l5 ≤ zs_sl r3) (hw : l6 = zs_sl r3 ∨ (l6 < zs_sl r3 ∧ zs_sc r3 l6 = 32)) (hH : zKv r3 (g 190) l1 l2 (l4 + 1) (l6 + 1) (l6 + 1) → H (l4 + 1) (l6 + 1) (l6 + 1) g) (hK : 0 ≤ l4 → l4 ≤ 81 → (∀ b : Int, zrn zlt (g 190) l2 l1 b → zKw r3 (g 190) l1 b l4) → K94 l4 g) : w_Tokens_keywordAt_b38 r3 l1 l2 l4 l5 l6 g H K94 K112 Q := by
  have hb := zs_slb hr3
  have a1 := hv.1
  have r2 : 0 ≤ g 190 (l1 + l6 - l5) ∧ g 190 (l1 + l6 - l5) ≤ 255 := I.1 190 _
  unfold w_Tokens_keywordAt_b38
  refine ⟨⟨by omega, by omega⟩, ⟨by omega, by omega⟩, fun e => ?_, fun ne => ⟨fun ge => ?_, fun lt => ⟨⟨by omega, by omega⟩, ?_⟩⟩⟩
  · exact k_Tokens_keywordAt_b74 hr3 I q1 q2 (by decide) hv hl hw (fun e => absurd e (by decide)) (fun _ => ⟨by omega, fun w => by omega⟩) hH hK
  · exact k_Tokens_keywordAt_b74 hr3 I q1 q2 (by decide) hv hl hw (fun _ b hb' e => by have := hb'.1; omega) (fun n => absurd rfl n) hH hK
  · refine k_Tokens_isLetter I ⟨by omega, by omega⟩ (fun v c1 c2 c3 c4 c5 c6 c7 c8 c9 => ⟨fun n => ?_, fun e => ?_⟩)
    · exact k_Tokens_keywordAt_b74 hr3 I q1 q2 (by decide) hv hl hw (fun _ b hb' e => by
        have w := hb'.2.2 (by omega)
        rw [e] at w
        exact n (c9 w)) (fun n => absurd rfl n) hH hK
    · exact k_Tokens_keywordAt_b74 hr3 I q1 q2 (by decide) hv hl hw (fun e => absurd e (by decide)) (fun _ => ⟨by omega, fun _ w => by have := c8 w; omega⟩) hH hK
theorem k_Tokens_keywordAt_l9 {r3 : Nat} (hr3 : zs_str r3) {l1 l2 : Int} {g : zi_M} {K94 : Int → zi_M → Prop} {K112 : zi_M → Prop} {Q : Int → zi_M → Prop} (I : zk_I g) (q1 : 0 ≤ l1 ∧ l1 ≤ 399) (q2 : 1 ≤ l2 ∧ l2 ≤ 400) (hK : ∀ k : Int, 0 ≤ k → k ≤ 81 → (∀ b : Int, zrn zlt (g 190) l2 l1 b → zKw r3 (g 190) l1 b k) → K94 k g) (hN : (∀ b : Int, zrn zlt (g 190) l2 l1 b → ∀ j : Int, ¬ zKw r3 (g 190) l1 b j) → K112 g) :
    ∀ (m : Nat) (l4 l5 l6 : Int), zKv r3 (g 190) l1 l2 l4 l5 l6 → zs_sl r3 + 1 - l6 < (m : Int) → w_Tokens_keywordAt_l9 r3 l1 l2 K94 K112 Q m l4 l5 l6 g
  | 0, l4, l5, l6, hv, hm => by
    have := hv.1
    exfalso; omega
  | m + 1, l4, l5, l6, hv, hm => by
    have hb := zs_slb hr3
    have a1 := hv.1
    unfold w_Tokens_keywordAt_l9
    refine ⟨⟨by omega, by omega⟩, fun c => hN (fun b hb' j k => ?_), fun c => ⟨fun e => ?_, fun ne => ⟨⟨by omega, by omega⟩, fun n32 => ?_, fun e32 => ?_⟩⟩⟩
    · obtain ⟨st, sp, k1, k2, k3⟩ := k
      exact hv.2.2.2.2 b hb' st sp k1 (by have := k1.1; omega) k3
    · exact k_Tokens_keywordAt_b38 hr3 I q1 q2 hv (by omega) (Or.inl e) (fun h => k_Tokens_keywordAt_l9 hr3 I q1 q2 hK hN m _ _ _ h (by omega)) (hK l4)
    · exact k_Tokens_keywordAt_l9 hr3 I q1 q2 hK hN m _ _ _ (zKv_ch hv (by omega) n32) (by omega)
    · exact k_Tokens_keywordAt_b38 hr3 I q1 q2 hv (by omega) (Or.inr ⟨by omega, e32⟩) (fun h => k_Tokens_keywordAt_l9 hr3 I q1 q2 hK hN m _ _ _ h (by omega)) (hK l4)
theorem k_Tokens_keywordAt {r3 : Nat} (hr3 : zs_str r3) {l1 : Int} {l2 : Int} {g : zi_M} {Q : Int → zi_M → Prop} (I : zk_I g) (p1 : 0 ≤ l1 ∧ l1 ≤ 399) (p2 : 1 ≤ l2 ∧ l2 ≤ 400) (hQ : ∀ v : Int, ((-1) ≤ v ∧ v ≤ 81) → (0 ≤ v → ∀ b : Int, zrn zlt (g 190) l2 l1 b → zKw r3 (g 190) l1 b v) → (v = -1 → ∀ b : Int, zrn zlt (g 190) l2 l1 b → ∀ j : Int, ¬ zKw r3 (g 190) l1 b j) → Q v g) : w_Tokens_keywordAt r3 l1 l2 g Q := by
  have hb := zs_slb hr3
  unfold w_Tokens_keywordAt
  exact ⟨80, k_Tokens_keywordAt_l9 hr3 I p1 p2 (fun k k0 k1 h => hQ k ⟨by omega, by omega⟩ (fun _ => h) (fun e => by omega)) (fun h => hQ (-1) ⟨by omega, by omega⟩ (fun e => by omega) (fun _ => h)) 80 0 0 0 (zKv_0 (by omega)) (by omega)⟩

-- SpoutNews$Tokens.split([IILjava/lang/String;)V
/-- what the loop of split keeps -/
noncomputable def zSv (r : Nat) (g0 : zi_M) (n i : Int) (g : zi_M) : Prop := (zk_I g ∧ zk_fr (fr_Tokens_split r) g0 g) ∧ (0 ≤ g 191 3 ∧ g 191 3 ≤ i) ∧ (g 191 4 = 0 ∧ g 191 5 = 0 ∧ g 191 6 = -1) ∧ zSi r (g0 190) n (g 192) (g 193) (g 194) (g 191 3) i
theorem zSv_no {r : Nat} {g0 g : zi_M} {n i : Int} (h : zSv r g0 n i g) (hn : ¬ zSt (g0 190) i) : zSv r g0 n (i + 1) g := ⟨h.1, ⟨h.2.1.1, by have := h.2.1.2; omega⟩, h.2.2.1, zSi_no h.2.2.2 hn⟩
theorem zSv_add {r : Nat} {g0 g g' : zi_M} {n i kd vl : Int} (h : zSv r g0 n i g) (hi : 0 ≤ i) (hs : zSt (g0 190) i) (hk : zCk r (g0 190) n i kd vl) (I' : zk_I g') (F' : zk_fr fr_Tokens_add g g') (hc : g' 191 3 = g 191 3 + 1) (hr : g' 192 = zup (g 192) (g 191 3) kd ∧ g' 193 = zup (g 193) (g 191 3) vl ∧ g' 194 = zup (g 194) (g 191 3) i) : zSv r g0 n (i + 1) g' := by
  obtain ⟨⟨I, F⟩, h2, h3, h4⟩ := h
  refine ⟨⟨I', zk_ft F F' (fun a i h => by unfold fr_Tokens_add at h; unfold fr_Tokens_split; omega)⟩, ⟨by omega, by omega⟩, ?_, ?_⟩
  · rw [F' 191 4 (by unfold fr_Tokens_add; omega), F' 191 5 (by unfold fr_Tokens_add; omega), F' 191 6 (by unfold fr_Tokens_add; omega)]
    exact h3
  · rw [hr.1, hr.2.1, hr.2.2, hc]
    exact zSi_add h4 h2.1 hi hs hk
theorem k_Tokens_split_b67 {r3 : Nat} (hr3 : zs_str r3) {l2 l4 s0 : Int} {g0 g : zi_M} {H : Int → zi_M → Prop} {K209 : zi_M → Prop} {Q : Int → zi_M → Prop} (q2 : 1 ≤ l2 ∧ l2 ≤ 400) (q4 : 0 ≤ l4 ∧ l4 < l2) (qs : 0 ≤ s0 ∧ s0 ≤ 1) (hv : zSv r3 g0 l2 l4 g) (hg : s0 = 0 → ¬ (0 < l4 ∧ ((zlt (g0 190 l4) ∧ zlt (g0 190 (l4 - 1))) ∨ (zdt (g0 190 l4) ∧ zdt (g0 190 (l4 - 1)))))) (hg1 : ¬ s0 = 0 → ¬ zSt (g0 190) l4) (hH : ∀ g', zSv r3 g0 l2 (l4 + 1) g' → H (l4 + 1) g') : w_Tokens_split_b67 r3 l2 l4 s0 g H K209 Q := by
  have I := hv.1.1
  have F := hv.1.2
  have c4 := hv.2.1
  have ef : g 190 = g0 190 := funext (fun i => F 190 i (by unfold fr_Tokens_split; omega))
  have r2 : 0 ≤ g 190 l4 ∧ g 190 l4 ≤ 255 := I.1 190 l4
  have add : ∀ kd vl : Int, 0 ≤ kd → kd ≤ 4 → -1 ≤ vl → vl ≤ 9999 → ¬ zbk (g0 190 l4) → s0 = 0 → zCk r3 (g0 190) l2 l4 kd vl → w_Tokens_add kd vl l4 g (fun _ g19 => H (l4 + 1) g19) := by
    intro kd vl k0 k1 v0 v1 nb es ck
    exact k_Tokens_add I ⟨k0, k1⟩ ⟨v0, v1⟩ ⟨by omega, by omega⟩ (fun g' I' F' h1 h2 => hH g' (zSv_add hv q4.1 ⟨nb, hg es⟩ ck I' F' (h1 (by omega)) (h2 (by omega))))
  unfold w_Tokens_split_b67
  refine ⟨⟨by omega, by omega⟩, fun n0 => hH g (zSv_no hv (hg1 n0)), fun e0 => ⟨⟨by omega, by omega⟩, ⟨by omega, by omega⟩, fun e32 => hH g (zSv_no hv (fun z => z.1 (Or.inl (by rw [← ef]; exact e32)))), fun n32 => ⟨fun n10 => ?_, fun e10 => hH g (zSv_no hv (fun z => z.1 (Or.inr (by rw [← ef]; exact e10))))⟩⟩⟩
  have nb : ¬ zbk (g0 190 l4) := fun z => by
    rw [← ef] at z
    unfold zbk at z
    omega
  refine k_Tokens_isLetter I ⟨by omega, by omega⟩ (fun v9 a1 a2 a3 a4 a5 a6 a7 a8 a9 => ⟨fun e9 => ?_, fun n9 => ?_⟩)
  · have nl : ¬ zlt (g0 190 l4) := fun z => by rw [← ef] at z; have := a8 z; omega
    refine k_Tokens_isDigit I ⟨by omega, by omega⟩ (fun v12 b1 b2 b3 => ⟨fun e12 => ?_, fun n12 => ?_⟩)
    · have nd : ¬ zdt (g0 190 l4) := fun z => by rw [← ef] at z; unfold zdt at z; omega
      refine k_Tokens_isSignOfLaw I ⟨by omega, by omega⟩ (fun v15 => ?_)
      intros
      rename_i y1 y2
      refine ⟨fun e15 => ?_, fun n15 => ?_⟩
      · exact add 0 (g 190 l4) (by decide) (by decide) (by omega) (by omega) nb e0 (Or.inr (Or.inr ⟨nl, nd, Or.inr ⟨rfl, fun z => by rw [← ef] at z; have := y1 z; omega⟩⟩))
      · exact add 3 (g 190 l4) (by decide) (by decide) (by omega) (by omega) nb e0 (Or.inr (Or.inr ⟨nl, nd, Or.inl ⟨rfl, by rw [← ef]; exact Classical.byContradiction (fun z => n15 (y2 z)), by rw [ef]⟩⟩))
    · have dg : zdt (g0 190 l4) := by rw [← ef]; unfold zdt; omega
      refine k_Tokens_numberAt I ⟨by omega, by omega⟩ ⟨by omega, by omega⟩ (fun v25 c1 c2 => ⟨⟨by omega, by omega⟩, fun n25 => ?_, fun e25 => ?_⟩)
      · obtain ⟨b, hb⟩ := zrn_ex (P := zdt) (f := g0 190) (n := l2) (a := l4) q4.2 dg
        have h := c2 b (by rw [ef]; exact hb)
        refine add 1 v25 (by decide) (by decide) (by omega) (by omega) nb e0 (Or.inr (Or.inl ⟨dg, b, hb, ?_⟩))
        by_cases q : b - l4 < 5
        · have := h.1 q
          rw [ef] at this
          exact Or.inl ⟨rfl, q, this⟩
        · exact absurd (h.2 (by omega)) n25
      · obtain ⟨b, hb⟩ := zrn_ex (P := zdt) (f := g0 190) (n := l2) (a := l4) q4.2 dg
        have h := c2 b (by rw [ef]; exact hb)
        refine add 0 v25 (by decide) (by decide) (by omega) (by omega) nb e0 (Or.inr (Or.inl ⟨dg, b, hb, Or.inr ⟨rfl, ?_⟩⟩))
        by_cases q : b - l4 < 5
        · have h1 := h.1 q
          have := zdec_0 (f := g 190) (n := l2) (a := l4) (b := b) (by rw [ef]; exact hb)
          omega
        · omega
  · have lt : zlt (g0 190 l4) := by rw [← ef]; exact Classical.byContradiction (fun z => n9 (a9 z))
    obtain ⟨b, hb⟩ := zrn_ex (P := zlt) (f := g0 190) (n := l2) (a := l4) q4.2 lt
    refine k_Tokens_keywordAt hr3 I ⟨by omega, by omega⟩ ⟨by omega, by omega⟩ (fun v37 c1 c2 c3 => ⟨⟨by omega, by omega⟩, fun n37 => ?_, fun e37 => ?_⟩)
    · have h := c2 (by omega) b (by rw [ef]; exact hb)
      rw [ef] at h
      exact add 2 v37 (by decide) (by decide) (by omega) (by omega) nb e0 (Or.inl ⟨lt, b, hb, Or.inl ⟨rfl, h⟩⟩)
    · have h := c3 e37 b (by rw [ef]; exact hb)
      rw [ef] at h
      exact add 0 v37 (by decide) (by decide) (by omega) (by omega) nb e0 (Or.inl ⟨lt, b, hb, Or.inr ⟨rfl, h⟩⟩)
theorem k_Tokens_split_b40 {r3 : Nat} (hr3 : zs_str r3) {l2 l4 : Int} {g0 g : zi_M} {H : Int → zi_M → Prop} {K209 : zi_M → Prop} {Q : Int → zi_M → Prop} (q2 : 1 ≤ l2 ∧ l2 ≤ 400) (q4 : 0 < l4 ∧ l4 < l2) (hv : zSv r3 g0 l2 l4 g) (hl : ¬ (zlt (g0 190 l4) ∧ zlt (g0 190 (l4 - 1)))) (hH : ∀ g', zSv r3 g0 l2 (l4 + 1) g' → H (l4 + 1) g') : w_Tokens_split_b40 r3 l2 l4 g H K209 Q := by
  have I := hv.1.1
  have ef : g 190 = g0 190 := funext (fun i => hv.1.2 190 i (by unfold fr_Tokens_split; omega))
  have r2 : 0 ≤ g 190 l4 ∧ g 190 l4 ≤ 255 := I.1 190 l4
  have r3' : 0 ≤ g 190 (l4 - 1) ∧ g 190 (l4 - 1) ≤ 255 := I.1 190 (l4 - 1)
  unfold w_Tokens_split_b40
  refine ⟨⟨by omega, by omega⟩, k_Tokens_isDigit I ⟨by omega, by omega⟩ (fun v57 a1 a2 a3 => ⟨fun e => ?_, fun ne => ⟨⟨by omega, by omega⟩, k_Tokens_isDigit I ⟨by omega, by omega⟩ (fun v61 b1 b2 b3 => ⟨fun e => ?_, fun ne2 => ?_⟩)⟩⟩)⟩
  · refine k_Tokens_split_b67 hr3 q2 ⟨by omega, q4.2⟩ (by decide) hv (fun _ w => ?_) (fun n => absurd rfl n) hH
    rcases w.2 with w | w
    · exact hl w
    · have := w.1
      rw [← ef] at this
      unfold zdt at this
      omega
  · refine k_Tokens_split_b67 hr3 q2 ⟨by omega, q4.2⟩ (by decide) hv (fun _ w => ?_) (fun n => absurd rfl n) hH
    rcases w.2 with w | w
    · exact hl w
    · have := w.2
      rw [← ef] at this
      unfold zdt at this
      omega
  · refine k_Tokens_split_b67 hr3 q2 ⟨by omega, q4.2⟩ (by decide) hv (fun e => absurd e (by decide)) (fun _ z => z.2 ⟨q4.1, Or.inr ⟨?_, ?_⟩⟩) hH
    · rw [← ef]; unfold zdt; omega
    · rw [← ef]; unfold zdt; omega
theorem k_Tokens_split_l7 {r3 : Nat} (hr3 : zs_str r3) {l2 : Int} {g0 : zi_M} {K209 : zi_M → Prop} {Q : Int → zi_M → Prop} (q2 : 0 ≤ l2 ∧ l2 ≤ 400) (hK : ∀ g, zSv r3 g0 l2 l2 g → K209 g) : ∀ (m : Nat) (l4 : Int) (g : zi_M), 0 ≤ l4 → l4 ≤ l2 → zSv r3 g0 l2 l4 g → l2 - l4 < (m : Int) → w_Tokens_split_l7 r3 l2 K209 Q m l4 g
  | 0, l4, g, h0, h1, hv, hm => by exfalso; omega
  | m + 1, l4, g, h0, h1, hv, hm => by
    have I := hv.1.1
    have ef : g 190 = g0 190 := funext (fun i => hv.1.2 190 i (by unfold fr_Tokens_split; omega))
    have r2 : 0 ≤ g 190 l4 ∧ g 190 l4 ≤ 255 := I.1 190 l4
    have r3' : 0 ≤ g 190 (l4 - 1) ∧ g 190 (l4 - 1) ≤ 255 := I.1 190 (l4 - 1)
    unfold w_Tokens_split_l7
    refine ⟨⟨by omega, by omega⟩, ⟨by omega, by omega⟩, fun c => hK g (by rw [show l2 = l4 by omega] at hv ⊢; exact hv), fun c => ?_⟩
    have hH : ∀ g', zSv r3 g0 l2 (l4 + 1) g' → w_Tokens_split_l7 r3 l2 K209 Q m (l4 + 1) g' := fun g' hv' => k_Tokens_split_l7 hr3 q2 hK m (l4 + 1) g' (by omega) (by omega) hv' (by omega)
    refine ⟨fun z => k_Tokens_split_b67 hr3 ⟨by omega, q2.2⟩ ⟨h0, c⟩ (by decide) hv (fun _ w => by have := w.1; omega) (fun n => absurd rfl n) hH, fun z => ⟨⟨by omega, by omega⟩, ?_⟩⟩
    refine k_Tokens_isLetter I ⟨by omega, by omega⟩ (fun v53 a1 a2 a3 a4 a5 a6 a7 a8 a9 => ⟨fun e => ?_, fun ne => ⟨⟨by omega, by omega⟩, ?_⟩⟩)
    · exact k_Tokens_split_b40 hr3 ⟨by omega, q2.2⟩ ⟨z, c⟩ hv (fun w => by have := w.1; rw [← ef] at this; have := a8 this; omega) hH
    · refine k_Tokens_isLetter I ⟨by omega, by omega⟩ (fun v67 b1 b2 b3 b4 b5 b6 b7 b8 b9 => ⟨fun ne2 => ?_, fun e => ?_⟩)
      · refine k_Tokens_split_b67 hr3 ⟨by omega, q2.2⟩ ⟨h0, c⟩ (by decide) hv (fun e => absurd e (by decide)) (fun _ w => w.2 ⟨z, Or.inl ⟨?_, ?_⟩⟩) hH
        · rw [← ef]; exact Classical.byContradiction (fun w => ne (a9 w))
        · rw [← ef]; exact Classical.byContradiction (fun w => ne2 (b9 w))
      · exact k_Tokens_split_b40 hr3 ⟨by omega, q2.2⟩ ⟨z, c⟩ hv (fun w => by have := w.2; rw [← ef] at this; have := b8 this; omega) hH
theorem k_Tokens_split {r3 : Nat} (hr3 : zs_str r3) {l2 : Int} {g : zi_M} {Q : Int → zi_M → Prop} (I : zk_I g) (p2 : 0 ≤ l2 ∧ l2 ≤ 400) (hQ : ∀ g' : zi_M, zk_I g' → zk_fr (fr_Tokens_split r3) g g' → (zSp r3 (g 190) l2 (g' 192) (g' 193) (g' 194) (g' 191 3)) → (g' 191 4 = 0 ∧ g' 191 5 = 0 ∧ g' 191 6 = -1 ∧ g' 191 3 ≤ 401) → Q 0 g') : w_Tokens_split r3 l2 g Q := by
  unfold w_Tokens_split
  refine k_Tokens_clear I (fun g2 I2 F2 h1 h2 h3 h4 => ?_)
  have ef : g2 190 = g 190 := funext (fun i => F2 190 i (by unfold fr_Tokens_clear; omega))
  refine ⟨401, k_Tokens_split_l7 hr3 (g0 := g) p2 (fun g74 hv => ?_) 401 0 g2 (Int.le_refl _) p2.1 ⟨⟨I2, zk_ft (zk_f0 _) F2 (fun a i h => by unfold fr_Tokens_clear at h; unfold fr_Tokens_split; omega)⟩, ⟨by omega, by omega⟩, ⟨h2, h3, h4⟩, by rw [h1]; exact zSi_0⟩ (by omega)⟩
  have c4 := hv.2.1
  refine k_Tokens_add hv.1.1 (by decide) (by decide) p2 (fun g76 I76 F76 x1 x2 => ?_)
  have y2 := x2 (by omega)
  have y1 := x1 (by omega)
  refine hQ g76 I76 (zk_ft hv.1.2 F76 (fun a i h => by unfold fr_Tokens_add at h; unfold fr_Tokens_split; omega)) ?_ ?_
  · rw [y2.1, y2.2.1, y2.2.2, y1]
    exact zSp_of hv.2.2.2 c4.1
  · rw [F76 191 4 (by unfold fr_Tokens_add; omega), F76 191 5 (by unfold fr_Tokens_add; omega), F76 191 6 (by unfold fr_Tokens_add; omega)]
    exact ⟨hv.2.2.1.1, hv.2.2.1.2.1, hv.2.2.1.2.2, by omega⟩

-- SpoutNews$Law.clear()V
set_option maxRecDepth 100000 in
set_option maxHeartbeats 4000000 in
theorem k_Law_clear {g : zi_M} {Q : Int → zi_M → Prop} (I : zk_I g) (hQ : ∀ g' : zi_M, zk_I g' → zk_fr fr_Law_clear g g' → (g' 196 2 = 0) → (g' 196 7 = 0) → Q 0 g') : w_Law_clear g Q := by
  unfold w_Law_clear
  intro g1 e_1
  have I_2 : zk_I g1 := by rw [e_1]; exact zk_upd (L := 0) (H := 400) rfl rfl I ⟨by omega, by omega⟩
  have F_3 : zk_fr fr_Law_clear g g1 := by rw [e_1]; exact zk_fu (zk_f0 _) (Or.inl ⟨rfl, rfl⟩)
  intro g2 e_4
  have I_5 : zk_I g2 := by rw [e_4]; exact zk_upd (L := 0) (H := 16) rfl rfl I_2 ⟨by omega, by omega⟩
  have F_6 : zk_fr fr_Law_clear g g2 := by rw [e_4]; exact zk_fu F_3 (Or.inr ⟨rfl, rfl⟩)
  have m_7 : 0 ≤ (g2 196 2) ∧ (g2 196 2) ≤ 400 := I_5.1 196 2
  have m_8 : g2 196 2 = g1 196 2 := by rw [e_4]; exact zi_u_ni (by decide)
  have m_9 : 0 ≤ (g1 196 2) ∧ (g1 196 2) ≤ 400 := I_2.1 196 2
  have m_10 : g1 196 2 = 0 := by rw [e_1]; exact zi_u_eq
  have m_11 : 0 ≤ (g2 196 7) ∧ (g2 196 7) ≤ 16 := I_5.1 196 7
  have m_12 : g2 196 7 = 0 := by rw [e_4]; exact zi_u_eq
  exact hQ _ I_5 F_6 (by omega) (by omega)
-- SpoutNews$Tokens.isAtEnd()Z
set_option maxRecDepth 100000 in
set_option maxHeartbeats 4000000 in
theorem k_Tokens_isAtEnd {g : zi_M} {Q : Int → zi_M → Prop} (I : zk_I g) (hQ : ∀ v : Int, ((g 191 3) ≤ (g 191 4) → v = 1) → ((g 191 4) < (g 191 3) → ¬ (g 192 (g 191 4)) = 4 → v = 0) → ((g 191 4) < (g 191 3) → (g 192 (g 191 4)) = 4 → v = 1) → Q v g) : w_Tokens_isAtEnd g Q := by
  unfold w_Tokens_isAtEnd
  have m_1 : 0 ≤ (g 191 4) ∧ (g 191 4) ≤ 401 := I.1 191 4
  have m_2 : 0 ≤ (g 191 3) ∧ (g 191 3) ≤ 401 := I.1 191 3
  refine ⟨⟨by omega, by omega⟩, ⟨by omega, by omega⟩, ?_⟩
  refine ⟨fun c6 => ?_, fun c6 => ?_⟩
  · have m_3 : 0 ≤ (g 192 (g 191 4)) ∧ (g 192 (g 191 4)) ≤ 4 := I.1 192 (g 191 4)
    exact hQ _ (by intros; omega) (by intros; omega) (by intros; omega)
  · refine ⟨⟨by omega, by omega⟩, ?_⟩
    have m_4 : 0 ≤ (g 192 (g 191 4)) ∧ (g 192 (g 191 4)) ≤ 4 := I.1 192 (g 191 4)
    refine ⟨⟨by omega, by omega⟩, ?_⟩
    refine ⟨fun c5 => ?_, fun c5 => ?_⟩
    · exact hQ _ (by intros; omega) (by intros; omega) (by intros; omega)
    · exact hQ _ (by intros; omega) (by intros; omega) (by intros; omega)
-- SpoutNews$Tokens.keyword()I
set_option maxRecDepth 100000 in
set_option maxHeartbeats 4000000 in
theorem k_Tokens_keyword {g : zi_M} {Q : Int → zi_M → Prop} (I : zk_I g) (hQ : ∀ v : Int, ((g 191 3) ≤ (g 191 4) → v = (-1)) → ((g 191 4) < (g 191 3) → ¬ (g 192 (g 191 4)) = 2 → v = (-1)) → ((g 191 4) < (g 191 3) → (g 192 (g 191 4)) = 2 → v = g 193 (g 191 4)) → Q v g) : w_Tokens_keyword g Q := by
  unfold w_Tokens_keyword
  have m_1 : 0 ≤ (g 191 4) ∧ (g 191 4) ≤ 401 := I.1 191 4
  have m_2 : 0 ≤ (g 191 3) ∧ (g 191 3) ≤ 401 := I.1 191 3
  refine ⟨⟨by omega, by omega⟩, ⟨by omega, by omega⟩, ?_⟩
  refine ⟨fun c6 => ?_, fun c6 => ?_⟩
  · have m_3 : 0 ≤ (g 192 (g 191 4)) ∧ (g 192 (g 191 4)) ≤ 4 := I.1 192 (g 191 4)
    have m_4 : (-1) ≤ (g 193 (g 191 4)) ∧ (g 193 (g 191 4)) ≤ 9999 := I.1 193 (g 191 4)
    exact hQ _ (by intros; omega) (by intros; omega) (by intros; omega)
  · refine ⟨⟨by omega, by omega⟩, ?_⟩
    have m_5 : 0 ≤ (g 192 (g 191 4)) ∧ (g 192 (g 191 4)) ≤ 4 := I.1 192 (g 191 4)
    refine ⟨⟨by omega, by omega⟩, ?_⟩
    refine ⟨fun c5 => ?_, fun c5 => ?_⟩
    · have m_6 : (-1) ≤ (g 193 (g 191 4)) ∧ (g 193 (g 191 4)) ≤ 9999 := I.1 193 (g 191 4)
      exact hQ _ (by intros; omega) (by intros; omega) (by intros; omega)
    · have m_7 : (-1) ≤ (g 193 (g 191 4)) ∧ (g 193 (g 191 4)) ≤ 9999 := I.1 193 (g 191 4)
      exact hQ _ (by intros; omega) (by intros; omega) (by intros; omega)
-- SpoutNews$Tokens.isAt(II)Z
set_option maxRecDepth 100000 in
set_option maxHeartbeats 4000000 in
theorem k_Tokens_isAt {l1 : Int} {l2 : Int} {g : zi_M} {Q : Int → zi_M → Prop} (I : zk_I g) (p1 : 2 ≤ l1 ∧ l1 ≤ 3) (p2 : 0 ≤ l2 ∧ l2 ≤ 62) (hQ : ∀ v : Int, ((g 191 3) ≤ (g 191 4) → v = 0) → ((g 191 4) < (g 191 3) → ¬ (g 192 (g 191 4)) = l1 → v = 0) → ((g 191 4) < (g 191 3) → (g 192 (g 191 4)) = l1 → ¬ (g 193 (g 191 4)) = l2 → v = 0) → ((g 191 4) < (g 191 3) → (g 192 (g 191 4)) = l1 → (g 193 (g 191 4)) = l2 → v = 1) → Q v g) : w_Tokens_isAt l1 l2 g Q := by
  unfold w_Tokens_isAt
  have m_1 : 0 ≤ (g 191 4) ∧ (g 191 4) ≤ 401 := I.1 191 4
  have m_2 : 0 ≤ (g 191 3) ∧ (g 191 3) ≤ 401 := I.1 191 3
  refine ⟨⟨by omega, by omega⟩, ⟨by omega, by omega⟩, ?_⟩
  refine ⟨fun c10 => ?_, fun c10 => ?_⟩
  · have m_3 : 0 ≤ (g 192 (g 191 4)) ∧ (g 192 (g 191 4)) ≤ 4 := I.1 192 (g 191 4)
    have m_4 : (-1) ≤ (g 193 (g 191 4)) ∧ (g 193 (g 191 4)) ≤ 9999 := I.1 193 (g 191 4)
    exact hQ _ (by intros; omega) (by intros; omega) (by intros; omega) (by intros; omega)
  · refine ⟨⟨by omega, by omega⟩, ?_⟩
    have m_5 : 0 ≤ (g 192 (g 191 4)) ∧ (g 192 (g 191 4)) ≤ 4 := I.1 192 (g 191 4)
    refine ⟨⟨by omega, by omega⟩, ⟨by omega, by omega⟩, ?_⟩
    refine ⟨fun c9 => ?_, fun c9 => ?_⟩
    · have m_6 : (-1) ≤ (g 193 (g 191 4)) ∧ (g 193 (g 191 4)) ≤ 9999 := I.1 193 (g 191 4)
      exact hQ _ (by intros; omega) (by intros; omega) (by intros; omega) (by intros; omega)
    · have m_7 : (-1) ≤ (g 193 (g 191 4)) ∧ (g 193 (g 191 4)) ≤ 9999 := I.1 193 (g 191 4)
      refine ⟨⟨by omega, by omega⟩, ⟨by omega, by omega⟩, ?_⟩
      refine ⟨fun c8 => ?_, fun c8 => ?_⟩
      · exact hQ _ (by intros; omega) (by intros; omega) (by intros; omega) (by intros; omega)
      · exact hQ _ (by intros; omega) (by intros; omega) (by intros; omega) (by intros; omega)
-- SpoutNews$Tokens.step()V
theorem k_Tokens_step {g : zi_M} {Q : Int → zi_M → Prop} (I : zk_I g) (hQ : ∀ g' : zi_M, zk_I g' → zk_fr fr_Tokens_step g g' → (∀ (T : zyT) (t : Int), zyC T g t → zyE T → ¬ T.1 t = 4 → zyC T g' (t + 1)) → Q 0 g') : w_Tokens_step g Q := by
  unfold w_Tokens_step
  have b4 : 0 ≤ g 191 4 ∧ g 191 4 ≤ 401 := I.1 191 4
  have b3 : 0 ≤ g 191 3 ∧ g 191 3 ≤ 401 := I.1 191 3
  refine ⟨⟨by omega, by omega⟩, ⟨by omega, by omega⟩, fun c => hQ g I (zk_f0 _) (fun T t h hE hk => ?_), fun c g3 e3 => hQ g3 (by rw [e3]; exact zk_upd (L := 0) (H := 401) rfl rfl I ⟨by omega, by omega⟩) (by rw [e3]; exact zk_fu (zk_f0 _) ⟨rfl, rfl⟩) (fun T t h hE hk => zyC_up h e3 ?_)⟩
  · have a := h.1.2.2.2
    have b := h.2.1
    have k := hE.2.1
    rw [show T.2.2.2 - 1 = t by omega] at k
    exact absurd k hk
  · have a := h.1.2.2.2
    have b := h.2.1
    omega

