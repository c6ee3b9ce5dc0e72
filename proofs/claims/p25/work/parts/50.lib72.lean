-- each call, over the relation of days
section
variable {g g1 g2 : zi_M}
theorem zEq_n (R : zEq (zVC (g 2 11) 2 g) (zVM (g 214 7) g)) (c : ∀ (a : Nat) (i : Int), (a = 2 ∧ (i = 11 ∨ i = 14 ∨ i = 17)) ∨ a = 10 ∨ a = 11 ∨ (a = 214 ∧ i = 7) → g2 a i = g a i) (m : ∀ k : Int, zC0 k → g2 215 k = g 215 k) : zEq (zVC (g2 2 11) 2 g2) (zVM (g2 214 7) g2) := fun k hk => by
  rw [c 2 11 (by omega), c 214 7 (by omega), zVC_s (g := g) (c 2 17 (by omega)) (c 2 14 (by omega)) (fun i => c 10 i (by omega)) (fun i => c 11 i (by omega)) hk, zVM_s (g := g) hk (m k hk)]
  exact R k hk
noncomputable def zFsx (a : Nat) (i : Int) : Prop := zFt a i ∨ (a = 2 ∧ (i = 11 ∨ i = 14 ∨ i = 17)) ∨ a = 10 ∨ a = 11 ∨ (a = 214 ∧ i = 7) ∨ a = 216
theorem zBD_state {l : Int} (R : zBD g) (a : g1 91 1 = 0) (m : ∀ k : Int, 0 ≤ k ∧ k < 264 → (k = 1 → g2 215 k = l) ∧ (¬ k = 1 → g2 215 k = g1 215 k)) (b : g2 214 3 = 0) (hs : ∀ (a : Nat) (i : Int), 214 ≤ a → g1 a i = g a i) (hm : ∀ (a : Nat) (i : Int), a ≤ 213 → g2 a i = g1 a i) (hf : ∀ (a : Nat) (i : Int), zFsx a i ∨ (a = 2 ∧ i = 8) ∨ (a = 214 ∧ i = 6) → g2 a i = g a i) : zBD g2 :=
  ⟨zEq_n R.1 (fun a i h => hf a i (by unfold zFsx; omega)) (fun k hk => by rw [(m k (by unfold zC0 at hk; omega)).2 (by unfold zC0 at hk; omega), hs 215 k (by decide)]), zBrg_0 (by rw [hm 91 1 (by decide)]; exact a) b, zBT_g R.2.2 (fun a i h => hf a i (Or.inl (Or.inl h))) (by rw [hf 2 8 (by omega)]; exact Int.le_refl _) (Or.inl (hf 214 6 (by omega))) (by rw [hf 214 7 (by unfold zFsx; omega)]; exact Int.le_refl _)⟩
theorem zBD_spout {v1 v2 S : Int} (R : zBD g) (hv : v2 = v1) (bS : 0 ≤ g1 214 6 ∧ g1 214 6 ≤ 10) (a1 : ¬ v1 = -1 → g1 91 1 = 0) (a2 : v1 = -1 → g1 = g)
    (m : ∀ k : Int, 0 ≤ k ∧ k < 264 → (¬ v2 = -1 ∧ k = 6 + g1 214 6 → g2 215 k = 0) ∧ (¬ v2 = -1 ∧ k = 16 + g1 214 6 → g2 215 k = 0) ∧ (¬ v2 = -1 ∧ k = 26 + g1 214 6 → g2 215 k = 0) ∧ (¬ (¬ v2 = -1 ∧ (k = 6 + g1 214 6 ∨ k = 16 + g1 214 6 ∨ k = 26 + g1 214 6)) → g2 215 k = g1 215 k))
    (b1 : ¬ v2 = -1 → g2 214 3 = 0) (b2 : v2 = -1 → g2 214 3 = g1 214 3) (s8 : g 2 8 ≤ g2 2 8) (s6 : g 214 6 ≤ g2 214 6) (hs : ∀ (a : Nat) (i : Int), 214 ≤ a → g1 a i = g a i) (hm : ∀ (a : Nat) (i : Int), a ≤ 213 → g2 a i = g1 a i) (hf : ∀ (a : Nat) (i : Int), zFsx a i → g2 a i = g a i) : zBD g2 := by
  refine ⟨zEq_n R.1 (fun a i h => hf a i (by unfold zFsx; omega)) (fun k hk => ?_), ?_, zBT_g R.2.2 (fun a i h => hf a i (Or.inl h)) s8 (Or.inr ⟨by rw [← hs 214 6 (by decide)]; exact bS.1, s6⟩) (by rw [hf 214 7 (by unfold zFsx; omega)]; exact Int.le_refl _)⟩
  · rw [(m k (by unfold zC0 at hk; omega)).2.2.2 (by unfold zC0 at hk; omega), hs 215 k (by decide)]
  · by_cases c : v1 = -1
    · have e := a2 c
      refine zBrg_n R.2.1 (fun a i h => ?_)
      by_cases q : a ≤ 213
      · rw [hm a i q, e]
      · by_cases q3 : a = 214 ∧ i = 3
        · rw [q3.1, q3.2, b2 (by rw [hv]; exact c), e]
        · exact hf a i (by unfold zFsx; omega)
    · exact zBrg_0 (by rw [hm 91 1 (by decide)]; exact a1 c) (b1 (by rw [hv]; exact c))
theorem zBD_sitter {v1 v2 l : Int} (R : zBD g) (si : g 2 11 = g 214 7) (hv : v2 = v1) (bT : 0 ≤ g 2 11 ∧ g1 2 11 ≤ 8) (a1 : ¬ v1 = -1 → g1 91 1 = 0) (a2 : v1 = -1 → g1 = g)
    (c10 : ∀ k : Int, 0 ≤ k ∧ k < 8 → (¬ v1 = -1 ∧ k = g 2 11 → g1 10 k = l) ∧ (¬ (¬ v1 = -1 ∧ k = g 2 11) → g1 10 k = g 10 k)) (c11 : ∀ k : Int, 0 ≤ k ∧ k < 8 → (¬ v1 = -1 ∧ k = g 2 11 → g1 11 k = (-1)) ∧ (¬ (¬ v1 = -1 ∧ k = g 2 11) → g1 11 k = g 11 k))
    (m : ∀ k : Int, 0 ≤ k ∧ k < 264 → (¬ v2 = -1 ∧ k = 236 + g1 214 7 → g2 215 k = l) ∧ (¬ v2 = -1 ∧ k = 244 + g1 214 7 → g2 215 k = 0) ∧ (¬ (¬ v2 = -1 ∧ (k = 236 + g1 214 7 ∨ k = 244 + g1 214 7)) → g2 215 k = g1 215 k))
    (b1 : ¬ v2 = -1 → g2 214 3 = 0) (b2 : v2 = -1 → g2 214 3 = g1 214 3) (n1 : ¬ v1 = -1 → g1 2 11 = g 2 11 + 1) (n2 : ¬ v2 = -1 → g2 214 7 = g1 214 7 + 1) (n3 : v2 = -1 → g2 214 7 = g1 214 7) (hs : ∀ (a : Nat) (i : Int), 214 ≤ a → g1 a i = g a i) (hm : ∀ (a : Nat) (i : Int), a ≤ 213 → g2 a i = g1 a i) (hf : ∀ (a : Nat) (i : Int), zFt a i ∨ (a = 2 ∧ (i = 8 ∨ i = 14 ∨ i = 17)) ∨ (a = 214 ∧ i = 6) ∨ a = 216 → g2 a i = g a i) : zBD g2 := by
  subst hv
  have h7 : g1 214 7 = g 2 11 := by rw [hs 214 7 (by decide)]; exact si.symm
  by_cases c : v2 = -1
  · have e := a2 c
    have q : ∀ (a : Nat) (i : Int), a ≤ 213 → g2 a i = g a i := fun a i h => by rw [hm a i h, e]
    have q7 : g2 214 7 = g 214 7 := by rw [n3 c, hs 214 7 (by decide)]
    refine ⟨zEq_n R.1 (fun a i h => ?_) (fun k hk => ?_), zBrg_n R.2.1 (fun a i h => ?_), zBT_g R.2.2 (fun a i h => hf a i (Or.inl h)) ?_ ?_ ?_⟩
    · by_cases w : a ≤ 213
      · exact q a i w
      · rw [show a = 214 by omega, show i = 7 by omega, q7]
    · rw [(m k (by unfold zC0 at hk; omega)).2.2 (fun w => w.1 c), hs 215 k (by decide)]
    · by_cases w : a ≤ 213
      · exact q a i w
      · by_cases q3 : a = 214 ∧ i = 3
        · rw [q3.1, q3.2, b2 c, e]
        · exact hf a i (by omega)
    · rw [hf 2 8 (by omega)]; exact Int.le_refl _
    · exact Or.inl (hf 214 6 (by omega))
    · rw [q7]; exact Int.le_refl _
  · have t1 := n1 c
    have t2 := n2 c
    refine ⟨fun k hk => ?_, zBrg_0 (by rw [hm 91 1 (by decide)]; exact a1 c) (b1 c), zBT_g R.2.2 (fun a i h => hf a i (Or.inl h)) ?_ ?_ ?_⟩
    · rw [hm 2 11 (by decide), t1, t2, h7]
      obtain ⟨p0, -, -, p3, -, -, -, -, -, -, pk, pa, -, -⟩ := zVC_rd (T := g 2 11 + 1) (r := 2) (g := g2)
      obtain ⟨q0, -, -, q3, -, -, -, -, -, -, qk, qa, -, -⟩ := zVC_rd (T := g 2 11) (r := 2) (g := g)
      have r1 := R.1 k hk
      rw [← si] at r1
      have mk := m k (by unfold zC0 at hk; omega)
      rw [h7, hs 215 k (by decide)] at mk
      by_cases d : zRw (g 2 11 + 1) k
      · rw [zVM_rw d]
        unfold zC0 at hk
        unfold zRw at d
        by_cases k0 : k = 0
        · subst k0
          rw [q0, zVM_r ⟨by decide, by decide⟩ (by omega)] at r1
          rw [p0, mk.2.2 (by omega), hf 2 17 (by omega)]
          exact r1
        · by_cases k3 : k = 3
          · subst k3
            rw [q3, zVM_r ⟨by decide, by decide⟩ (by omega)] at r1
            rw [p3, mk.2.2 (by omega), hf 2 14 (by omega)]
            exact r1
          · by_cases k4 : k < 244
            · obtain ⟨i, rfl⟩ : ∃ i, k = 236 + i := ⟨k - 236, by omega⟩
              have ci := c10 i (by omega)
              rw [pk i (by omega) (by omega), hm 10 i (by decide)]
              by_cases ei : i = g 2 11
              · rw [ci.1 ⟨c, ei⟩, mk.1 ⟨c, by omega⟩]
              · rw [ci.2 (fun w => ei w.2), mk.2.2 (by omega)]
                rw [qk i (by omega) (by omega), zVM_r ⟨by omega, by omega⟩ (by omega)] at r1
                exact r1
            · obtain ⟨i, rfl⟩ : ∃ i, k = 244 + i := ⟨k - 244, by omega⟩
              have ci := c11 i (by omega)
              rw [pa i (by omega) (by omega) (by omega), hm 11 i (by decide)]
              by_cases ei : i = g 2 11
              · rw [ci.1 ⟨c, ei⟩, mk.2.1 ⟨c, by omega⟩]; rfl
              · rw [ci.2 (fun w => ei w.2), mk.2.2 (by omega)]
                rw [qa i (by omega) (by omega) (by omega), zVM_r ⟨by omega, by omega⟩ (by omega)] at r1
                exact r1
      · have nd := zV_no hk d
        rw [zVC_no nd, zVM_no nd]
    · rw [hf 2 8 (by omega)]; exact Int.le_refl _
    · exact Or.inl (hf 214 6 (by omega))
    · rw [t2, hs 214 7 (by decide)]; omega
theorem zBD_set {v1 v2 l1 l2 l3 : Int} (R : zBD g) (hv : v2 = v1) (bS : g 2 8 ≤ 10 ∧ g 2 11 ≤ 8) (o : ¬ zPs (g 2 8) (g 2 11) l1 l2 l3 → v1 = 0) (a1 : ¬ v1 = 0 → g1 91 1 = 0) (a2 : v1 = 0 → g1 = g)
    (c10 : ∀ k : Int, 0 ≤ k ∧ k < 8 → ((¬ v1 = 0 ∧ l1 = 3) ∧ k = l2 → g1 10 k = l3) ∧ (¬ ((¬ v1 = 0 ∧ l1 = 3) ∧ k = l2) → g1 10 k = g 10 k)) (c14 : (¬ v1 = 0 ∧ l1 = 0 → g1 2 14 = l3) ∧ (¬ (¬ v1 = 0 ∧ l1 = 0) → g1 2 14 = g 2 14))
    (m1 : ¬ v2 = 0 → zMt3 l1 l2 l3 g1 g2) (m2 : v2 = 0 → ∀ k : Int, g2 215 k = g1 215 k) (b1 : ¬ v2 = 0 → g2 214 3 = 0) (b2 : v2 = 0 → g2 214 3 = g1 214 3) (hs : ∀ (a : Nat) (i : Int), 214 ≤ a → g1 a i = g a i) (hm : ∀ (a : Nat) (i : Int), a ≤ 213 → g2 a i = g1 a i) (hf : ∀ (a : Nat) (i : Int), zFt a i ∨ (a = 2 ∧ (i = 8 ∨ i = 11 ∨ i = 17)) ∨ a = 11 ∨ (a = 214 ∧ (i = 6 ∨ i = 7)) ∨ a = 216 → g2 a i = g a i) : zBD g2 := by
  subst hv
  have h8 : zBT g2 := zBT_g R.2.2 (fun a i h => hf a i (Or.inl h)) (by rw [hf 2 8 (by omega)]; exact Int.le_refl _) (Or.inl (hf 214 6 (by omega))) (by rw [hf 214 7 (by omega)]; exact Int.le_refl _)
  by_cases c : v2 = 0
  · have e := a2 c
    have q : ∀ (a : Nat) (i : Int), a ≤ 213 → g2 a i = g a i := fun a i h => by rw [hm a i h, e]
    refine ⟨zEq_n R.1 (fun a i h => ?_) (fun k hk => by rw [m2 c k, hs 215 k (by decide)]), zBrg_n R.2.1 (fun a i h => ?_), h8⟩
    · by_cases w : a ≤ 213
      · exact q a i w
      · exact hf a i (by omega)
    · by_cases w : a ≤ 213
      · exact q a i w
      · by_cases q3 : a = 214 ∧ i = 3
        · rw [q3.1, q3.2, b2 c, e]
        · exact hf a i (by omega)
  · have z : zPs (g 2 8) (g 2 11) l1 l2 l3 := Classical.byContradiction (fun n => c (o n))
    unfold zPs at z
    refine ⟨fun k hk => ?_, zBrg_0 (by rw [hm 91 1 (by decide)]; exact a1 c) (b1 c), h8⟩
    rw [hf 2 11 (by omega), hf 214 7 (by omega)]
    obtain ⟨p0, -, -, p3, -, -, -, -, -, -, pk, pa, -, -⟩ := zVC_rd (T := g 2 11) (r := 2) (g := g2)
    obtain ⟨q0, -, -, q3, -, -, -, -, -, -, qk, qa, -, -⟩ := zVC_rd (T := g 2 11) (r := 2) (g := g)
    have r1 := R.1 k hk
    obtain ⟨n0, n2, n3, n4⟩ := m1 c k
    rw [hs 215 k (by decide)] at n4
    clear m1 m2 R h8 o
    by_cases d : zdm (g 2 11) k
    · by_cases k0 : k = 0
      · subst k0
        rw [p0, hf 2 17 (by omega), ← q0, r1]
        exact (zVM_s (Or.inl rfl) (n4 (by omega))).symm
      · by_cases k3 : k = 3
        · subst k3
          rw [p3, hm 2 14 (by decide)]
          by_cases e0 : l1 = 0
          · rw [c14.1 ⟨c, e0⟩, zVM_r ⟨by decide, by decide⟩ (by omega), n0 ⟨e0, rfl⟩]
          · rw [c14.2 (fun w => e0 w.2), ← q3, r1]
            exact (zVM_s (Or.inr (Or.inl rfl)) (n4 (by omega))).symm
        · have hk' := hk
          unfold zC0 at hk'
          by_cases k4 : k < 244
          · obtain ⟨i, rfl⟩ : ∃ i, k = 236 + i := ⟨k - 236, by omega⟩
            have ci := c10 i (by omega)
            rw [pk i (by omega) (by omega), hm 10 i (by decide)]
            by_cases e3 : l1 = 3 ∧ i = l2
            · rw [ci.1 ⟨⟨c, e3.1⟩, e3.2⟩, zVM_r ⟨by omega, by omega⟩ (by omega), n3 ⟨e3.1, by omega⟩]
            · rw [ci.2 (fun w => e3 ⟨w.1.2, w.2⟩), ← qk i (by omega) (by omega), r1]
              exact (zVM_s hk (n4 (by omega))).symm
          · obtain ⟨i, rfl⟩ : ∃ i, k = 244 + i := ⟨k - 244, by omega⟩
            have it : i < g 2 11 := by unfold zdm at d; omega
            rw [pa i (by omega) (by omega) it, hf 11 i (by omega), ← qa i (by omega) (by omega) it, r1]
            exact (zVM_s hk (n4 (by omega))).symm
    · rw [zVC_no d] at r1 ⊢
      rw [zVM_s (g := g) hk (n4 (by unfold zC0 at hk; unfold zdm at d; omega))]
      exact r1
theorem zRst_eq {C : Int → Prop} {c c1 c2 : Int} {R Rr R1 R2 : Int → Int → Int} {w wr : Int → Int} (a : zRst C c R w c1 R1) (b : zRst C c Rr wr c2 R2) (c0 : 0 ≤ c ∧ c ≤ 6) (hw : ∀ k : Int, C k → w k = wr k) (hR : ∀ e k : Int, 0 ≤ e → e < c → C k → R e k = Rr e k) : c1 = c2 ∧ ∀ e k : Int, 0 ≤ e → e < c1 → C k → R1 e k = R2 e k := by
  obtain ⟨a1, a2, a3⟩ := a
  obtain ⟨b1, b2, b3⟩ := b
  have e12 : c1 = c2 := by rw [a1, b1]
  refine ⟨e12, fun e k e0 e1 hk => ?_⟩
  rw [← e12] at b2 b3
  by_cases q : e = c1 - 1
  · rw [q, a3 k hk, b3 k hk]
    exact hw k hk
  · rw [a2 e k e0 (by omega) hk, b2 e k e0 (by omega) hk]
    exact hR _ k (by omega) (by omega) hk
theorem zRst_m {C C' : Int → Prop} {c c' : Int} {R R' : Int → Int → Int} {w : Int → Int} (h : zRst C c R w c' R') (s : ∀ k : Int, C' k → C k) : zRst C' c R w c' R' := ⟨h.1, fun e k e0 e1 hk => h.2.1 e k e0 e1 (s k hk), fun k hk => h.2.2 k (s k hk)⟩
theorem zBD_act {l1 l2 l3 : Int} (I : zk_I g) (R : zBD g) (sp : g 2 8 = g 214 6) (si : g 2 11 = g 214 7) (a1 : zPa (g 2 8) (g 2 11) l1 l2 l3 → zAk l1 l2 l3 g g1) (a2 : ¬ zPa (g 2 8) (g 2 11) l1 l2 l3 → g1 = g) (b1 : zPa (g1 214 6) (g1 214 7) l1 l2 l3 → zAm l1 l2 l3 g1 g2) (b2 : ¬ zPa (g1 214 6) (g1 214 7) l1 l2 l3 → ∃ x : Int, g2 = zi_u g1 214 0 x)
    (hs : ∀ (a : Nat) (i : Int), 214 ≤ a → g1 a i = g a i) (hm : ∀ (a : Nat) (i : Int), a ≤ 213 → g2 a i = g1 a i) (hf : ∀ (a : Nat) (i : Int), zFt a i ∨ (a = 2 ∧ (i = 8 ∨ i = 11)) ∨ (a = 214 ∧ (i = 6 ∨ i = 7)) → g2 a i = g a i) : zBD g2 := by
  have b8 : (0 : Int) ≤ g 2 8 ∧ g 2 8 ≤ 10 := I.1 2 8
  have b11 : (0 : Int) ≤ g 2 11 ∧ g 2 11 ≤ 8 := I.1 2 11
  have b91 : (0 : Int) ≤ g 91 1 ∧ g 91 1 ≤ 6 := I.1 91 1
  rw [hs 214 6 (by decide), hs 214 7 (by decide), ← sp, ← si] at b1 b2
  by_cases c : zPa (g 2 8) (g 2 11) l1 l2 l3
  · obtain ⟨x1, y1⟩ := a1 c
    obtain ⟨x2, y2⟩ := b1 c
    have eV : zVM (g1 214 7) g1 = zVM (g 2 11) g := by
      rw [hs 214 7 (by decide), ← si]
      exact zVM_c (fun a i h => hs a i (by omega))
    have eR : zRW g1 = zRW g := by
      unfold zRW
      funext x k
      exact hs 216 _ (by decide)
    rw [eV, hs 214 7 (by decide), ← si] at x2
    rw [eV, eR, hs 214 7 (by decide), hs 214 3 (by decide), ← si, ← R.2.1.1] at y2
    have r1 := R.1
    rw [← si] at r1
    refine ⟨?_, ?_, zBT_g R.2.2 (fun a i h => hf a i (Or.inl h)) (by rw [hf 2 8 (by omega)]; exact Int.le_refl _) (Or.inl (hf 214 6 (by omega))) (by rw [hf 214 7 (by omega)]; exact Int.le_refl _)⟩
    · rw [hf 2 11 (by omega), hf 214 7 (by omega), ← si, x2, zVC_c (g := g1) (fun a i h => hm a i (by omega)), x1]
      exact zEq_ac c b8.2 b11.2 r1
    · have z := zRst_eq (zRst_m (C' := fun k => zRw (g 2 11) k ∧ zC0 k) y1 (fun k h => h.1)) (zRst_m (C' := fun k => zRw (g 2 11) k ∧ zC0 k) y2 (fun k h => h.1)) b91 (fun k h => r1 k h.2) (fun e k e0 e1 h => R.2.1.2 e k e0 e1 h.1 h.2)
      refine ⟨by rw [hm 91 1 (by decide)]; exact z.1, fun e k e0 e1 h1 h2 => ?_⟩
      rw [hm 91 1 (by decide)] at e1
      rw [hf 2 11 (by omega)] at h1 ⊢
      rw [zRV_n (g := g1) (fun a i q => hm a i (by omega)) h1]
      exact z.2 e k e0 e1 ⟨h1, h2⟩
  · obtain ⟨x, e⟩ := b2 c
    have e1 := a2 c
    have q : ∀ (a : Nat) (i : Int), ¬ (a = 214 ∧ i = 0) → g2 a i = g a i := fun a i h => by
      rw [e, e1]
      unfold zi_u
      rw [if_neg h]
    exact zBD_n R (fun a i h => q a i (by unfold zFt at h; omega)) (fun a i h => q a i (by unfold zFc at h; omega))
theorem zBD_undo {v1 v2 : Int} (R : zBD g) (si : g 2 11 = g 214 7) (b91 : 0 ≤ g 91 1) (a : zUk v1 g g1) (b : zUm v2 g1 g2) (hs : ∀ (a : Nat) (i : Int), 214 ≤ a → g1 a i = g a i) (hm : ∀ (a : Nat) (i : Int), a ≤ 213 → g2 a i = g1 a i) (h11 : g1 2 11 = g 2 11) (h8 : g1 2 8 = g 2 8) (hf : ∀ (a : Nat) (i : Int), zFt a i ∨ (a = 214 ∧ (i = 6 ∨ i = 7)) ∨ a = 216 → g2 a i = g a i) : zBD g2 := by
  obtain ⟨n1, y1⟩ := a
  obtain ⟨n2, y2⟩ := b
  rw [hs 214 3 (by decide), ← R.2.1.1] at n2 y2
  by_cases c : g 91 1 = 0
  · obtain ⟨-, x, e⟩ := n2 c
    have e1 := (n1 (by omega)).2
    have q : ∀ (a : Nat) (i : Int), ¬ (a = 214 ∧ i = 0) → g2 a i = g a i := fun a i h => by
      rw [e, e1]
      unfold zi_u
      rw [if_neg h]
    exact zBD_n R (fun a i h => q a i (by unfold zFt at h; omega)) (fun a i h => q a i (by unfold zFc at h; omega))
  · obtain ⟨-, e1, w1, w2, -⟩ := y1 (by omega)
    obtain ⟨-, e2, u⟩ := y2 c
    refine ⟨fun k hk => ?_, ⟨by rw [hm 91 1 (by decide), e1, e2], fun e k e0 el h1 h2 => ?_⟩, zBT_g R.2.2 (fun a i h => hf a i (Or.inl h)) (by rw [hm 2 8 (by decide), h8]; exact Int.le_refl _) (Or.inl (hf 214 6 (by omega))) (by rw [hf 214 7 (by omega)]; exact Int.le_refl _)⟩
    · rw [hm 2 11 (by decide), h11, hf 214 7 (by omega), ← si]
      by_cases d : zRw (g 2 11) k
      · rw [zVC_s (g := g1) (hm 2 17 (by decide)) (hm 2 14 (by decide)) (fun i => hm 10 i (by decide)) (fun i => hm 11 i (by decide)) hk, w1 _ k d, zVM_rw d, u k d.1 d.2.1]
        have r := R.2.1.2 (g 91 1 - 1) k (by omega) (by omega) d hk
        rw [r, hs 214 3 (by decide), ← R.2.1.1, hs 216 _ (by decide)]
        rfl
      · have nd := zV_no hk d
        rw [zVC_no nd, zVM_no nd]
    · rw [hm 91 1 (by decide), e1] at el
      rw [hm 2 11 (by decide), h11] at h1 ⊢
      rw [zRV_n (g := g1) (fun a i q => hm a i (by omega)) h1, w2 _ e k e0 el h1, R.2.1.2 e k e0 (by omega) h1 h2]
      show g 216 _ = g2 216 _
      rw [hf 216 _ (by omega)]
end
