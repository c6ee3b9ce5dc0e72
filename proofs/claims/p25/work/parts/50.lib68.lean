-- ACT on the rows
theorem zRst_c {C : Int → Prop} {c c' : Int} {R R1 R2 : Int → Int → Int} {w : Int → Int} (h : zRst C c R w c' R1) (e : ∀ x k : Int, C k → R2 x k = R1 x k) : zRst C c R w c' R2 := ⟨h.1, fun x k x0 x1 hk => by rw [e x k hk]; exact h.2.1 x k x0 x1 hk, fun k hk => by rw [e _ k hk]; exact h.2.2 k hk⟩
noncomputable def zAk (d w x : Int) (g g' : zi_M) : Prop := zVC (g 2 11) 2 g' = zAc (zVC (g 2 11) 2 g) d w x ∧ zRst (zRw (g 2 11)) (g 91 1) (zRV (g 2 11) g) (zVC (g 2 11) 2 g) (g' 91 1) (zRV (g 2 11) g')
theorem zAk_of {g g9 g10 : zi_M} {d w x : Int} (I : zk_I g) (F9 : zk_fr fr_Past_keep g g9) (k : zKq g g9) (F10 : zk_fr (fr_World_carryOut 2) g9 g10) (c1 : zPa (g9 2 8) (g9 2 11) d w x → zCo 2 g9 g10 d w x) (v : zPa (g 2 8) (g 2 11) d w x) : zAk d w x g g10 := by
  have b8 : (0 : Int) ≤ g 2 8 ∧ g 2 8 ≤ 10 := zk_c10_8 rfl I
  have b11 : (0 : Int) ≤ g 2 11 ∧ g 2 11 ≤ 8 := zk_c10_11 rfl I
  have e8 : g9 2 8 = g 2 8 := F9 2 8 (fun w => by unfold fr_Past_keep at w; omega)
  have e11 : g9 2 11 = g 2 11 := F9 2 11 (fun w => by unfold fr_Past_keep at w; omega)
  have e9 : zVC (g 2 11) 2 g9 = zVC (g 2 11) 2 g := zVC_c (fun a i h => F9 a i (fun w => by unfold fr_Past_keep at w; omega))
  rw [e8, e11] at c1
  refine ⟨by rw [zCo_V rfl v b8.2 b11.2 (c1 v) F10, e9], ?_⟩
  have fr : ∀ (a : Nat) (i : Int), 14 ≤ a → g10 a i = g9 a i := fun a i q => F10 a i (fun w => by unfold fr_World_carryOut at w; omega)
  rw [fr 91 1 (by omega)]
  refine zRst_c (zKq_st I k) (fun y k hk => ?_)
  show zVC (g 2 11) (zSlt g10 y) g10 k = zVC (g 2 11) (zSlt g9 y) g9 k
  have es : zSlt g10 y = zSlt g9 y := by unfold zSlt; rw [fr 91 2 (by omega), fr 91 1 (by omega)]
  have hs : 93 ≤ zSlt g9 y := by unfold zSlt; omega
  rw [es]
  exact zVC_wc (zWs_c (fun a i q => fr a i (by omega))) hk
noncomputable def zAm (d w x : Int) (g g' : zi_M) : Prop := zVM (g 214 7) g' = zAc (zVM (g 214 7) g) d w x ∧ zRst (zRw (g 214 7)) (g 214 3) (zRW g) (zVM (g 214 7) g) (g' 214 3) (zRW g')
theorem zAm_of {g g1 g9 g10 : zi_M} {d w x y : Int} (I : zk_I g) (e : g1 = zi_u g 214 0 y) (F9 : zk_fr fr_M_keepsAhead g1 g9) (k : zKa g1 g9) (F10 : zk_fr fr_M_acts g9 g10) (c1 : g10 215 = zAc (g9 215) d w x) (v : zPa (g 214 6) (g 214 7) d w x) : zAm d w x g g10 := by
  have b6 : 0 ≤ g 214 6 ∧ g 214 6 ≤ 10 := I.1 214 6
  have b7 : 0 ≤ g 214 7 ∧ g 214 7 ≤ 8 := I.1 214 7
  have e1 : zVM (g 214 7) g1 = zVM (g 214 7) g := zVM_c (fun a i h => by rw [e]; exact zi_u_other h)
  have e9 : zVM (g 214 7) g9 = zVM (g 214 7) g1 := zVM_c (fun a i h => F9 a i (fun w => by unfold fr_M_keepsAhead at w; omega))
  have e3 : g1 214 3 = g 214 3 := by rw [e, zi_u_ni (by decide)]
  have r : g1 216 = g 216 := by rw [e]; exact zi_u_row (by decide)
  refine ⟨by rw [zMA v b6.2 b7.2 c1 F10, e9, e1], ?_⟩
  have s := zKa_s2 (T := g 214 7) k
  rw [e1, e3, show zRW g1 = zRW g by unfold zRW; rw [r]] at s
  rw [F10 214 3 (fun w => by unfold fr_M_acts at w; omega)]
  refine zRst_c s (fun y k hk => ?_)
  exact F10 216 _ (fun w => by unfold fr_M_acts at w; omega)
