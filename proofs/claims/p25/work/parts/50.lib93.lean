-- THE LAW copied with the texts, with all
theorem zLcp_q {r0 r1 : Nat} {g h g' k : zi_M} (t : zLcp r0 r1 h g') (e : ∀ (a : Nat) (i : Int), r1 ≤ a → a ≤ r1 + 6 → h a i = g a i) (f : ∀ (a : Nat) (i : Int), r0 ≤ a → a ≤ r0 + 6 → k a i = g' a i) : zLcp r0 r1 g k := by
  obtain ⟨⟨c1, c2⟩, c3, c4, c5, c6, c7, c8⟩ := t
  have e2 : h r1 2 = g r1 2 := e _ _ (by omega) (by omega)
  rw [e2] at c3 c4
  exact ⟨⟨by rw [f _ _ (by omega) (by omega), c1, e2], by rw [f _ _ (by omega) (by omega), c2, e _ _ (by omega) (by omega)]⟩, fun i i0 i1 => by rw [f _ _ (by omega) (by omega), c3 i i0 i1, e _ _ (by omega) (by omega)], fun i i0 i1 => by rw [f _ _ (by omega) (by omega), c4 i i0 i1, e _ _ (by omega) (by omega)], fun i i0 i1 => by rw [f _ _ (by omega) (by omega), c5 i i0 i1, e _ _ (by omega) (by omega)], fun i i0 i1 => by rw [f _ _ (by omega) (by omega), c6 i i0 i1, e _ _ (by omega) (by omega)], fun i i0 i1 => by rw [f _ _ (by omega) (by omega), c7 i i0 i1, e _ _ (by omega) (by omega)], fun i i0 i1 => by rw [f _ _ (by omega) (by omega), c8 i i0 i1, e _ _ (by omega) (by omega)]⟩
theorem zLcp_T {r0 r1 : Nat} {g h1 h2 h3 h4 : zi_M} (hr0 : zs_sh r0 = some (6, 11)) (C : zLcp (r0 + 1) (r1 + 1) g h1) (F2 : zk_fr (fr_Texts_copyGutters r0 r1) h1 h2) (F3 : zk_fr (fr_Texts_copyWeather r0 r1) h2 h3) (F4 : zk_fr (fr_Texts_copyPlan r0 r1) h3 h4) : zLcp (r0 + 1) (r1 + 1) g h4 := by
  have q0 := zs_txtI hr0
  clear hr0
  refine zLcp_q C (fun _ _ _ _ => rfl) (fun a i a0 a1 => ?_)
  rw [F4 a i (fun q => by unfold fr_Texts_copyPlan at q; clear F2 F3 F4 C; omega), F3 a i (fun q => by unfold fr_Texts_copyWeather at q; clear F2 F3 F4 C; omega), F2 a i (fun q => by unfold fr_Texts_copyGutters at q; clear F2 F3 F4 C; omega)]
theorem zLcp_C {r0 r1 : Nat} {g g2 g5 g8 g11 : zi_M} (hr0 : zs_sh r0 = some (1, 4)) (hr1 : zs_sh r1 = some (1, 4)) (F2 : zk_fr (fr_World_copyFrom (r0 + 1) (r1 + 1)) g g2) (F5 : zk_fr (fr_Book_copyFrom (r0 + 13) (r1 + 13)) g2 g5) (T : zLcp (r0 + 18 + 1) (r1 + 18 + 1) g5 g8) (F11 : zk_fr (fr_Told_copyFrom (r0 + 35) (r1 + 35)) g8 g11) : zLcp (r0 + 19) (r1 + 19) g g11 := by
  have q0 := zs_cathI hr0
  have q1 := zs_cathI hr1
  clear hr0 hr1
  have T' : zLcp (r0 + 19) (r1 + 19) g5 g8 := T
  refine zLcp_q T' (fun a i k1 k2 => ?_) (fun a i k1 k2 => ?_)
  · rw [F5 a i (fun q => by unfold fr_Book_copyFrom at q; clear F2 F5 F11 T T'; omega), F2 a i (fun q => by unfold fr_World_copyFrom at q; clear F2 F5 F11 T T'; omega)]
  · exact F11 a i (fun q => by unfold fr_Told_copyFrom at q; clear F2 F5 F11 T T'; omega)
theorem zLcp_st {g g4 g7 : zi_M} (T : zLcp (46 + 19) (1 + 19) g g4) (e : g7 = zi_u g4 0 2 1) : zLcp 65 20 g g7 := zLcp_q T (fun _ _ _ _ => rfl) (fun a i h1 h2 => by rw [e]; exact zi_u_ne (by omega))
theorem zLcp_sr {g g4 g7 : zi_M} (T : zLcp (1 + 19) (46 + 19) g g4) (F2 : zk_fr fr_Past_forget g4 g7) : zLcp 20 65 g g7 := zLcp_q T (fun _ _ _ _ => rfl) (fun a i h1 h2 => F2 a i (fun q => by unfold fr_Past_forget at q; clear T F2; omega))
-- spouts' rows in the reference's image
theorem zRw_218 : zRe 218 0 273 5 10 := by unfold zRe; decide +kernel
theorem zRw_219 : zRe 219 0 274 5 10 := by unfold zRe; decide +kernel
