-- THE DAY as a function of the row
noncomputable def zsel (P : Int → Prop) : Int := @dite Int (∃ v, P v) (Classical.propDecidable _) (fun h => Classical.choose h) (fun _ => 0)
theorem zsel_e {P : Int → Prop} {v : Int} (h : P v) (u : ∀ w : Int, P w → w = v) : zsel P = v := by
  unfold zsel
  rw [dif_pos ⟨v, h⟩]
  exact u _ (Classical.choose_spec (⟨v, h⟩ : ∃ v, P v))
/-- the weather told for a day: -1 none -/
noncomputable def zwv (WD WR : Int → Int) (n d : Int) : Int := zsel (fun v => zWo WD WR n d v)
theorem zwv_e {WD WR : Int → Int} {n d v : Int} (h : zWo WD WR n d v) : zwv WD WR n d = v := zsel_e h (fun _ w => zWo_u rfl (fun _ _ _ => ⟨rfl, rfl⟩) h w)
theorem zWo_ex (f h : Int → Int) (d : Int) : ∀ n : Nat, ∃ v, zWo f h (n : Int) d v
  | 0 => ⟨-1, Or.inr ⟨fun k k0 k1 => by omega, rfl⟩⟩
  | n + 1 => by
    obtain ⟨v, ⟨m, m0, m1, e, b, q⟩ | ⟨b, q⟩⟩ := zWo_ex f h d n
    · exact ⟨h m, Or.inl ⟨m, m0, by omega, e, b, rfl⟩⟩
    · by_cases c : f (n : Int) = d
      · exact ⟨h n, Or.inl ⟨n, by omega, by omega, c, b, rfl⟩⟩
      · refine ⟨-1, Or.inr ⟨fun k k0 k1 => ?_, rfl⟩⟩
        by_cases e : k = (n : Int)
        · rw [e]; exact c
        · exact b k k0 (by omega)
theorem zWo_e2 (f h : Int → Int) (n d : Int) : ∃ v, zWo f h n d v := by
  by_cases c : 0 ≤ n
  · have x := zWo_ex f h d n.toNat
    rw [show ((n.toNat : Nat) : Int) = n by omega] at x
    exact x
  · exact ⟨-1, Or.inr ⟨fun k k0 k1 => by omega, rfl⟩⟩
theorem zwv_c {WD WR WD' WR' : Int → Int} {n d : Int} (hf : ∀ m : Int, 0 ≤ m → m < n → WD m = WD' m ∧ WR m = WR' m) : zwv WD WR n d = zwv WD' WR' n d := by
  obtain ⟨v, h⟩ := zWo_e2 WD WR n d
  obtain ⟨v', h'⟩ := zWo_e2 WD' WR' n d
  rw [zwv_e h, zwv_e h']
  exact (zWo_u rfl hf h h').symm
/-- a day -/
noncomputable def zDY (th : Int) (LW : Int → Int → Int → (Int → Int) → Int) (G : Int → Int) (S T pn : Int) (PD PA PB PC WD WR : Int → Int) (wn : Int) (f : Int → Int) : Int → Int :=
  zde (zdw th LW G S.toNat T.toNat (zwr (zwv WD WR wn (zpn S T PD PA PB PC pn.toNat f 0)) (zpn S T PD PA PB PC pn.toNat f)))
noncomputable def zCY (r : Nat) (g : zi_M) : (Int → Int) → (Int → Int) := zDY (g r 0) (zLc g r) (zeg g) (g r 8) (g r 11) (g 19 10) (g 32) (g 33) (g 34) (g 35) (g 30) (g 31) (g 19 5)
noncomputable def zMY (g : zi_M) : (Int → Int) → (Int → Int) := zDY (g 214 5) (zLm g) (zf g) (g 214 6) (g 214 7) (g 214 39) (fun n => g 234 (4 * n)) (fun n => g 234 (4 * n + 1)) (fun n => g 234 (4 * n + 2)) (fun n => g 234 (4 * n + 3)) (fun m => g 233 (2 * m)) (fun m => g 233 (2 * m + 1)) (g 214 37)
theorem zPD_f {r : Nat} {g0 g : zi_M} (h : zPD r g0 g) (v : zGv r g0) : zVC (g0 r 11) r g = zCY r g0 (zVC (g0 r 11) r g0) := by
  obtain ⟨u, w, z⟩ := h v
  unfold zPf at w z
  unfold zCY zDY
  rw [z, zwv_e w]
theorem zQD_f {g0 g : zi_M} (h : zQD g0 g) (k : zLk g0) (v : zPv g0) (r : 0 ≤ g0 215 3) : zVM (g0 214 7) g = zMY g0 (zVM (g0 214 7) g0) ∧ 0 ≤ g 215 3 := by
  obtain ⟨r1, u, w, z⟩ := h k v r
  refine ⟨?_, r1⟩
  unfold zQw zQf zQF at w
  unfold zQG zQf zQF at z
  unfold zMY zDY
  rw [z, zwv_e w]
-- one day after another
noncomputable def zIt (F : (Int → Int) → (Int → Int)) : Nat → (Int → Int) → (Int → Int)
  | 0, f => f
  | n + 1, f => F (zIt F n f)
-- the same where both sides' texts say the same
theorem zpn_c {S T : Int} {PD PA PB PC PD' PA' PB' PC' : Int → Int} {f : Int → Int} : ∀ n : Nat, (∀ i : Int, 0 ≤ i → i < n → PD i = PD' i ∧ PA i = PA' i ∧ PB i = PB' i ∧ PC i = PC' i) → zpn S T PD PA PB PC n f = zpn S T PD' PA' PB' PC' n f
  | 0, _ => rfl
  | n + 1, h => by
    have ih := zpn_c (S := S) (T := T) (f := f) n (fun i i0 i1 => h i i0 (by omega))
    obtain ⟨a, b, c, d⟩ := h (n : Int) (by omega) (by omega)
    show zite _ _ _ = zite _ _ _
    rw [ih, a, b, c, d]
theorem zsn_c {th p : Int} {LW LW' : Int → Int → Int → (Int → Int) → Int} {G G' : Int → Int} {f : Int → Int} (hL : ∀ w : Int, ∀ x : Int → Int, LW 2 p w x = LW' 2 p w x) (hG : G p = G' p) : ∀ n : Nat, zsn th LW G p n f = zsn th LW' G' p n f
  | 0 => rfl
  | n + 1 => by
    show zsy th LW G p (zsn th LW G p n f) = zsy th LW' G' p (zsn th LW' G' p n f)
    rw [zsn_c hL hG n]
    unfold zsy
    rw [hL, hG]
theorem zwp_c {th : Int} {LW LW' : Int → Int → Int → (Int → Int) → Int} {G G' : Int → Int} {f : Int → Int} : ∀ n : Nat, (∀ kd p w : Int, ∀ x : Int → Int, 0 ≤ p → p < n → LW kd p w x = LW' kd p w x) → (∀ p : Int, 0 ≤ p → p < n → G p = G' p) → zwp th LW G n f = zwp th LW' G' n f
  | 0, _, _ => rfl
  | n + 1, hL, hG => by
    have ih := zwp_c (th := th) (f := f) n (fun kd p w x p0 p1 => hL kd p w x p0 (by omega)) (fun p p0 p1 => hG p p0 (by omega))
    show zite _ _ _ = zite _ _ _
    rw [ih, zsn_c (fun w x => hL 2 n w x (by omega) (by omega)) (hG n (by omega) (by omega)), hL 1 n 0 _ (by omega) (by omega)]
theorem zdT_c {th p : Int} {LW LW' : Int → Int → Int → (Int → Int) → Int} {f : Int → Int} (hL : ∀ x : Int → Int, LW 0 p 0 x = LW' 0 p 0 x) : ∀ n : Nat, zdT th LW p n f = zdT th LW' p n f
  | 0 => rfl
  | n + 1 => by
    show zite _ _ _ = zite _ _ _
    rw [zdT_c hL n, hL]
theorem zdy_c {th : Int} {LW LW' : Int → Int → Int → (Int → Int) → Int} {T : Nat} {f : Int → Int} : ∀ n : Nat, (∀ kd p w : Int, ∀ x : Int → Int, 0 ≤ p → p < n → LW kd p w x = LW' kd p w x) → zdy th LW T n f = zdy th LW' T n f
  | 0, _ => rfl
  | n + 1, hL => by
    show zdp th LW T (n : Int) (zdy th LW T n f) = zdp th LW' T (n : Int) (zdy th LW' T n f)
    rw [zdy_c n (fun kd p w x p0 p1 => hL kd p w x p0 (by omega))]
    unfold zdp
    rw [zdT_c (fun x => hL 0 n 0 x (by omega) (by omega))]
theorem zDY_c {th : Int} {LW LW' : Int → Int → Int → (Int → Int) → Int} {G G' : Int → Int} {S T pn wn : Int} {PD PA PB PC WD WR PD' PA' PB' PC' WD' WR' : Int → Int} (hL : ∀ kd p w : Int, ∀ x : Int → Int, 0 ≤ p → p < S → LW kd p w x = LW' kd p w x) (hG : ∀ p : Int, 0 ≤ p → p < S → G p = G' p) (hP : ∀ i : Int, 0 ≤ i → i < pn → PD i = PD' i ∧ PA i = PA' i ∧ PB i = PB' i ∧ PC i = PC' i) (hW : ∀ m : Int, 0 ≤ m → m < wn → WD m = WD' m ∧ WR m = WR' m) (f : Int → Int) :
    zDY th LW G S T pn PD PA PB PC WD WR wn f = zDY th LW' G' S T pn PD' PA' PB' PC' WD' WR' wn f := by
  unfold zDY
  rw [zpn_c (PD := PD) (PD' := PD') (PA := PA) (PA' := PA') (PB := PB) (PB' := PB') (PC := PC) (PC' := PC') pn.toNat (fun i i0 i1 => hP i i0 (by omega)), zwv_c hW]
  generalize zwr (zwv WD' WR' wn (zpn S T PD' PA' PB' PC' pn.toNat f 0)) (zpn S T PD' PA' PB' PC' pn.toNat f) = x
  unfold zdw zwy
  rw [zdy_c S.toNat (fun kd p w y p0 p1 => hL kd p w y p0 (by omega)), zwp_c S.toNat (fun kd p w y p0 p1 => hL kd p w y p0 (by omega)) (fun p p0 p1 => hG p p0 (by omega))]
