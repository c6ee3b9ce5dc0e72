-- A DAY, over the row: what both do
noncomputable def zhs (f : Int → Int) (o : Int) : Nat → Int
  | 0 => 0
  | n + 1 => zi_or (zhs f o n) (zi_shl 1 (f (o + (n : Int))))
noncomputable def zInq (f : Int → Int) (p w : Int) : Prop := f (26 + p) < 20 ∧ ¬ zi_and (zi_shr (zhs f (36 + 20 * p) (f (26 + p)).toNat) w) 1 = 1
noncomputable def zInr (f : Int → Int) (p w : Int) : Int → Int := zup (zup f (36 + 20 * p + f (26 + p)) w) (26 + p) (f (26 + p) + 1)
noncomputable def zNb (f : Int → Int) (a b c : Int) : Int → Int := zup (zup (zup (zup f (1000 + 4 * f 2) (f 0)) (1001 + 4 * f 2) a) (1002 + 4 * f 2) b) (1003 + 4 * f 2) c
noncomputable def zNt (th : Int) (f : Int → Int) (a b c : Int) : Int → Int := zite (th = 0 ∧ f 2 < 150) (zup (zNb f a b c) 2 (f 2 + 1)) f
/-- words heard of one: k are left to be asked, the next is w, n may still come -/
noncomputable def zls (th p ws : Int) : Nat → Int → Int → (Int → Int) → (Int → Int)
  | 0, _, _, f => f
  | k + 1, w, n, f => zite (0 < n ∧ zi_and (zi_shr ws w) 1 = 1 ∧ zInq f p w) (zls th p ws k (w + 1) (n - 1) (zNt th (zInr f p w) 0 p w)) (zls th p ws k (w + 1) n f)
/-- the first n sitters -/
noncomputable def zdT (th : Int) (LW : Int → Int → Int → (Int → Int) → Int) (p : Int) : Nat → (Int → Int) → (Int → Int)
  | 0, f => f
  | n + 1, f => zite (¬ zdT th LW p n f (6 + p) = 2 ∧ zdT th LW p n f (244 + (n : Int)) = p + 1) (zls th p (zdT th LW p n f (236 + (n : Int))) 16 0 (LW 0 p 0 (zdT th LW p n f)) (zdT th LW p n f)) (zdT th LW p n f)
noncomputable def zdp (th : Int) (LW : Int → Int → Int → (Int → Int) → Int) (T : Nat) (p : Int) (f : Int → Int) : Int → Int := zup (zdT th LW p T f) (16 + p) (min (zdT th LW p T f (16 + p) + 1) 999)
noncomputable def zdy (th : Int) (LW : Int → Int → Int → (Int → Int) → Int) (T : Nat) : Nat → (Int → Int) → (Int → Int)
  | 0, f => f
  | n + 1, f => zdp th LW T (n : Int) (zdy th LW T n f)
/-- jars at p catch w: the first n -/
noncomputable def zjr (p w : Int) : Nat → (Int → Int) → (Int → Int)
  | 0, f => f
  | n + 1, f => zite (zjr p w n f (252 + (n : Int)) = p + 1) (zup (zjr p w n f) (258 + (n : Int)) (zi_or (zjr p w n f (258 + (n : Int))) (zi_shl 1 w))) (zjr p w n f)
/-- the first is HEARD no more -/
noncomputable def zdf (p : Int) (f : Int → Int) : Int → Int := fun k => zite (36 + 20 * p ≤ k ∧ k < 36 + 20 * p + f (26 + p) - 1) (f (k + 1)) (zite (k = 26 + p) (f k - 1) (f k))
noncomputable def zsd (th : Int) (f : Int → Int) : Int → Int := zite (th = 0) (zup f 1 (zi_w (1664525 * f 1 + 1013904223))) f
noncomputable def zsq (th s : Int) (f : Int → Int) : Prop := (th = 0 ∧ Int.tmod (zi_ush (f 1) 8) 1000 < s) ∨ (¬ th = 0 ∧ 500 ≤ s)
noncomputable def zsw (th s w : Int) (f : Int → Int) : Int := zite (zsq th s (zsd th f)) (Int.tmod (w + 1) 16) w
noncomputable def zsf (th s : Int) (f : Int → Int) : Int → Int := zite (zsq th s (zsd th f)) (zup (zsd th f) 5 (zi_w (zsd th f 5 + 1))) (zsd th f)
/-- it waits for the one into which it is led -/
noncomputable def zwt (i w : Int) (f : Int → Int) : Int → Int := zite (¬ i = -1 ∧ f 2000 < 90) (zup (zup (zup f (2101 + f 2000) w) (2001 + f 2000) i) 2000 (f 2000 + 1)) f
noncomputable def zsb (th i p w : Int) (f : Int → Int) : Int → Int := zdf p (zwt i w (zNt th (zjr p w 6 (zup f 4 (zi_w (f 4 + 1)))) 1 p w))
noncomputable def zsy (th : Int) (LW : Int → Int → Int → (Int → Int) → Int) (G : Int → Int) (p : Int) (f : Int → Int) : Int → Int :=
  zsb th (G p) p (zsw th (LW 2 p (f (36 + 20 * p)) f) (f (36 + 20 * p)) f) (zsf th (LW 2 p (f (36 + 20 * p)) f) f)
noncomputable def zsn (th : Int) (LW : Int → Int → Int → (Int → Int) → Int) (G : Int → Int) (p : Int) : Nat → (Int → Int) → (Int → Int)
  | 0, f => f
  | n + 1, f => zsy th LW G p (zsn th LW G p n f)
noncomputable def zsk (f : Int → Int) (p : Int) : Prop := f (6 + p) = 0 ∨ (f (6 + p) = 1 ∧ 5 ≤ f 3)
noncomputable def zwp (th : Int) (LW : Int → Int → Int → (Int → Int) → Int) (G : Int → Int) : Nat → (Int → Int) → (Int → Int)
  | 0, f => f
  | n + 1, f => zite (zsk (zwp th LW G n f) (n : Int)) (zsn th LW G (n : Int) (min (LW 1 (n : Int) 0 (zwp th LW G n f)) (zwp th LW G n f (26 + (n : Int)))).toNat (zwp th LW G n f)) (zwp th LW G n f)
noncomputable def zlD (th : Int) : Nat → (Int → Int) → (Int → Int)
  | 0, f => f
  | n + 1, f => zite (¬ zlD th n f (6 + zlD th n f (2001 + (n : Int))) = 2 ∧ zInq (zlD th n f) (zlD th n f (2001 + (n : Int))) (zlD th n f (2101 + (n : Int)))) (zNt th (zInr (zlD th n f) (zlD th n f (2001 + (n : Int))) (zlD th n f (2101 + (n : Int)))) 2 (zlD th n f (2001 + (n : Int))) (zlD th n f (2101 + (n : Int)))) (zlD th n f)
noncomputable def zdz : Nat → (Int → Int) → (Int → Int)
  | 0, f => f
  | n + 1, f => zup (zdz n f) (16 + (n : Int)) 0
noncomputable def zwl (th : Int) (f : Int → Int) : Int → Int := zlD th (f 2000).toNat f
noncomputable def zwy (th : Int) (LW : Int → Int → Int → (Int → Int) → Int) (G : Int → Int) (S : Nat) (f : Int → Int) : Int → Int := zdz S (zwl th (zwp th LW G S (zup f 2000 0)))
/-- a plan: its first n lines (PD: days, PA: deeds, PB: whom, PC: what) -/
noncomputable def zpn (S T : Int) (PD PA PB PC : Int → Int) : Nat → (Int → Int) → (Int → Int)
  | 0, f => f
  | n + 1, f => zite (PD (n : Int) = zpn S T PD PA PB PC n f 0 ∧ zPa S T (PA (n : Int)) (PB (n : Int)) (PC (n : Int))) (zAc (zpn S T PD PA PB PC n f) (PA (n : Int)) (PB (n : Int)) (PC (n : Int))) (zpn S T PD PA PB PC n f)
noncomputable def zwr (w : Int) (f : Int → Int) : Int → Int := zite (¬ w = -1) (zup f 3 w) f
noncomputable def zdw (th : Int) (LW : Int → Int → Int → (Int → Int) → Int) (G : Int → Int) (S T : Nat) (f : Int → Int) : Int → Int := zite (f 3 = 0) (zdy th LW T S f) (zwy th LW G S f)
noncomputable def zde (f : Int → Int) : Int → Int := zup f 0 (zi_w (f 0 + 1))
-- each writes only where it must
theorem zite_c {α : Type} {P : Prop} {a b c : α} (h : P → a = c) (k : ¬ P → b = c) : zite P a b = c := by
  by_cases p : P
  · rw [zite_p p]; exact h p
  · rw [zite_n p]; exact k p
theorem zNt_o {th : Int} {f : Int → Int} {a b c k : Int} (hk : ¬ k = 2) (h : k < 1000) (h2 : 0 ≤ f 2) : zNt th f a b c k = f k := by
  unfold zNt
  by_cases q : th = 0 ∧ f 2 < 150
  · rw [zite_p q, zup_n hk]
    unfold zNb
    rw [zup_n (by omega), zup_n (by omega), zup_n (by omega), zup_n (by omega)]
  · rw [zite_n q]
theorem zNt_w {th : Int} {f : Int → Int} {a b c k : Int} (h : 2000 ≤ k) (h2 : 0 ≤ f 2) : zNt th f a b c k = f k := by
  unfold zNt
  by_cases q : th = 0 ∧ f 2 < 150
  · rw [zite_p q, zup_n (by omega)]
    unfold zNb
    rw [zup_n (by omega), zup_n (by omega), zup_n (by omega), zup_n (by omega)]
  · rw [zite_n q]
theorem zNt_2 {th : Int} {f : Int → Int} {a b c : Int} (h2 : 0 ≤ f 2) : 0 ≤ zNt th f a b c 2 := by
  unfold zNt
  by_cases q : th = 0 ∧ f 2 < 150
  · rw [zite_p q, zup_e]; omega
  · rw [zite_n q]; exact h2
