-- ONE STEP: what must hold behind the instruction at pc
noncomputable def sx_cat : List Value → Nat
  | [] => 0
  | .long _ :: l => 2 + sx_cat l
  | .double _ :: l => 2 + sx_cat l
  | _ :: l => 1 + sx_cat l
theorem sx_cat_eq : ∀ l : List Value, (l.map fun v => v.category).sum = sx_cat l
  | [] => rfl
  | v :: l => by
    rw [List.map_cons, List.sum_cons, sx_cat_eq l]
    cases v <;> rfl
noncomputable def sx_i1 (st : List Value) (k : Int32 → List Value → Prop) : Prop := match st with
  | .int a :: r => k a r
  | _ => False
noncomputable def sx_i2 (st : List Value) (k : Int32 → Int32 → List Value → Prop) : Prop := match st with
  | .int b :: .int a :: r => k a b r
  | _ => False
noncomputable def sx_l1 (st : List Value) (k : Int64 → List Value → Prop) : Prop := match st with
  | .long a :: r => k a r
  | _ => False
noncomputable def sx_l2 (st : List Value) (k : Int64 → Int64 → List Value → Prop) : Prop := match st with
  | .long b :: .long a :: r => k a b r
  | _ => False
noncomputable def sx_r1 (st : List Value) (k : Nat → List Value → Prop) : Prop := match st with
  | .ref a :: r => k a r
  | _ => False
noncomputable def sx_ir (st : List Value) (k : Int32 → Nat → List Value → Prop) : Prop := match st with
  | .int i :: .ref a :: r => k i a r
  | _ => False
noncomputable def sx_iir (st : List Value) (k : Int32 → Int32 → Nat → List Value → Prop) : Prop := match st with
  | .int w :: .int i :: .ref a :: r => k w i a r
  | _ => False
noncomputable def sx_rir (st : List Value) (k : Nat → Int32 → Nat → List Value → Prop) : Prop := match st with
  | .ref w :: .int i :: .ref a :: r => k w i a r
  | _ => False
noncomputable def sx_rr (st : List Value) (k : Nat → Nat → List Value → Prop) : Prop := match st with
  | .ref w :: .ref a :: r => k w a r
  | _ => False
noncomputable def sx_c5 (st : List Value) (k : Int32 → Int32 → Nat → Int32 → Nat → List Value → Prop) : Prop := match st with
  | .int w :: .int dp :: .ref a :: .int sp :: .ref a0 :: r => k w dp a sp a0 r
  | _ => False
noncomputable def sx_lI (v : Option Value) (k : Int32 → Prop) : Prop := match v with
  | some (.int a) => k a
  | _ => False
noncomputable def sx_lL (v : Option Value) (k : Int64 → Prop) : Prop := match v with
  | some (.long a) => k a
  | _ => False
noncomputable def sx_lR (v : Option Value) (k : Nat → Prop) : Prop := match v with
  | some (.ref a) => k a
  | _ => False
noncomputable def sx_v1 (st : List Value) (k : Value → List Value → Prop) : Prop := match st with
  | .int a :: r => k (.int a) r
  | .ref a :: r => k (.ref a) r
  | _ => False
/-- the cell a is of kind c -/
noncomputable def sx_sk (q : Option (Nat × Nat)) (c : Nat) (k : Nat → Prop) : Prop := match q with
  | some kd => bif Nat.beq kd.1 c then k kd.2 else False
  | none => False
/-- a call: some contract of the callee, and what must hold behind it -/
noncomputable def sx_cP (E : sx_E) (d kc ks j pc : Nat) (ls : List (Option Value)) (rest : List Value) (x : Nat) (as : List Value) (m : sx_M) (Q : Option Value → sx_M → Prop) : Prop :=
  ∃ (d' kc' ks' : Nat) (Q' : Option Value → sx_M → Prop), d' < d ∧ kc' ≤ kc ∧ ks' ≤ ks ∧ sx_S E d' kc' ks' x as m Q' ∧ ∀ v m', Q' v m' → sx_W E d (kc - kc') (ks - ks') j (pc + 3) ls (v.toList ++ rest) m' Q
theorem sx_cP.of {E : sx_E} {d kc ks j pc : Nat} {ls : List (Option Value)} {rest : List Value} {x : Nat} {as : List Value} {m : sx_M} {Q : Option Value → sx_M → Prop} {d' kc' ks' : Nat} {Q' : Option Value → sx_M → Prop} (hS : sx_S E d' kc' ks' x as m Q') (hd : d' < d) (h1 : kc' ≤ kc) (h2 : ks' ≤ ks) (k : ∀ v m', Q' v m' → sx_W E d (kc - kc') (ks - ks') j (pc + 3) ls (v.toList ++ rest) m' Q) : sx_cP E d kc ks j pc ls rest x as m Q := ⟨d', kc', ks', Q', hd, h1, h2, hS, k⟩
theorem sx_i1_e {st : List Value} {k : Int32 → List Value → Prop} (h : sx_i1 st k) : ∃ a r, st = .int a :: r ∧ k a r := by
  unfold sx_i1 at h
  split at h
  · exact ⟨_, _, rfl, h⟩
  · exact h.elim
theorem sx_i2_e {st : List Value} {k : Int32 → Int32 → List Value → Prop} (h : sx_i2 st k) : ∃ a b r, st = .int b :: .int a :: r ∧ k a b r := by
  unfold sx_i2 at h
  split at h
  · exact ⟨_, _, _, rfl, h⟩
  · exact h.elim
theorem sx_l1_e {st : List Value} {k : Int64 → List Value → Prop} (h : sx_l1 st k) : ∃ a r, st = .long a :: r ∧ k a r := by
  unfold sx_l1 at h
  split at h
  · exact ⟨_, _, rfl, h⟩
  · exact h.elim
theorem sx_l2_e {st : List Value} {k : Int64 → Int64 → List Value → Prop} (h : sx_l2 st k) : ∃ a b r, st = .long b :: .long a :: r ∧ k a b r := by
  unfold sx_l2 at h
  split at h
  · exact ⟨_, _, _, rfl, h⟩
  · exact h.elim
theorem sx_r1_e {st : List Value} {k : Nat → List Value → Prop} (h : sx_r1 st k) : ∃ a r, st = .ref a :: r ∧ k a r := by
  unfold sx_r1 at h
  split at h
  · exact ⟨_, _, rfl, h⟩
  · exact h.elim
theorem sx_ir_e {st : List Value} {k : Int32 → Nat → List Value → Prop} (h : sx_ir st k) : ∃ i a r, st = .int i :: .ref a :: r ∧ k i a r := by
  unfold sx_ir at h
  split at h
  · exact ⟨_, _, _, rfl, h⟩
  · exact h.elim
theorem sx_iir_e {st : List Value} {k : Int32 → Int32 → Nat → List Value → Prop} (h : sx_iir st k) : ∃ w i a r, st = .int w :: .int i :: .ref a :: r ∧ k w i a r := by
  unfold sx_iir at h
  split at h
  · exact ⟨_, _, _, _, rfl, h⟩
  · exact h.elim
theorem sx_rir_e {st : List Value} {k : Nat → Int32 → Nat → List Value → Prop} (h : sx_rir st k) : ∃ w i a r, st = .ref w :: .int i :: .ref a :: r ∧ k w i a r := by
  unfold sx_rir at h
  split at h
  · exact ⟨_, _, _, _, rfl, h⟩
  · exact h.elim
theorem sx_rr_e {st : List Value} {k : Nat → Nat → List Value → Prop} (h : sx_rr st k) : ∃ w a r, st = .ref w :: .ref a :: r ∧ k w a r := by
  unfold sx_rr at h
  split at h
  · exact ⟨_, _, _, rfl, h⟩
  · exact h.elim
theorem sx_c5_e {st : List Value} {k : Int32 → Int32 → Nat → Int32 → Nat → List Value → Prop} (h : sx_c5 st k) : ∃ w dp a sp a0 r, st = .int w :: .int dp :: .ref a :: .int sp :: .ref a0 :: r ∧ k w dp a sp a0 r := by
  unfold sx_c5 at h
  split at h
  · exact ⟨_, _, _, _, _, _, rfl, h⟩
  · exact h.elim
theorem sx_v1_e {st : List Value} {k : Value → List Value → Prop} (h : sx_v1 st k) : ∃ a r, st = a :: r ∧ a.category = 1 ∧ k a r := by
  unfold sx_v1 at h
  split at h
  · exact ⟨_, _, rfl, rfl, h⟩
  · exact ⟨_, _, rfl, rfl, h⟩
  · exact h.elim
theorem sx_lI_e {v : Option Value} {k : Int32 → Prop} (h : sx_lI v k) : ∃ a, v = some (.int a) ∧ k a := by
  unfold sx_lI at h
  split at h
  · exact ⟨_, rfl, h⟩
  · exact h.elim
theorem sx_lL_e {v : Option Value} {k : Int64 → Prop} (h : sx_lL v k) : ∃ a, v = some (.long a) ∧ k a := by
  unfold sx_lL at h
  split at h
  · exact ⟨_, rfl, h⟩
  · exact h.elim
theorem sx_lR_e {v : Option Value} {k : Nat → Prop} (h : sx_lR v k) : ∃ a, v = some (.ref a) ∧ k a := by
  unfold sx_lR at h
  split at h
  · exact ⟨_, rfl, h⟩
  · exact h.elim
theorem sx_sk_e {q : Option (Nat × Nat)} {c : Nat} {k : Nat → Prop} (h : sx_sk q c k) : ∃ N, q = some (c, N) ∧ k N := by
  unfold sx_sk at h
  split at h
  · rename_i kd
    cases hb : Nat.beq kd.1 c with
    | true => rw [hb] at h; exact ⟨kd.2, by rw [← Nat.eq_of_beq_eq_true hb], h⟩
    | false => rw [hb] at h; exact h.elim
  · exact h.elim
noncomputable def sx_wpi (E : sx_E) (d kc ks j pc : Nat) (ls : List (Option Value)) (st : List Value) (m : sx_M) (Q : Option Value → sx_M → Prop) (i : Instr) (x y : Nat) (z : Int32) : Prop := match i with
  | .iconst _ => sx_W E d kc ks j (pc + 1) ls (.int z :: st) m Q
  | .bipush _ => sx_W E d kc ks j (pc + 2) ls (.int z :: st) m Q
  | .sipush _ => sx_W E d kc ks j (pc + 3) ls (.int z :: st) m Q
  | .iadd => sx_i2 st fun a b r => sx_W E d kc ks j (pc + 1) ls (.int (a + b) :: r) m Q
  | .isub => sx_i2 st fun a b r => sx_W E d kc ks j (pc + 1) ls (.int (a - b) :: r) m Q
  | .imul => sx_i2 st fun a b r => sx_W E d kc ks j (pc + 1) ls (.int (a * b) :: r) m Q
  | .iand => sx_i2 st fun a b r => sx_W E d kc ks j (pc + 1) ls (.int (a &&& b) :: r) m Q
  | .ior => sx_i2 st fun a b r => sx_W E d kc ks j (pc + 1) ls (.int (a ||| b) :: r) m Q
  | .ixor => sx_i2 st fun a b r => sx_W E d kc ks j (pc + 1) ls (.int (a ^^^ b) :: r) m Q
  | .ishl => sx_i2 st fun a b r => sx_W E d kc ks j (pc + 1) ls (.int (a <<< (b &&& 31)) :: r) m Q
  | .ishr => sx_i2 st fun a b r => sx_W E d kc ks j (pc + 1) ls (.int (a >>> (b &&& 31)) :: r) m Q
  | .iushr => sx_i2 st fun a b r => sx_W E d kc ks j (pc + 1) ls (.int ((a.toUInt32 >>> (b &&& 31).toUInt32).toInt32) :: r) m Q
  | .idiv => sx_i2 st fun a b r => ¬ b = 0 ∧ sx_W E d kc ks j (pc + 1) ls (.int (a / b) :: r) m Q
  | .irem => sx_i2 st fun a b r => ¬ b = 0 ∧ sx_W E d kc ks j (pc + 1) ls (.int (a - a / b * b) :: r) m Q
  | .ladd => sx_l2 st fun a b r => sx_W E d kc ks j (pc + 1) ls (.long (a + b) :: r) m Q
  | .lsub => sx_l2 st fun a b r => sx_W E d kc ks j (pc + 1) ls (.long (a - b) :: r) m Q
  | .lmul => sx_l2 st fun a b r => sx_W E d kc ks j (pc + 1) ls (.long (a * b) :: r) m Q
  | .ldiv => sx_l2 st fun a b r => ¬ b = 0 ∧ sx_W E d kc ks j (pc + 1) ls (.long (a / b) :: r) m Q
  | .lcmp => sx_l2 st fun a b r => sx_W E d kc ks j (pc + 1) ls (.int (lg_cmp a b) :: r) m Q
  | .i2l => sx_i1 st fun a r => sx_W E d kc ks j (pc + 1) ls (.long a.toInt64 :: r) m Q
  | .l2i => sx_l1 st fun a r => sx_W E d kc ks j (pc + 1) ls (.int a.toInt32 :: r) m Q
  | .lconst w => sx_W E d kc ks j (pc + 1) ls (.long (Int64.ofNat (w : Nat)) :: st) m Q
  | .dup => sx_v1 st fun a r => sx_W E d kc ks j (pc + 1) ls (a :: a :: r) m Q
  | .dup2 => sx_ir st fun i a r => sx_W E d kc ks j (pc + 1) ls (.int i :: .ref a :: .int i :: .ref a :: r) m Q
  | .pop => sx_v1 st fun a r => sx_W E d kc ks j (pc + 1) ls r m Q
  | .iload_n w => sx_lI (sx_nth ls w.val) fun v => sx_W E d kc ks j (pc + 1) ls (.int v :: st) m Q
  | .iload i => sx_lI (sx_nth ls i) fun v => sx_W E d kc ks j (pc + 2) ls (.int v :: st) m Q
  | .lload_n w => sx_lL (sx_nth ls w.val) fun v => sx_W E d kc ks j (pc + 1) ls (.long v :: st) m Q
  | .lload i => sx_lL (sx_nth ls i) fun v => sx_W E d kc ks j (pc + 2) ls (.long v :: st) m Q
  | .aload_n w => sx_lR (sx_nth ls w.val) fun v => sx_W E d kc ks j (pc + 1) ls (.ref v :: st) m Q
  | .aload i => sx_lR (sx_nth ls i) fun v => sx_W E d kc ks j (pc + 2) ls (.ref v :: st) m Q
  | .istore_n w => sx_i1 st fun v r => sx_W E d kc ks j (pc + 1) (sx_put ls w.val (some (.int v))) r m Q
  | .istore w => sx_i1 st fun v r => sx_W E d kc ks j (pc + 2) (sx_put ls w (some (.int v))) r m Q
  | .lstore_n w => sx_l1 st fun v r => sx_W E d kc ks j (pc + 1) (sx_put (sx_put ls (w.val + 1) none) w.val (some (.long v))) r m Q
  | .lstore w => sx_l1 st fun v r => sx_W E d kc ks j (pc + 2) (sx_put (sx_put ls (w + 1) none) w (some (.long v))) r m Q
  | .astore_n w => sx_r1 st fun v r => sx_W E d kc ks j (pc + 1) (sx_put ls w.val (some (.ref v))) r m Q
  | .astore w => sx_r1 st fun v r => sx_W E d kc ks j (pc + 2) (sx_put ls w (some (.ref v))) r m Q
  | .iinc i _ => sx_lI (sx_nth ls i) fun v => sx_W E d kc ks j (pc + 3) (sx_put ls i (some (.int (v + z)))) st m Q
  | .ifCond cd _ => sx_i1 st fun v r => sx_br1 cd v (sx_W E d kc ks j x ls r m Q) (sx_W E d kc ks j (pc + 3) ls r m Q)
  | .if_icmp cd _ => sx_i2 st fun a b r => sx_br2 cd a b (sx_W E d kc ks j x ls r m Q) (sx_W E d kc ks j (pc + 3) ls r m Q)
  | .goto _ => sx_W E d kc ks j x ls st m Q
  | .tableswitch dflt lo hi offs => sx_i1 st fun v r => (0 ≤ (pc : Int) + dflt ∧ (offs.toList.all fun o => decide (0 ≤ (pc : Int) + o)) = true ∧ offs.size = (hi - lo + 1).toNat) ∧ (v.toInt < lo ∨ hi < v.toInt → sx_W E d kc ks j ((pc : Int) + dflt).toNat ls r m Q) ∧ sx_swT v pc (fun t => sx_W E d kc ks j t ls r m Q) lo offs.toList
  | .lookupswitch dflt ps => sx_i1 st fun v r => (0 ≤ (pc : Int) + dflt ∧ (ps.toList.all fun o => decide (0 ≤ (pc : Int) + o.2)) = true) ∧ sx_swL v pc (fun t => sx_W E d kc ks j t ls r m Q) dflt ps.toList
  | .ldc _ => bif Nat.beq x 0 then sx_W E d kc ks j (pc + 2) ls (.int z :: st) m Q else sx_W E d kc ks j (pc + 2) ls (.ref (1000000000 + x) :: st) m Q
  | .ldc_w _ => sx_W E d kc ks j (pc + 3) ls (.int z :: st) m Q
  | .ldc2_w _ => sx_W E d kc ks j (pc + 3) ls (.long (Int64.ofNat x) :: st) m Q
  | .getfield _ => sx_r1 st fun a r => sx_sk (m.2.1 a) x fun _ => sx_W E d kc ks j (pc + 3) ls ((bif sx_isI x y then .int (m.2.2.1 a y) else sx_rv (m.2.2.2 a y)) :: r) m Q
  | .putfield _ => bif (Nat.ble (x + 1) 13 && Nat.ble (y + 1) (sx_N x)) then (bif sx_isI x y then sx_ir st fun w a r => sx_sk (m.2.1 a) x fun _ => bif sx_isZ x y then (w = 0 ∨ w = 1) ∧ sx_W E d kc ks j (pc + 3) ls r (m.1, m.2.1, sx_up m.2.2.1 a y w, m.2.2.2) Q else sx_W E d kc ks j (pc + 3) ls r (m.1, m.2.1, sx_up m.2.2.1 a y w, m.2.2.2) Q else sx_rr st fun w a r => sx_sk (m.2.1 a) x fun _ => sx_W E d kc ks j (pc + 3) ls r (m.1, m.2.1, m.2.2.1, sx_up m.2.2.2 a y (some w)) Q) else False
  | .iaload => sx_ir st fun i a r => bif Nat.beq a 1000000000 then ¬ (i < 0 ∨ sx_Ln E ≤ i.toNatClampNeg) ∧ sx_W E d kc ks j (pc + 1) ls (.int (sx_xs E i.toNatClampNeg) :: r) m Q else sx_sk (m.2.1 a) 13 fun N => ¬ (i < 0 ∨ N ≤ i.toNatClampNeg) ∧ sx_W E d kc ks j (pc + 1) ls (.int (m.2.2.1 a i.toNatClampNeg) :: r) m Q
  | .iastore => sx_iir st fun w i a r => sx_sk (m.2.1 a) 13 fun N => ¬ (i < 0 ∨ N ≤ i.toNatClampNeg) ∧ sx_W E d kc ks j (pc + 1) ls r (m.1, m.2.1, sx_up m.2.2.1 a i.toNatClampNeg w, m.2.2.2) Q
  | .aaload => sx_ir st fun i a r => sx_sk (m.2.1 a) 14 fun N => ¬ (i < 0 ∨ N ≤ i.toNatClampNeg) ∧ sx_W E d kc ks j (pc + 1) ls (sx_rv (m.2.2.2 a i.toNatClampNeg) :: r) m Q
  | .aastore => sx_rir st fun v i a r => sx_sk (m.2.1 a) 14 fun N => sx_sk (m.2.1 v) 10 fun _ => ¬ (i < 0 ∨ N ≤ i.toNatClampNeg) ∧ sx_W E d kc ks j (pc + 1) ls r (m.1, m.2.1, m.2.2.1, sx_up m.2.2.2 a i.toNatClampNeg (some v)) Q
  | .arraylength => sx_r1 st fun a r => bif Nat.beq a 1000000000 then sx_W E d kc ks j (pc + 1) ls (.int (Int32.ofNat (sx_Ln E)) :: r) m Q else sx_sk (m.2.1 a) 13 fun N => sx_W E d kc ks j (pc + 1) ls (.int (Int32.ofNat N) :: r) m Q
  | .invokevirtual _ => bif (Nat.beq y (sx_na x) && (Nat.beq (sx_kd x) 1 && (Nat.ble (x + 1) 9996 && Nat.ble (sx_oc x + 1) 13))) then sx_r1 (st.drop y) fun a r => sx_sk (m.2.1 a) (sx_oc x) fun _ => bif Nat.ble (sx_cat r) 8 then sx_cP E d kc ks j pc ls r x (.ref a :: (st.take y).reverse) m Q else False else False
  | .invokespecial _ => bif Nat.beq x 9999 then sx_r1 st (fun a r => bif (Nat.ble (sx_cat r) 8 && Nat.ble 1 d) then sx_W E d kc ks j (pc + 3) ls r m Q else False) else bif (Nat.beq y (sx_na x) && (Nat.beq (sx_kd x) 2 && Nat.ble (x + 1) 9996)) then sx_r1 (st.drop y) fun a r => sx_sk (m.2.1 a) (sx_oc x) fun _ => bif Nat.ble (sx_cat r) 8 then sx_cP E d kc ks j pc ls r x (.ref a :: (st.take y).reverse) m Q else False else False
  | .invokestatic _ => bif Nat.beq x 9996 then sx_i2 st (fun a b r => bif (Nat.ble (sx_cat r) 8 && Nat.ble 1 d) then sx_W E d kc ks j (pc + 3) ls (.int (if a < b then b else a) :: r) m Q else False) else bif Nat.beq x 9997 then sx_i2 st (fun a b r => bif (Nat.ble (sx_cat r) 8 && Nat.ble 1 d) then sx_W E d kc ks j (pc + 3) ls (.int (if b < a then b else a) :: r) m Q else False) else bif Nat.beq x 9998 then sx_c5 st (fun w dp a sp a0 r => sx_sk (m.2.1 a0) 13 fun N0 => sx_sk (m.2.1 a) 13 fun N => bif (Nat.ble (sx_cat r) 8 && Nat.ble 1 d) then (¬ sp < 0 ∧ ¬ dp < 0 ∧ ¬ w < 0 ∧ sp.toNatClampNeg + w.toNatClampNeg ≤ N0 ∧ dp.toNatClampNeg + w.toNatClampNeg ≤ N) ∧ sx_W E d kc ks j (pc + 3) ls r (m.1, m.2.1, sx_ua m.2.2.1 a (va_cpy (m.2.2.1 a0) (m.2.2.1 a) sp.toNatClampNeg dp.toNatClampNeg w.toNatClampNeg), m.2.2.2) Q else False) else bif (Nat.beq y (sx_na x) && (Nat.beq (sx_kd x) 0 && (Nat.ble (x + 1) 9996 && (Nat.ble y st.length && Nat.ble (sx_cat (st.drop y)) 8)))) then sx_cP E d kc ks j pc ls (st.drop y) x (st.take y).reverse m Q else False
  | .newarray ty => bif (decide (ty = .int) && Nat.ble (m.1 + 1) 100000) then sx_i1 st fun w r => ∃ kc1, kc = kc1 + 1 ∧ ¬ w < 0 ∧ w.toNatClampNeg ≤ 100000 ∧ w.toNatClampNeg ≤ ks ∧ sx_W E d kc1 (ks - w.toNatClampNeg) j (pc + 2) ls (.ref m.1 :: r) (m.1 + 1, sx_u1 m.2.1 m.1 (some (13, w.toNatClampNeg)), sx_ua m.2.2.1 m.1 (fun _ => 0), sx_ua m.2.2.2 m.1 (fun _ => none)) Q else False
  | .anewarray _ => bif Nat.ble (m.1 + 1) 100000 then sx_i1 st fun w r => ∃ kc1, kc = kc1 + 1 ∧ ¬ w < 0 ∧ w.toNatClampNeg ≤ 100000 ∧ w.toNatClampNeg ≤ ks ∧ sx_W E d kc1 (ks - w.toNatClampNeg) j (pc + 3) ls (.ref m.1 :: r) (m.1 + 1, sx_u1 m.2.1 m.1 (some (14, w.toNatClampNeg)), sx_ua m.2.2.1 m.1 (fun _ => 0), sx_ua m.2.2.2 m.1 (fun _ => none)) Q else False
  | .new _ => bif (Nat.ble (m.1 + 1) 100000 && Nat.ble (sx_N x) ks) then ∃ kc1, kc = kc1 + 1 ∧ sx_W E d kc1 (ks - sx_N x) j (pc + 3) ls (.ref m.1 :: st) (m.1 + 1, sx_u1 m.2.1 m.1 (some (x, sx_N x)), sx_ua m.2.2.1 m.1 (fun _ => 0), sx_ua m.2.2.2 m.1 (fun _ => none)) Q else False
  | .ireturn => match st with
      | [.int v] => (match sx_rt j with
        | some .int => Q (some (.int v)) m
        | some .boolean => (v = 0 ∨ v = 1) ∧ Q (some (.int v)) m
        | _ => False)
      | _ => False
  | .lreturn => match st with
      | [.long v] => (match sx_rt j with
        | some .long => Q (some (.long v)) m
        | _ => False)
      | _ => False
  | .return_ => match st with
      | [] => (match sx_rt j with
        | none => Q none m
        | _ => False)
      | _ => False
  | _ => False
noncomputable def sx_wp1 (E : sx_E) (d kc ks j pc : Nat) (ls : List (Option Value)) (st : List Value) (m : sx_M) (Q : Option Value → sx_M → Prop) : Prop := match sx_tab j pc with
  | some (i, _, x, y, z) => sx_wpi E d kc ks j pc ls st m Q i x y z
  | none => False
theorem sx_step {E : sx_E} {d kc ks j pc : Nat} {ls : List (Option Value)} {st : List Value} {m : sx_M} {Q : Option Value → sx_M → Prop} (h : sx_wp1 E d kc ks j pc ls st m Q) : sx_W E d kc ks j pc ls st m Q := by
  unfold sx_wp1 at h
  split at h
  · rename_i i n x y z ht
    cases i
    case iconst _ =>
      dsimp only [sx_wpi] at h
      exact sx_iconst ht h
    case bipush _ =>
      dsimp only [sx_wpi] at h
      exact sx_bipush ht h
    case sipush _ =>
      dsimp only [sx_wpi] at h
      exact sx_sipush ht h
    case iadd =>
      dsimp only [sx_wpi] at h
      replace h := sx_i2_e h; obtain ⟨a, b, r, e9, h⟩ := h; subst e9; exact sx_iadd ht h
    case isub =>
      dsimp only [sx_wpi] at h
      replace h := sx_i2_e h; obtain ⟨a, b, r, e9, h⟩ := h; subst e9; exact sx_isub ht h
    case imul =>
      dsimp only [sx_wpi] at h
      replace h := sx_i2_e h; obtain ⟨a, b, r, e9, h⟩ := h; subst e9; exact sx_imul ht h
    case iand =>
      dsimp only [sx_wpi] at h
      replace h := sx_i2_e h; obtain ⟨a, b, r, e9, h⟩ := h; subst e9; exact sx_iand ht h
    case ior =>
      dsimp only [sx_wpi] at h
      replace h := sx_i2_e h; obtain ⟨a, b, r, e9, h⟩ := h; subst e9; exact sx_ior ht h
    case ixor =>
      dsimp only [sx_wpi] at h
      replace h := sx_i2_e h; obtain ⟨a, b, r, e9, h⟩ := h; subst e9; exact sx_ixor ht h
    case ishl =>
      dsimp only [sx_wpi] at h
      replace h := sx_i2_e h; obtain ⟨a, b, r, e9, h⟩ := h; subst e9; exact sx_ishl ht h
    case ishr =>
      dsimp only [sx_wpi] at h
      replace h := sx_i2_e h; obtain ⟨a, b, r, e9, h⟩ := h; subst e9; exact sx_ishr ht h
    case iushr =>
      dsimp only [sx_wpi] at h
      replace h := sx_i2_e h; obtain ⟨a, b, r, e9, h⟩ := h; subst e9; exact sx_iushr ht h
    case idiv =>
      dsimp only [sx_wpi] at h
      replace h := sx_i2_e h; obtain ⟨a, b, r, e9, h⟩ := h; subst e9; exact sx_idiv ht h.1 h.2
    case irem =>
      dsimp only [sx_wpi] at h
      replace h := sx_i2_e h; obtain ⟨a, b, r, e9, h⟩ := h; subst e9; exact sx_irem ht h.1 h.2
    case ladd =>
      dsimp only [sx_wpi] at h
      replace h := sx_l2_e h; obtain ⟨a, b, r, e9, h⟩ := h; subst e9; exact sx_ladd ht h
    case lsub =>
      dsimp only [sx_wpi] at h
      replace h := sx_l2_e h; obtain ⟨a, b, r, e9, h⟩ := h; subst e9; exact sx_lsub ht h
    case lmul =>
      dsimp only [sx_wpi] at h
      replace h := sx_l2_e h; obtain ⟨a, b, r, e9, h⟩ := h; subst e9; exact sx_lmul ht h
    case ldiv =>
      dsimp only [sx_wpi] at h
      replace h := sx_l2_e h; obtain ⟨a, b, r, e9, h⟩ := h; subst e9; exact sx_ldiv ht h.1 h.2
    case lcmp =>
      dsimp only [sx_wpi] at h
      replace h := sx_l2_e h; obtain ⟨a, b, r, e9, h⟩ := h; subst e9; exact sx_lcmp ht h
    case i2l =>
      dsimp only [sx_wpi] at h
      replace h := sx_i1_e h; obtain ⟨a, r, e9, h⟩ := h; subst e9; exact sx_i2l ht h
    case l2i =>
      dsimp only [sx_wpi] at h
      replace h := sx_l1_e h; obtain ⟨a, r, e9, h⟩ := h; subst e9; exact sx_l2i ht h
    case lconst w =>
      dsimp only [sx_wpi] at h
      exact sx_lconst ht h
    case dup =>
      dsimp only [sx_wpi] at h
      replace h := sx_v1_e h; obtain ⟨a, r, e9, hc, h⟩ := h; subst e9; exact sx_dup ht hc h
    case dup2 =>
      dsimp only [sx_wpi] at h
      replace h := sx_ir_e h; obtain ⟨i, a, r, e9, h⟩ := h; subst e9; exact sx_dup2 ht rfl rfl h
    case pop =>
      dsimp only [sx_wpi] at h
      replace h := sx_v1_e h; obtain ⟨a, r, e9, hc, h⟩ := h; subst e9; exact sx_pop ht hc h
    case iload_n w =>
      dsimp only [sx_wpi] at h
      obtain ⟨v, hv, h⟩ := sx_lI_e h; exact sx_iload_n ht hv h
    case iload i =>
      dsimp only [sx_wpi] at h
      obtain ⟨v, hv, h⟩ := sx_lI_e h; exact sx_iload ht hv h
    case lload_n w =>
      dsimp only [sx_wpi] at h
      obtain ⟨v, hv, h⟩ := sx_lL_e h; exact sx_lload_n ht hv h
    case lload i =>
      dsimp only [sx_wpi] at h
      obtain ⟨v, hv, h⟩ := sx_lL_e h; exact sx_lload ht hv h
    case aload_n w =>
      dsimp only [sx_wpi] at h
      obtain ⟨v, hv, h⟩ := sx_lR_e h; exact sx_aload_n ht hv h
    case aload i =>
      dsimp only [sx_wpi] at h
      obtain ⟨v, hv, h⟩ := sx_lR_e h; exact sx_aload ht hv h
    case istore_n w =>
      dsimp only [sx_wpi] at h
      obtain ⟨v, r, rfl, h⟩ := sx_i1_e h; exact sx_istore_n ht h
    case istore w =>
      dsimp only [sx_wpi] at h
      obtain ⟨v, r, rfl, h⟩ := sx_i1_e h; exact sx_istore ht h
    case lstore_n w =>
      dsimp only [sx_wpi] at h
      obtain ⟨v, r, rfl, h⟩ := sx_l1_e h; exact sx_lstore_n ht h
    case lstore w =>
      dsimp only [sx_wpi] at h
      obtain ⟨v, r, rfl, h⟩ := sx_l1_e h; exact sx_lstore ht h
    case astore_n w =>
      dsimp only [sx_wpi] at h
      obtain ⟨v, r, rfl, h⟩ := sx_r1_e h; exact sx_astore_n ht h
    case astore w =>
      dsimp only [sx_wpi] at h
      obtain ⟨v, r, rfl, h⟩ := sx_r1_e h; exact sx_astore ht h
    case iinc i _ =>
      dsimp only [sx_wpi] at h
      replace h := sx_lI_e h; obtain ⟨v, hv, h⟩ := h; exact sx_iinc ht hv h
    case ifCond cd _ =>
      dsimp only [sx_wpi] at h
      replace h := sx_i1_e h; obtain ⟨v, r, e9, h⟩ := h; subst e9; exact sx_if ht h
    case if_icmp cd _ =>
      dsimp only [sx_wpi] at h
      replace h := sx_i2_e h; obtain ⟨a, b, r, e9, h⟩ := h; subst e9; exact sx_icmp ht h
    case goto _ =>
      dsimp only [sx_wpi] at h
      exact sx_goto ht h
    case tableswitch dflt lo hi offs =>
      dsimp only [sx_wpi] at h
      replace h := sx_i1_e h; obtain ⟨v, r, e9, h⟩ := h; subst e9; exact sx_tsw ht h.1 h.2.1 h.2.2
    case lookupswitch dflt ps =>
      dsimp only [sx_wpi] at h
      replace h := sx_i1_e h; obtain ⟨v, r, e9, h⟩ := h; subst e9; exact sx_lsw ht h.1 h.2
    case ldc _ =>
      dsimp only [sx_wpi] at h
      cases hx0 : Nat.beq x 0 with
      | true => rw [hx0] at h; have e0 : x = 0 := Nat.eq_of_beq_eq_true hx0; subst e0; exact sx_ldc ht h
      | false => rw [hx0] at h; exact sx_ldcS ht hx0 h
    case ldc_w _ =>
      dsimp only [sx_wpi] at h
      exact sx_ldcw ht h
    case ldc2_w _ =>
      dsimp only [sx_wpi] at h
      exact sx_ldc2 ht h
    case getfield _ =>
      dsimp only [sx_wpi] at h
      replace h := sx_r1_e h; obtain ⟨a, r, e9, h⟩ := h; subst e9; replace h := sx_sk_e h; obtain ⟨N, hs, h⟩ := h; exact sx_get ht hs h
    case putfield _ =>
      dsimp only [sx_wpi] at h
      cases hb : (Nat.ble (x + 1) 13 && Nat.ble (y + 1) (sx_N x)) with
      | false => rw [hb] at h; exact h.elim
      | true =>
        rw [hb, cond_true] at h
        simp only [Bool.and_eq_true] at hb
        have hc : x < 13 := Nat.le_of_ble_eq_true hb.1
        have hy : y < sx_N x := Nat.le_of_ble_eq_true hb.2
        cases hi : sx_isI x y with
        | true =>
          rw [hi, cond_true] at h
          replace h := sx_ir_e h; obtain ⟨w, a, r, e9, h⟩ := h; subst e9; replace h := sx_sk_e h; obtain ⟨N, hs, h⟩ := h
          cases hz : sx_isZ x y with
          | true => rw [hz, cond_true] at h; exact sx_putI ht hs hc hy hi (Or.inr h.1) h.2
          | false => rw [hz, cond_false] at h; exact sx_putI ht hs hc hy hi (Or.inl hz) h
        | false =>
          rw [hi, cond_false] at h
          replace h := sx_rr_e h; obtain ⟨w, a, r, e9, h⟩ := h; subst e9; replace h := sx_sk_e h; obtain ⟨N, hs, h⟩ := h
          exact sx_putR (q := some w) ht hs hc hy hi h
    case iaload =>
      dsimp only [sx_wpi] at h
      replace h := sx_ir_e h; obtain ⟨i, a, r, e9, h⟩ := h; subst e9
      cases ha : Nat.beq a 1000000000 with
      | true => rw [ha, cond_true] at h; have e0 : a = 1000000000 := Nat.eq_of_beq_eq_true ha; subst e0; exact sx_iaX ht h.1 h.2
      | false => rw [ha, cond_false] at h; replace h := sx_sk_e h; obtain ⟨N, hs, h⟩ := h; exact sx_iald ht hs h.1 h.2
    case iastore =>
      dsimp only [sx_wpi] at h
      replace h := sx_iir_e h; obtain ⟨w, i, a, r, e9, h⟩ := h; subst e9; replace h := sx_sk_e h; obtain ⟨N, hs, h⟩ := h; exact sx_iast ht hs h.1 h.2
    case aaload =>
      dsimp only [sx_wpi] at h
      replace h := sx_ir_e h; obtain ⟨i, a, r, e9, h⟩ := h; subst e9; replace h := sx_sk_e h; obtain ⟨N, hs, h⟩ := h; exact sx_aald ht hs h.1 h.2
    case aastore =>
      dsimp only [sx_wpi] at h
      replace h := sx_rir_e h; obtain ⟨v, i, a, r, e9, h⟩ := h; subst e9; replace h := sx_sk_e h; obtain ⟨N, hs, h⟩ := h; replace h := sx_sk_e h; obtain ⟨Nv, hv, h⟩ := h; exact sx_aast ht hs hv h.1 h.2
    case arraylength =>
      dsimp only [sx_wpi] at h
      replace h := sx_r1_e h; obtain ⟨a, r, e9, h⟩ := h; subst e9
      cases ha : Nat.beq a 1000000000 with
      | true => rw [ha, cond_true] at h; have e0 : a = 1000000000 := Nat.eq_of_beq_eq_true ha; subst e0; exact sx_alX ht h
      | false => rw [ha, cond_false] at h; replace h := sx_sk_e h; obtain ⟨N, hs, h⟩ := h; exact sx_alen ht hs h
    case invokevirtual _ =>
      dsimp only [sx_wpi] at h
      cases hb : (Nat.beq y (sx_na x) && (Nat.beq (sx_kd x) 1 && (Nat.ble (x + 1) 9996 && Nat.ble (sx_oc x + 1) 13))) with
      | false => rw [hb] at h; exact h.elim
      | true =>
        rw [hb, cond_true] at h
        simp only [Bool.and_eq_true] at hb
        replace h := sx_r1_e h; obtain ⟨a, r, hdr, h⟩ := h
        replace h := sx_sk_e h; obtain ⟨N, hs, h⟩ := h
        cases hc : Nat.ble (sx_cat r) 8 with
        | false => rw [hc] at h; exact h.elim
        | true =>
          rw [hc, cond_true] at h
          obtain ⟨d', kc', ks', Q', h1, h2, h3, hS, k⟩ := h
          have hst : st = ((st.take y).reverse).reverse ++ .ref a :: r := by rw [List.reverse_reverse, ← hdr]; exact (List.take_append_drop y st).symm
          have hlen : y ≤ st.length := by
            have := congrArg List.length hdr
            rw [List.length_drop, List.length_cons] at this
            omega
          rw [hst]
          exact sx_callV ht (Nat.eq_of_beq_eq_true hb.2.1) (Nat.le_of_ble_eq_true hb.2.2.1) (by rw [List.length_reverse, List.length_take, Nat.min_eq_left hlen]; exact Nat.eq_of_beq_eq_true hb.1) (Nat.le_of_ble_eq_true hb.2.2.2) hs (by rw [sx_cat_eq]; exact Nat.le_of_ble_eq_true hc) h1 h2 h3 hS k
    case invokespecial _ =>
      dsimp only [sx_wpi] at h
      cases hx9 : Nat.beq x 9999 with
      | true =>
        rw [hx9, cond_true] at h
        replace h := sx_r1_e h; obtain ⟨a, r, e9, h⟩ := h; subst e9
        cases hc : (Nat.ble (sx_cat r) 8 && Nat.ble 1 d) with
        | false => rw [hc] at h; exact h.elim
        | true =>
          rw [hc, cond_true] at h
          simp only [Bool.and_eq_true] at hc
          have e0 : x = 9999 := Nat.eq_of_beq_eq_true hx9
          subst e0
          exact sx_objI ht (Nat.le_of_ble_eq_true hc.2) (by rw [sx_cat_eq]; exact Nat.le_of_ble_eq_true hc.1) h
      | false =>
        rw [hx9, cond_false] at h
        cases hb : (Nat.beq y (sx_na x) && (Nat.beq (sx_kd x) 2 && Nat.ble (x + 1) 9996)) with
        | false => rw [hb] at h; exact h.elim
        | true =>
          rw [hb, cond_true] at h
          simp only [Bool.and_eq_true] at hb
          replace h := sx_r1_e h; obtain ⟨a, r, hdr, h⟩ := h
          replace h := sx_sk_e h; obtain ⟨N, hs, h⟩ := h
          cases hc : Nat.ble (sx_cat r) 8 with
          | false => rw [hc] at h; exact h.elim
          | true =>
            rw [hc, cond_true] at h
            obtain ⟨d', kc', ks', Q', h1, h2, h3, hS, k⟩ := h
            have hst : st = ((st.take y).reverse).reverse ++ .ref a :: r := by rw [List.reverse_reverse, ← hdr]; exact (List.take_append_drop y st).symm
            have hlen : y ≤ st.length := by
              have := congrArg List.length hdr
              rw [List.length_drop, List.length_cons] at this
              omega
            rw [hst]
            exact sx_callI ht (Nat.eq_of_beq_eq_true hb.2.1) (Nat.le_of_ble_eq_true hb.2.2) (by rw [List.length_reverse, List.length_take, Nat.min_eq_left hlen]; exact Nat.eq_of_beq_eq_true hb.1) hs (by rw [sx_cat_eq]; exact Nat.le_of_ble_eq_true hc) h1 h2 h3 hS k
    case invokestatic _ =>
      dsimp only [sx_wpi] at h
      cases hx6 : Nat.beq x 9996 with
      | true =>
        rw [hx6, cond_true] at h
        replace h := sx_i2_e h; obtain ⟨a, b, r, e9, h⟩ := h; subst e9
        cases hc : (Nat.ble (sx_cat r) 8 && Nat.ble 1 d) with
        | false => rw [hc] at h; exact h.elim
        | true =>
          rw [hc, cond_true] at h
          simp only [Bool.and_eq_true] at hc
          have e0 : x = 9996 := Nat.eq_of_beq_eq_true hx6
          subst e0
          exact sx_mmax ht (Nat.le_of_ble_eq_true hc.2) (by rw [sx_cat_eq]; exact Nat.le_of_ble_eq_true hc.1) h
      | false =>
      rw [hx6, cond_false] at h
      cases hx7 : Nat.beq x 9997 with
      | true =>
        rw [hx7, cond_true] at h
        replace h := sx_i2_e h; obtain ⟨a, b, r, e9, h⟩ := h; subst e9
        cases hc : (Nat.ble (sx_cat r) 8 && Nat.ble 1 d) with
        | false => rw [hc] at h; exact h.elim
        | true =>
          rw [hc, cond_true] at h
          simp only [Bool.and_eq_true] at hc
          have e0 : x = 9997 := Nat.eq_of_beq_eq_true hx7
          subst e0
          exact sx_mmin ht (Nat.le_of_ble_eq_true hc.2) (by rw [sx_cat_eq]; exact Nat.le_of_ble_eq_true hc.1) h
      | false =>
      rw [hx7, cond_false] at h
      cases hx9 : Nat.beq x 9998 with
      | true =>
        rw [hx9, cond_true] at h
        replace h := sx_c5_e h; obtain ⟨w, dp, a, sp, a0, r, e9, h⟩ := h; subst e9
        replace h := sx_sk_e h; obtain ⟨N0, hs0, h⟩ := h
        replace h := sx_sk_e h; obtain ⟨N, hs, h⟩ := h
        cases hc : (Nat.ble (sx_cat r) 8 && Nat.ble 1 d) with
        | false => rw [hc] at h; exact h.elim
        | true =>
          rw [hc, cond_true] at h
          simp only [Bool.and_eq_true] at hc
          have e0 : x = 9998 := Nat.eq_of_beq_eq_true hx9
          subst e0
          obtain ⟨⟨g1, g2, g3, g4, g5⟩, h⟩ := h
          exact sx_copy ht (Nat.le_of_ble_eq_true hc.2) hs0 hs g1 g2 g3 g4 g5 (by rw [sx_cat_eq]; exact Nat.le_of_ble_eq_true hc.1) h
      | false =>
        rw [hx9, cond_false] at h
        cases hb : (Nat.beq y (sx_na x) && (Nat.beq (sx_kd x) 0 && (Nat.ble (x + 1) 9996 && (Nat.ble y st.length && Nat.ble (sx_cat (st.drop y)) 8)))) with
        | false => rw [hb] at h; exact h.elim
        | true =>
          rw [hb, cond_true] at h
          simp only [Bool.and_eq_true] at hb
          obtain ⟨d', kc', ks', Q', h1, h2, h3, hS, k⟩ := h
          have hst : st = ((st.take y).reverse).reverse ++ st.drop y := by rw [List.reverse_reverse]; exact (List.take_append_drop y st).symm
          have hlen : y ≤ st.length := Nat.le_of_ble_eq_true hb.2.2.2.1
          have hg := sx_callS (as := (st.take y).reverse) (rest := st.drop y) ht (Nat.eq_of_beq_eq_true hb.2.1) (Nat.le_of_ble_eq_true hb.2.2.1) (by rw [List.length_reverse, List.length_take, Nat.min_eq_left hlen]; exact Nat.eq_of_beq_eq_true hb.1) (by rw [sx_cat_eq]; exact Nat.le_of_ble_eq_true hb.2.2.2.2) h1 h2 h3 hS k
          rw [← hst] at hg
          exact hg
    case newarray ty =>
      dsimp only [sx_wpi] at h
      cases hb : (decide (ty = .int) && Nat.ble (m.1 + 1) 100000) with
      | false => rw [hb] at h; exact h.elim
      | true =>
        rw [hb, cond_true] at h
        simp only [Bool.and_eq_true, decide_eq_true_eq] at hb
        replace h := sx_i1_e h; obtain ⟨w, r, e9, kc1, e8, g1, g2, g3, h⟩ := h; subst e9; subst e8
        obtain ⟨rfl, hb⟩ := hb
        exact sx_newI ht g1 rfl g2 (Nat.le_of_ble_eq_true hb) g3 h
    case anewarray _ =>
      dsimp only [sx_wpi] at h
      cases hb : Nat.ble (m.1 + 1) 100000 with
      | false => rw [hb] at h; exact h.elim
      | true =>
        rw [hb, cond_true] at h
        replace h := sx_i1_e h; obtain ⟨w, r, e9, kc1, e8, g1, g2, g3, h⟩ := h; subst e9; subst e8
        exact sx_newR ht g1 rfl g2 (Nat.le_of_ble_eq_true hb) g3 h
    case new _ =>
      dsimp only [sx_wpi] at h
      cases hb : (Nat.ble (m.1 + 1) 100000 && Nat.ble (sx_N x) ks) with
      | false => rw [hb] at h; exact h.elim
      | true =>
        rw [hb, cond_true] at h
        simp only [Bool.and_eq_true] at hb
        obtain ⟨kc1, rfl, h⟩ := h
        exact sx_new ht (Nat.le_of_ble_eq_true hb.1) (Nat.le_of_ble_eq_true hb.2) h
    case ireturn =>
      dsimp only [sx_wpi] at h
      split at h
      · split at h
        · exact sx_iret ht (Or.inl (by assumption)) h
        · exact sx_iret ht (Or.inr ⟨by assumption, h.1⟩) h.2
        · exact h.elim
      · exact h.elim
    case lreturn =>
      dsimp only [sx_wpi] at h
      split at h
      · split at h
        · exact sx_lret ht (by assumption) h
        · exact h.elim
      · exact h.elim
    case return_ =>
      dsimp only [sx_wpi] at h
      split at h
      · split at h
        · exact sx_vret ht (by assumption) h
        · exact h.elim
      · exact h.elim
    all_goals exact h.elim
  · exact h.elim
