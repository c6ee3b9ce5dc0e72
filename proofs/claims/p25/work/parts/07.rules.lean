-- RULES: an instruction each, over the small machine
section
variable {E : sx_E} {d kc ks j pc n x y : Nat} {z : Int32} {ls : List (Option Value)} {st : List Value} {m : sx_M} {Q : Option Value → sx_M → Prop}
theorem sx_iconst {q : Int} (ht : sx_tab j pc = some (.iconst q, n, x, y, z)) (k : sx_W E d kc ks j (pc + 1) ls (.int z :: st) m Q) : sx_W E d kc ks j pc ls (st) m Q := by
  intro p e s mi args below meth c H locs cells slots KC KS A hx hb hml hr hlk hin hown hts hok hK hR hlo hfr hcl hsl
  obtain ⟨h1, h2⟩ := hok _ _ ht
  simp only [sx_okE, Bool.and_eq_true, decide_eq_true_eq] at h1
  have hn : n = 1 := Nat.eq_of_beq_eq_true h1.1
  subst hn
  exact lv_iconst hx hb h2 h1.2 (k p e s mi args below meth c H locs cells slots KC KS A hx hb hml hr hlk hin hown hts hok hK hR hlo hfr hcl hsl)
theorem sx_bipush {q : Int} (ht : sx_tab j pc = some (.bipush q, n, x, y, z)) (k : sx_W E d kc ks j (pc + 2) ls (.int z :: st) m Q) : sx_W E d kc ks j pc ls (st) m Q := by
  intro p e s mi args below meth c H locs cells slots KC KS A hx hb hml hr hlk hin hown hts hok hK hR hlo hfr hcl hsl
  obtain ⟨h1, h2⟩ := hok _ _ ht
  simp only [sx_okE, Bool.and_eq_true, decide_eq_true_eq] at h1
  have hn : n = 2 := Nat.eq_of_beq_eq_true h1.1
  subst hn
  exact lv_bipush hx hb h2 h1.2 (k p e s mi args below meth c H locs cells slots KC KS A hx hb hml hr hlk hin hown hts hok hK hR hlo hfr hcl hsl)
theorem sx_sipush {q : Int} (ht : sx_tab j pc = some (.sipush q, n, x, y, z)) (k : sx_W E d kc ks j (pc + 3) ls (.int z :: st) m Q) : sx_W E d kc ks j pc ls (st) m Q := by
  intro p e s mi args below meth c H locs cells slots KC KS A hx hb hml hr hlk hin hown hts hok hK hR hlo hfr hcl hsl
  obtain ⟨h1, h2⟩ := hok _ _ ht
  simp only [sx_okE, Bool.and_eq_true, decide_eq_true_eq] at h1
  have hn : n = 3 := Nat.eq_of_beq_eq_true h1.1
  subst hn
  exact lv_sipush hx hb h2 h1.2 (k p e s mi args below meth c H locs cells slots KC KS A hx hb hml hr hlk hin hown hts hok hK hR hlo hfr hcl hsl)
theorem sx_iadd {a b : Int32} (ht : sx_tab j pc = some (.iadd, n, x, y, z)) (k : sx_W E d kc ks j (pc + 1) ls (.int (a + b) :: st) m Q) : sx_W E d kc ks j pc ls (.int b :: .int a :: st) m Q := by
  intro p e s mi args below meth c H locs cells slots KC KS A hx hb hml hr hlk hin hown hts hok hK hR hlo hfr hcl hsl
  obtain ⟨h1, h2⟩ := hok _ _ ht
  have hn : n = 1 := Nat.eq_of_beq_eq_true h1
  subst hn
  exact lv_iadd hx hb h2 (k p e s mi args below meth c H locs cells slots KC KS A hx hb hml hr hlk hin hown hts hok hK hR hlo hfr hcl hsl)
theorem sx_isub {a b : Int32} (ht : sx_tab j pc = some (.isub, n, x, y, z)) (k : sx_W E d kc ks j (pc + 1) ls (.int (a - b) :: st) m Q) : sx_W E d kc ks j pc ls (.int b :: .int a :: st) m Q := by
  intro p e s mi args below meth c H locs cells slots KC KS A hx hb hml hr hlk hin hown hts hok hK hR hlo hfr hcl hsl
  obtain ⟨h1, h2⟩ := hok _ _ ht
  have hn : n = 1 := Nat.eq_of_beq_eq_true h1
  subst hn
  exact lv_isub hx hb h2 (k p e s mi args below meth c H locs cells slots KC KS A hx hb hml hr hlk hin hown hts hok hK hR hlo hfr hcl hsl)
theorem sx_imul {a b : Int32} (ht : sx_tab j pc = some (.imul, n, x, y, z)) (k : sx_W E d kc ks j (pc + 1) ls (.int (a * b) :: st) m Q) : sx_W E d kc ks j pc ls (.int b :: .int a :: st) m Q := by
  intro p e s mi args below meth c H locs cells slots KC KS A hx hb hml hr hlk hin hown hts hok hK hR hlo hfr hcl hsl
  obtain ⟨h1, h2⟩ := hok _ _ ht
  have hn : n = 1 := Nat.eq_of_beq_eq_true h1
  subst hn
  exact lv_imul hx hb h2 (k p e s mi args below meth c H locs cells slots KC KS A hx hb hml hr hlk hin hown hts hok hK hR hlo hfr hcl hsl)
theorem sx_iand {a b : Int32} (ht : sx_tab j pc = some (.iand, n, x, y, z)) (k : sx_W E d kc ks j (pc + 1) ls (.int (a &&& b) :: st) m Q) : sx_W E d kc ks j pc ls (.int b :: .int a :: st) m Q := by
  intro p e s mi args below meth c H locs cells slots KC KS A hx hb hml hr hlk hin hown hts hok hK hR hlo hfr hcl hsl
  obtain ⟨h1, h2⟩ := hok _ _ ht
  have hn : n = 1 := Nat.eq_of_beq_eq_true h1
  subst hn
  exact lv_iand hx hb h2 (k p e s mi args below meth c H locs cells slots KC KS A hx hb hml hr hlk hin hown hts hok hK hR hlo hfr hcl hsl)
theorem sx_ior {a b : Int32} (ht : sx_tab j pc = some (.ior, n, x, y, z)) (k : sx_W E d kc ks j (pc + 1) ls (.int (a ||| b) :: st) m Q) : sx_W E d kc ks j pc ls (.int b :: .int a :: st) m Q := by
  intro p e s mi args below meth c H locs cells slots KC KS A hx hb hml hr hlk hin hown hts hok hK hR hlo hfr hcl hsl
  obtain ⟨h1, h2⟩ := hok _ _ ht
  have hn : n = 1 := Nat.eq_of_beq_eq_true h1
  subst hn
  exact lv_ior hx hb h2 (k p e s mi args below meth c H locs cells slots KC KS A hx hb hml hr hlk hin hown hts hok hK hR hlo hfr hcl hsl)
theorem sx_ixor {a b : Int32} (ht : sx_tab j pc = some (.ixor, n, x, y, z)) (k : sx_W E d kc ks j (pc + 1) ls (.int (a ^^^ b) :: st) m Q) : sx_W E d kc ks j pc ls (.int b :: .int a :: st) m Q := by
  intro p e s mi args below meth c H locs cells slots KC KS A hx hb hml hr hlk hin hown hts hok hK hR hlo hfr hcl hsl
  obtain ⟨h1, h2⟩ := hok _ _ ht
  have hn : n = 1 := Nat.eq_of_beq_eq_true h1
  subst hn
  exact lv_ixor hx hb h2 (k p e s mi args below meth c H locs cells slots KC KS A hx hb hml hr hlk hin hown hts hok hK hR hlo hfr hcl hsl)
theorem sx_ishl {a b : Int32} (ht : sx_tab j pc = some (.ishl, n, x, y, z)) (k : sx_W E d kc ks j (pc + 1) ls (.int (a <<< (b &&& 31)) :: st) m Q) : sx_W E d kc ks j pc ls (.int b :: .int a :: st) m Q := by
  intro p e s mi args below meth c H locs cells slots KC KS A hx hb hml hr hlk hin hown hts hok hK hR hlo hfr hcl hsl
  obtain ⟨h1, h2⟩ := hok _ _ ht
  have hn : n = 1 := Nat.eq_of_beq_eq_true h1
  subst hn
  exact lv_ishl hx hb h2 (k p e s mi args below meth c H locs cells slots KC KS A hx hb hml hr hlk hin hown hts hok hK hR hlo hfr hcl hsl)
theorem sx_ishr {a b : Int32} (ht : sx_tab j pc = some (.ishr, n, x, y, z)) (k : sx_W E d kc ks j (pc + 1) ls (.int (a >>> (b &&& 31)) :: st) m Q) : sx_W E d kc ks j pc ls (.int b :: .int a :: st) m Q := by
  intro p e s mi args below meth c H locs cells slots KC KS A hx hb hml hr hlk hin hown hts hok hK hR hlo hfr hcl hsl
  obtain ⟨h1, h2⟩ := hok _ _ ht
  have hn : n = 1 := Nat.eq_of_beq_eq_true h1
  subst hn
  exact lv_ishr hx hb h2 (k p e s mi args below meth c H locs cells slots KC KS A hx hb hml hr hlk hin hown hts hok hK hR hlo hfr hcl hsl)
theorem sx_iushr {a b : Int32} (ht : sx_tab j pc = some (.iushr, n, x, y, z)) (k : sx_W E d kc ks j (pc + 1) ls (.int ((a.toUInt32 >>> (b &&& 31).toUInt32).toInt32) :: st) m Q) : sx_W E d kc ks j pc ls (.int b :: .int a :: st) m Q := by
  intro p e s mi args below meth c H locs cells slots KC KS A hx hb hml hr hlk hin hown hts hok hK hR hlo hfr hcl hsl
  obtain ⟨h1, h2⟩ := hok _ _ ht
  have hn : n = 1 := Nat.eq_of_beq_eq_true h1
  subst hn
  exact lv_iushr hx hb h2 rfl (k p e s mi args below meth c H locs cells slots KC KS A hx hb hml hr hlk hin hown hts hok hK hR hlo hfr hcl hsl)
theorem sx_idiv {a b : Int32} (ht : sx_tab j pc = some (.idiv, n, x, y, z)) (hne : ¬ b = 0) (k : sx_W E d kc ks j (pc + 1) ls (.int (a / b) :: st) m Q) : sx_W E d kc ks j pc ls (.int b :: .int a :: st) m Q := by
  intro p e s mi args below meth c H locs cells slots KC KS A hx hb hml hr hlk hin hown hts hok hK hR hlo hfr hcl hsl
  obtain ⟨h1, h2⟩ := hok _ _ ht
  have hn : n = 1 := Nat.eq_of_beq_eq_true h1
  subst hn
  exact lv_idiv hx hb h2 hne (k p e s mi args below meth c H locs cells slots KC KS A hx hb hml hr hlk hin hown hts hok hK hR hlo hfr hcl hsl)
theorem sx_irem {a b : Int32} (ht : sx_tab j pc = some (.irem, n, x, y, z)) (hne : ¬ b = 0) (k : sx_W E d kc ks j (pc + 1) ls (.int (a - a / b * b) :: st) m Q) : sx_W E d kc ks j pc ls (.int b :: .int a :: st) m Q := by
  intro p e s mi args below meth c H locs cells slots KC KS A hx hb hml hr hlk hin hown hts hok hK hR hlo hfr hcl hsl
  obtain ⟨h1, h2⟩ := hok _ _ ht
  have hn : n = 1 := Nat.eq_of_beq_eq_true h1
  subst hn
  exact lv_irem hx hb h2 hne (k p e s mi args below meth c H locs cells slots KC KS A hx hb hml hr hlk hin hown hts hok hK hR hlo hfr hcl hsl)
theorem sx_ladd {a b : Int64} (ht : sx_tab j pc = some (.ladd, n, x, y, z)) (k : sx_W E d kc ks j (pc + 1) ls (.long (a + b) :: st) m Q) : sx_W E d kc ks j pc ls (.long b :: .long a :: st) m Q := by
  intro p e s mi args below meth c H locs cells slots KC KS A hx hb hml hr hlk hin hown hts hok hK hR hlo hfr hcl hsl
  obtain ⟨h1, h2⟩ := hok _ _ ht
  have hn : n = 1 := Nat.eq_of_beq_eq_true h1
  subst hn
  exact lv_ladd hx hb h2 (k p e s mi args below meth c H locs cells slots KC KS A hx hb hml hr hlk hin hown hts hok hK hR hlo hfr hcl hsl)
theorem sx_lsub {a b : Int64} (ht : sx_tab j pc = some (.lsub, n, x, y, z)) (k : sx_W E d kc ks j (pc + 1) ls (.long (a - b) :: st) m Q) : sx_W E d kc ks j pc ls (.long b :: .long a :: st) m Q := by
  intro p e s mi args below meth c H locs cells slots KC KS A hx hb hml hr hlk hin hown hts hok hK hR hlo hfr hcl hsl
  obtain ⟨h1, h2⟩ := hok _ _ ht
  have hn : n = 1 := Nat.eq_of_beq_eq_true h1
  subst hn
  exact lv_lsub hx hb h2 (k p e s mi args below meth c H locs cells slots KC KS A hx hb hml hr hlk hin hown hts hok hK hR hlo hfr hcl hsl)
theorem sx_lmul {a b : Int64} (ht : sx_tab j pc = some (.lmul, n, x, y, z)) (k : sx_W E d kc ks j (pc + 1) ls (.long (a * b) :: st) m Q) : sx_W E d kc ks j pc ls (.long b :: .long a :: st) m Q := by
  intro p e s mi args below meth c H locs cells slots KC KS A hx hb hml hr hlk hin hown hts hok hK hR hlo hfr hcl hsl
  obtain ⟨h1, h2⟩ := hok _ _ ht
  have hn : n = 1 := Nat.eq_of_beq_eq_true h1
  subst hn
  exact lv_lmul hx hb h2 (k p e s mi args below meth c H locs cells slots KC KS A hx hb hml hr hlk hin hown hts hok hK hR hlo hfr hcl hsl)
theorem sx_ldiv {a b : Int64} (ht : sx_tab j pc = some (.ldiv, n, x, y, z)) (hne : ¬ b = 0) (k : sx_W E d kc ks j (pc + 1) ls (.long (a / b) :: st) m Q) : sx_W E d kc ks j pc ls (.long b :: .long a :: st) m Q := by
  intro p e s mi args below meth c H locs cells slots KC KS A hx hb hml hr hlk hin hown hts hok hK hR hlo hfr hcl hsl
  obtain ⟨h1, h2⟩ := hok _ _ ht
  have hn : n = 1 := Nat.eq_of_beq_eq_true h1
  subst hn
  exact lv_ldiv hx hb h2 hne (k p e s mi args below meth c H locs cells slots KC KS A hx hb hml hr hlk hin hown hts hok hK hR hlo hfr hcl hsl)
theorem sx_lcmp {a b : Int64} (ht : sx_tab j pc = some (.lcmp, n, x, y, z)) (k : sx_W E d kc ks j (pc + 1) ls (.int (lg_cmp a b) :: st) m Q) : sx_W E d kc ks j pc ls (.long b :: .long a :: st) m Q := by
  intro p e s mi args below meth c H locs cells slots KC KS A hx hb hml hr hlk hin hown hts hok hK hR hlo hfr hcl hsl
  obtain ⟨h1, h2⟩ := hok _ _ ht
  have hn : n = 1 := Nat.eq_of_beq_eq_true h1
  subst hn
  exact W.lcmp hx hb h2 (k p e s mi args below meth c H locs cells slots KC KS A hx hb hml hr hlk hin hown hts hok hK hR hlo hfr hcl hsl)
theorem sx_i2l {a : Int32} (ht : sx_tab j pc = some (.i2l, n, x, y, z)) (k : sx_W E d kc ks j (pc + 1) ls (.long a.toInt64 :: st) m Q) : sx_W E d kc ks j pc ls (.int a :: st) m Q := by
  intro p e s mi args below meth c H locs cells slots KC KS A hx hb hml hr hlk hin hown hts hok hK hR hlo hfr hcl hsl
  obtain ⟨h1, h2⟩ := hok _ _ ht
  have hn : n = 1 := Nat.eq_of_beq_eq_true h1
  subst hn
  exact lv_i2l hx hb h2 rfl (k p e s mi args below meth c H locs cells slots KC KS A hx hb hml hr hlk hin hown hts hok hK hR hlo hfr hcl hsl)
theorem sx_l2i {a : Int64} (ht : sx_tab j pc = some (.l2i, n, x, y, z)) (k : sx_W E d kc ks j (pc + 1) ls (.int a.toInt32 :: st) m Q) : sx_W E d kc ks j pc ls (.long a :: st) m Q := by
  intro p e s mi args below meth c H locs cells slots KC KS A hx hb hml hr hlk hin hown hts hok hK hR hlo hfr hcl hsl
  obtain ⟨h1, h2⟩ := hok _ _ ht
  have hn : n = 1 := Nat.eq_of_beq_eq_true h1
  subst hn
  exact lv_l2i hx hb h2 rfl (k p e s mi args below meth c H locs cells slots KC KS A hx hb hml hr hlk hin hown hts hok hK hR hlo hfr hcl hsl)
theorem sx_lconst {w : Fin 2} (ht : sx_tab j pc = some (.lconst w, n, x, y, z)) (k : sx_W E d kc ks j (pc + 1) ls (.long (Int64.ofNat (w : Nat)) :: st) m Q) : sx_W E d kc ks j pc ls (st) m Q := by
  intro p e s mi args below meth c H locs cells slots KC KS A hx hb hml hr hlk hin hown hts hok hK hR hlo hfr hcl hsl
  obtain ⟨h1, h2⟩ := hok _ _ ht
  have hn : n = 1 := Nat.eq_of_beq_eq_true h1
  subst hn
  exact lv_lconst hx hb h2 rfl (k p e s mi args below meth c H locs cells slots KC KS A hx hb hml hr hlk hin hown hts hok hK hR hlo hfr hcl hsl)
theorem sx_dup {v : Value} (ht : sx_tab j pc = some (.dup, n, x, y, z)) (hc : v.category = 1) (k : sx_W E d kc ks j (pc + 1) ls (v :: v :: st) m Q) : sx_W E d kc ks j pc ls (v :: st) m Q := by
  intro p e s mi args below meth c H locs cells slots KC KS A hx hb hml hr hlk hin hown hts hok hK hR hlo hfr hcl hsl
  obtain ⟨h1, h2⟩ := hok _ _ ht
  have hn : n = 1 := Nat.eq_of_beq_eq_true h1
  subst hn
  exact lv_dup hx hb h2 (by rw [sx_v_cat]; exact hc) (k p e s mi args below meth c H locs cells slots KC KS A hx hb hml hr hlk hin hown hts hok hK hR hlo hfr hcl hsl)
theorem sx_dup2 {v w : Value} (ht : sx_tab j pc = some (.dup2, n, x, y, z)) (hc : v.category = 1) (hc2 : w.category = 1) (k : sx_W E d kc ks j (pc + 1) ls (v :: w :: v :: w :: st) m Q) : sx_W E d kc ks j pc ls (v :: w :: st) m Q := by
  intro p e s mi args below meth c H locs cells slots KC KS A hx hb hml hr hlk hin hown hts hok hK hR hlo hfr hcl hsl
  obtain ⟨h1, h2⟩ := hok _ _ ht
  have hn : n = 1 := Nat.eq_of_beq_eq_true h1
  subst hn
  exact lv_dup2_11 hx hb h2 (by rw [sx_v_cat]; exact hc) (by rw [sx_v_cat]; exact hc2) (k p e s mi args below meth c H locs cells slots KC KS A hx hb hml hr hlk hin hown hts hok hK hR hlo hfr hcl hsl)
theorem sx_pop {v : Value} (ht : sx_tab j pc = some (.pop, n, x, y, z)) (hc : v.category = 1) (k : sx_W E d kc ks j (pc + 1) ls (st) m Q) : sx_W E d kc ks j pc ls (v :: st) m Q := by
  intro p e s mi args below meth c H locs cells slots KC KS A hx hb hml hr hlk hin hown hts hok hK hR hlo hfr hcl hsl
  obtain ⟨h1, h2⟩ := hok _ _ ht
  have hn : n = 1 := Nat.eq_of_beq_eq_true h1
  subst hn
  exact lv_pop hx hb h2 (by rw [sx_v_cat]; exact hc) (k p e s mi args below meth c H locs cells slots KC KS A hx hb hml hr hlk hin hown hts hok hK hR hlo hfr hcl hsl)
theorem sx_iload_n {w : Fin 4} {v : Int32} (ht : sx_tab j pc = some (.iload_n w, n, x, y, z)) (hv : sx_nth ls w.val = some (.int v)) (k : sx_W E d kc ks j (pc + 1) ls (.int v :: st) m Q) : sx_W E d kc ks j pc ls (st) m Q := by
  intro p e s mi args below meth c H locs cells slots KC KS A hx hb hml hr hlk hin hown hts hok hK hR hlo hfr hcl hsl
  obtain ⟨h1, h2⟩ := hok _ _ ht
  have hn : n = 1 := Nat.eq_of_beq_eq_true h1
  subst hn
  exact lv_iload_n hx hb h2 rfl (hlo.2.2.2 _ _ hv) (k p e s mi args below meth c H locs cells slots KC KS A hx hb hml hr hlk hin hown hts hok hK hR hlo hfr hcl hsl)
theorem sx_iload {i : Nat} {v : Int32} (ht : sx_tab j pc = some (.iload i, n, x, y, z)) (hv : sx_nth ls i = some (.int v)) (k : sx_W E d kc ks j (pc + 2) ls (.int v :: st) m Q) : sx_W E d kc ks j pc ls (st) m Q := by
  intro p e s mi args below meth c H locs cells slots KC KS A hx hb hml hr hlk hin hown hts hok hK hR hlo hfr hcl hsl
  obtain ⟨h1, h2⟩ := hok _ _ ht
  have hn : n = 2 := Nat.eq_of_beq_eq_true h1
  subst hn
  exact lv_iload hx hb h2 (hlo.2.2.2 _ _ hv) (k p e s mi args below meth c H locs cells slots KC KS A hx hb hml hr hlk hin hown hts hok hK hR hlo hfr hcl hsl)
theorem sx_lload_n {w : Fin 4} {v : Int64} (ht : sx_tab j pc = some (.lload_n w, n, x, y, z)) (hv : sx_nth ls w.val = some (.long v)) (k : sx_W E d kc ks j (pc + 1) ls (.long v :: st) m Q) : sx_W E d kc ks j pc ls (st) m Q := by
  intro p e s mi args below meth c H locs cells slots KC KS A hx hb hml hr hlk hin hown hts hok hK hR hlo hfr hcl hsl
  obtain ⟨h1, h2⟩ := hok _ _ ht
  have hn : n = 1 := Nat.eq_of_beq_eq_true h1
  subst hn
  exact lv_lload_n hx hb h2 rfl (hlo.2.2.2 _ _ hv) (k p e s mi args below meth c H locs cells slots KC KS A hx hb hml hr hlk hin hown hts hok hK hR hlo hfr hcl hsl)
theorem sx_lload {i : Nat} {v : Int64} (ht : sx_tab j pc = some (.lload i, n, x, y, z)) (hv : sx_nth ls i = some (.long v)) (k : sx_W E d kc ks j (pc + 2) ls (.long v :: st) m Q) : sx_W E d kc ks j pc ls (st) m Q := by
  intro p e s mi args below meth c H locs cells slots KC KS A hx hb hml hr hlk hin hown hts hok hK hR hlo hfr hcl hsl
  obtain ⟨h1, h2⟩ := hok _ _ ht
  have hn : n = 2 := Nat.eq_of_beq_eq_true h1
  subst hn
  exact lv_lload hx hb h2 (hlo.2.2.2 _ _ hv) (k p e s mi args below meth c H locs cells slots KC KS A hx hb hml hr hlk hin hown hts hok hK hR hlo hfr hcl hsl)
theorem sx_aload_n {w : Fin 4} {v : Nat} (ht : sx_tab j pc = some (.aload_n w, n, x, y, z)) (hv : sx_nth ls w.val = some (.ref v)) (k : sx_W E d kc ks j (pc + 1) ls (.ref v :: st) m Q) : sx_W E d kc ks j pc ls (st) m Q := by
  intro p e s mi args below meth c H locs cells slots KC KS A hx hb hml hr hlk hin hown hts hok hK hR hlo hfr hcl hsl
  obtain ⟨h1, h2⟩ := hok _ _ ht
  have hn : n = 1 := Nat.eq_of_beq_eq_true h1
  subst hn
  exact lv_aload_n hx hb h2 rfl (hlo.2.2.2 _ _ hv) (k p e s mi args below meth c H locs cells slots KC KS A hx hb hml hr hlk hin hown hts hok hK hR hlo hfr hcl hsl)
theorem sx_aload {i : Nat} {v : Nat} (ht : sx_tab j pc = some (.aload i, n, x, y, z)) (hv : sx_nth ls i = some (.ref v)) (k : sx_W E d kc ks j (pc + 2) ls (.ref v :: st) m Q) : sx_W E d kc ks j pc ls (st) m Q := by
  intro p e s mi args below meth c H locs cells slots KC KS A hx hb hml hr hlk hin hown hts hok hK hR hlo hfr hcl hsl
  obtain ⟨h1, h2⟩ := hok _ _ ht
  have hn : n = 2 := Nat.eq_of_beq_eq_true h1
  subst hn
  exact lv_aload hx hb h2 (hlo.2.2.2 _ _ hv) (k p e s mi args below meth c H locs cells slots KC KS A hx hb hml hr hlk hin hown hts hok hK hR hlo hfr hcl hsl)
theorem sx_istore_n {w : Fin 4} {v : Int32} (ht : sx_tab j pc = some (.istore_n w, n, x, y, z)) (k : sx_W E d kc ks j (pc + 1) (sx_put ls w.val (some (.int v))) st m Q) : sx_W E d kc ks j pc ls (.int v :: st) m Q := by
  intro p e s mi args below meth c H locs cells slots KC KS A hx hb hml hr hlk hin hown hts hok hK hR hlo hfr hcl hsl
  obtain ⟨h1, h2⟩ := hok _ _ ht
  simp only [sx_okE, Bool.and_eq_true] at h1
  have hn : n = 1 := Nat.eq_of_beq_eq_true h1.1
  subst hn
  refine lv_istore_n hx hb h2 rfl hlo.has (by have := Nat.le_of_ble_eq_true h1.2; omega) rfl (fun A2 h4 => ?_)
  have hl2 := hlo.put1 (v := .int v) h4
  exact k p e s mi args below meth c H locs cells slots KC KS A2 hx hb hml hr hlk hin hown hts hok hK hR hl2 hfr hcl hsl
theorem sx_istore {i : Nat} {v : Int32} (ht : sx_tab j pc = some (.istore i, n, x, y, z)) (k : sx_W E d kc ks j (pc + 2) (sx_put ls i (some (.int v))) st m Q) : sx_W E d kc ks j pc ls (.int v :: st) m Q := by
  intro p e s mi args below meth c H locs cells slots KC KS A hx hb hml hr hlk hin hown hts hok hK hR hlo hfr hcl hsl
  obtain ⟨h1, h2⟩ := hok _ _ ht
  simp only [sx_okE, Bool.and_eq_true] at h1
  have hn : n = 2 := Nat.eq_of_beq_eq_true h1.1
  subst hn
  refine lv_istore hx hb h2 hlo.has (by have := Nat.le_of_ble_eq_true h1.2; omega) rfl (fun A2 h4 => ?_)
  have hl2 := hlo.put1 (v := .int v) h4
  exact k p e s mi args below meth c H locs cells slots KC KS A2 hx hb hml hr hlk hin hown hts hok hK hR hl2 hfr hcl hsl
theorem sx_lstore_n {w : Fin 4} {v : Int64} (ht : sx_tab j pc = some (.lstore_n w, n, x, y, z)) (k : sx_W E d kc ks j (pc + 1) (sx_put (sx_put ls (w.val + 1) none) w.val (some (.long v))) st m Q) : sx_W E d kc ks j pc ls (.long v :: st) m Q := by
  intro p e s mi args below meth c H locs cells slots KC KS A hx hb hml hr hlk hin hown hts hok hK hR hlo hfr hcl hsl
  obtain ⟨h1, h2⟩ := hok _ _ ht
  simp only [sx_okE, Bool.and_eq_true] at h1
  have hn : n = 1 := Nat.eq_of_beq_eq_true h1.1
  subst hn
  refine lv_lstore_n hx hb h2 rfl hlo.has (by have := Nat.le_of_ble_eq_true h1.2; omega) rfl (fun A2 h4 => ?_)
  have hl2 := hlo.put2 (v := .long v) h4
  exact k p e s mi args below meth c H locs cells slots KC KS A2 hx hb hml hr hlk hin hown hts hok hK hR hl2 hfr hcl hsl
theorem sx_lstore {i : Nat} {v : Int64} (ht : sx_tab j pc = some (.lstore i, n, x, y, z)) (k : sx_W E d kc ks j (pc + 2) (sx_put (sx_put ls (i + 1) none) i (some (.long v))) st m Q) : sx_W E d kc ks j pc ls (.long v :: st) m Q := by
  intro p e s mi args below meth c H locs cells slots KC KS A hx hb hml hr hlk hin hown hts hok hK hR hlo hfr hcl hsl
  obtain ⟨h1, h2⟩ := hok _ _ ht
  simp only [sx_okE, Bool.and_eq_true] at h1
  have hn : n = 2 := Nat.eq_of_beq_eq_true h1.1
  subst hn
  refine lv_lstore hx hb h2 hlo.has (by have := Nat.le_of_ble_eq_true h1.2; omega) rfl (fun A2 h4 => ?_)
  have hl2 := hlo.put2 (v := .long v) h4
  exact k p e s mi args below meth c H locs cells slots KC KS A2 hx hb hml hr hlk hin hown hts hok hK hR hl2 hfr hcl hsl
theorem sx_astore_n {w : Fin 4} {v : Nat} (ht : sx_tab j pc = some (.astore_n w, n, x, y, z)) (k : sx_W E d kc ks j (pc + 1) (sx_put ls w.val (some (.ref v))) st m Q) : sx_W E d kc ks j pc ls (.ref v :: st) m Q := by
  intro p e s mi args below meth c H locs cells slots KC KS A hx hb hml hr hlk hin hown hts hok hK hR hlo hfr hcl hsl
  obtain ⟨h1, h2⟩ := hok _ _ ht
  simp only [sx_okE, Bool.and_eq_true] at h1
  have hn : n = 1 := Nat.eq_of_beq_eq_true h1.1
  subst hn
  refine lv_astore_n hx hb h2 rfl hlo.has (by have := Nat.le_of_ble_eq_true h1.2; omega) rfl (fun A2 h4 => ?_)
  have hl2 := hlo.put1 (v := .ref v) h4
  exact k p e s mi args below meth c H locs cells slots KC KS A2 hx hb hml hr hlk hin hown hts hok hK hR hl2 hfr hcl hsl
theorem sx_astore {i : Nat} {v : Nat} (ht : sx_tab j pc = some (.astore i, n, x, y, z)) (k : sx_W E d kc ks j (pc + 2) (sx_put ls i (some (.ref v))) st m Q) : sx_W E d kc ks j pc ls (.ref v :: st) m Q := by
  intro p e s mi args below meth c H locs cells slots KC KS A hx hb hml hr hlk hin hown hts hok hK hR hlo hfr hcl hsl
  obtain ⟨h1, h2⟩ := hok _ _ ht
  simp only [sx_okE, Bool.and_eq_true] at h1
  have hn : n = 2 := Nat.eq_of_beq_eq_true h1.1
  subst hn
  refine lv_astore hx hb h2 hlo.has (by have := Nat.le_of_ble_eq_true h1.2; omega) rfl (fun A2 h4 => ?_)
  have hl2 := hlo.put1 (v := .ref v) h4
  exact k p e s mi args below meth c H locs cells slots KC KS A2 hx hb hml hr hlk hin hown hts hok hK hR hl2 hfr hcl hsl
theorem sx_iinc {i : Nat} {q : Int} {v : Int32} (ht : sx_tab j pc = some (.iinc i q, n, x, y, z)) (hv : sx_nth ls i = some (.int v)) (k : sx_W E d kc ks j (pc + 3) (sx_put ls i (some (.int (v + z)))) st m Q) : sx_W E d kc ks j pc ls st m Q := by
  intro p e s mi args below meth c H locs cells slots KC KS A hx hb hml hr hlk hin hown hts hok hK hR hlo hfr hcl hsl
  obtain ⟨h1, h2⟩ := hok _ _ ht
  simp only [sx_okE, Bool.and_eq_true, decide_eq_true_eq] at h1
  have hn : n = 3 := Nat.eq_of_beq_eq_true h1.1
  subst hn
  have h5 := sx_prs_in E ls 0 i _ hv
  rw [Nat.zero_add] at h5
  obtain ⟨kk, hkk⟩ := List.getElem?_of_mem h5
  refine lv_iinc hx hb h2 hlo.has hkk (by rw [h1.2.2]) (by have := Nat.le_of_ble_eq_true h1.2.1; omega) rfl (fun A2 h4 => ?_)
  have hl2 := hlo.put1 (v := .int (v + z)) h4
  exact k p e s mi args below meth c H locs cells slots KC KS A2 hx hb hml hr hlk hin hown hts hok hK hR hl2 hfr hcl hsl
noncomputable def sx_br1 (c : Jvm.ClassFile.Cond) (v : Int32) (T F : Prop) : Prop := match c with
  | .eq => (v = 0 → T) ∧ (¬ v = 0 → F)
  | .ne => (¬ v = 0 → T) ∧ (v = 0 → F)
  | .lt => (v < 0 → T) ∧ (¬ v < 0 → F)
  | .ge => (0 ≤ v → T) ∧ (¬ 0 ≤ v → F)
  | .gt => (0 < v → T) ∧ (¬ 0 < v → F)
  | .le => (v ≤ 0 → T) ∧ (¬ v ≤ 0 → F)
noncomputable def sx_br2 (c : Jvm.ClassFile.Cond) (a b : Int32) (T F : Prop) : Prop := match c with
  | .eq => (a = b → T) ∧ (¬ a = b → F)
  | .ne => (¬ a = b → T) ∧ (a = b → F)
  | .lt => (a < b → T) ∧ (¬ a < b → F)
  | .ge => (b ≤ a → T) ∧ (¬ b ≤ a → F)
  | .gt => (b < a → T) ∧ (¬ b < a → F)
  | .le => (a ≤ b → T) ∧ (¬ a ≤ b → F)
theorem sx_if {cd : Jvm.ClassFile.Cond} {off : Int} {v : Int32} (ht : sx_tab j pc = some (.ifCond cd off, n, x, y, z)) (k : sx_br1 cd v (sx_W E d kc ks j x ls st m Q) (sx_W E d kc ks j (pc + 3) ls st m Q)) : sx_W E d kc ks j pc ls (.int v :: st) m Q := by
  intro p e s mi args below meth c H locs cells slots KC KS A hx hb hml hr hlk hin hown hts hok hK hR hlo hfr hcl hsl
  obtain ⟨h1, h2⟩ := hok _ _ ht
  simp only [sx_okE, Bool.and_eq_true, decide_eq_true_eq] at h1
  have hn : n = 3 := Nat.eq_of_beq_eq_true h1.1
  subst hn
  cases cd
  · exact lv_if_eq hx hb h2 h1.2 (fun hc => k.1 hc p e s mi args below meth c H locs cells slots KC KS A hx hb hml hr hlk hin hown hts hok hK hR hlo hfr hcl hsl) (fun hc => k.2 hc p e s mi args below meth c H locs cells slots KC KS A hx hb hml hr hlk hin hown hts hok hK hR hlo hfr hcl hsl)
  · exact lv_if_ne hx hb h2 h1.2 (fun hc => k.1 hc p e s mi args below meth c H locs cells slots KC KS A hx hb hml hr hlk hin hown hts hok hK hR hlo hfr hcl hsl) (fun hc => k.2 hc p e s mi args below meth c H locs cells slots KC KS A hx hb hml hr hlk hin hown hts hok hK hR hlo hfr hcl hsl)
  · exact lv_if_lt hx hb h2 h1.2 (fun hc => k.1 hc p e s mi args below meth c H locs cells slots KC KS A hx hb hml hr hlk hin hown hts hok hK hR hlo hfr hcl hsl) (fun hc => k.2 hc p e s mi args below meth c H locs cells slots KC KS A hx hb hml hr hlk hin hown hts hok hK hR hlo hfr hcl hsl)
  · exact lv_if_ge hx hb h2 h1.2 (fun hc => k.1 hc p e s mi args below meth c H locs cells slots KC KS A hx hb hml hr hlk hin hown hts hok hK hR hlo hfr hcl hsl) (fun hc => k.2 hc p e s mi args below meth c H locs cells slots KC KS A hx hb hml hr hlk hin hown hts hok hK hR hlo hfr hcl hsl)
  · exact lv_if_gt hx hb h2 h1.2 (fun hc => k.1 hc p e s mi args below meth c H locs cells slots KC KS A hx hb hml hr hlk hin hown hts hok hK hR hlo hfr hcl hsl) (fun hc => k.2 hc p e s mi args below meth c H locs cells slots KC KS A hx hb hml hr hlk hin hown hts hok hK hR hlo hfr hcl hsl)
  · exact lv_if_le hx hb h2 h1.2 (fun hc => k.1 hc p e s mi args below meth c H locs cells slots KC KS A hx hb hml hr hlk hin hown hts hok hK hR hlo hfr hcl hsl) (fun hc => k.2 hc p e s mi args below meth c H locs cells slots KC KS A hx hb hml hr hlk hin hown hts hok hK hR hlo hfr hcl hsl)
theorem sx_icmp {cd : Jvm.ClassFile.Cond} {off : Int} {a b : Int32} (ht : sx_tab j pc = some (.if_icmp cd off, n, x, y, z)) (k : sx_br2 cd a b (sx_W E d kc ks j x ls st m Q) (sx_W E d kc ks j (pc + 3) ls st m Q)) : sx_W E d kc ks j pc ls (.int b :: .int a :: st) m Q := by
  intro p e s mi args below meth c H locs cells slots KC KS A hx hb hml hr hlk hin hown hts hok hK hR hlo hfr hcl hsl
  obtain ⟨h1, h2⟩ := hok _ _ ht
  simp only [sx_okE, Bool.and_eq_true, decide_eq_true_eq] at h1
  have hn : n = 3 := Nat.eq_of_beq_eq_true h1.1
  subst hn
  cases cd
  · exact lv_icmp_eq hx hb h2 h1.2 (fun hc => k.1 hc p e s mi args below meth c H locs cells slots KC KS A hx hb hml hr hlk hin hown hts hok hK hR hlo hfr hcl hsl) (fun hc => k.2 hc p e s mi args below meth c H locs cells slots KC KS A hx hb hml hr hlk hin hown hts hok hK hR hlo hfr hcl hsl)
  · exact lv_icmp_ne hx hb h2 h1.2 (fun hc => k.1 hc p e s mi args below meth c H locs cells slots KC KS A hx hb hml hr hlk hin hown hts hok hK hR hlo hfr hcl hsl) (fun hc => k.2 hc p e s mi args below meth c H locs cells slots KC KS A hx hb hml hr hlk hin hown hts hok hK hR hlo hfr hcl hsl)
  · exact lv_icmp_lt hx hb h2 h1.2 (fun hc => k.1 hc p e s mi args below meth c H locs cells slots KC KS A hx hb hml hr hlk hin hown hts hok hK hR hlo hfr hcl hsl) (fun hc => k.2 hc p e s mi args below meth c H locs cells slots KC KS A hx hb hml hr hlk hin hown hts hok hK hR hlo hfr hcl hsl)
  · exact lv_icmp_ge hx hb h2 h1.2 (fun hc => k.1 hc p e s mi args below meth c H locs cells slots KC KS A hx hb hml hr hlk hin hown hts hok hK hR hlo hfr hcl hsl) (fun hc => k.2 hc p e s mi args below meth c H locs cells slots KC KS A hx hb hml hr hlk hin hown hts hok hK hR hlo hfr hcl hsl)
  · exact lv_icmp_gt hx hb h2 h1.2 (fun hc => k.1 hc p e s mi args below meth c H locs cells slots KC KS A hx hb hml hr hlk hin hown hts hok hK hR hlo hfr hcl hsl) (fun hc => k.2 hc p e s mi args below meth c H locs cells slots KC KS A hx hb hml hr hlk hin hown hts hok hK hR hlo hfr hcl hsl)
  · exact lv_icmp_le hx hb h2 h1.2 (fun hc => k.1 hc p e s mi args below meth c H locs cells slots KC KS A hx hb hml hr hlk hin hown hts hok hK hR hlo hfr hcl hsl) (fun hc => k.2 hc p e s mi args below meth c H locs cells slots KC KS A hx hb hml hr hlk hin hown hts hok hK hR hlo hfr hcl hsl)
theorem sx_goto {off : Int} (ht : sx_tab j pc = some (.goto off, n, x, y, z)) (k : sx_W E d kc ks j x ls st m Q) : sx_W E d kc ks j pc ls st m Q := by
  intro p e s mi args below meth c H locs cells slots KC KS A hx hb hml hr hlk hin hown hts hok hK hR hlo hfr hcl hsl
  obtain ⟨h1, h2⟩ := hok _ _ ht
  simp only [sx_okE, Bool.and_eq_true, decide_eq_true_eq] at h1
  have hn : n = 3 := Nat.eq_of_beq_eq_true h1.1
  subst hn
  exact lv_goto hx hb h2 h1.2 (k p e s mi args below meth c H locs cells slots KC KS A hx hb hml hr hlk hin hown hts hok hK hR hlo hfr hcl hsl)
/-- the cases of a table: from the number a on -/
noncomputable def sx_swT (v : Int32) (pc : Nat) (k : Nat → Prop) : Int → List Int → Prop
  | _, [] => True
  | a, o :: r => (v.toInt = a → k ((pc : Int) + o).toNat) ∧ sx_swT v pc k (a + 1) r
theorem sx_swT_at {v : Int32} {pc : Nat} {k : Nat → Prop} : ∀ (l : List Int) (a : Int) (i : Nat) (o : Int), sx_swT v pc k a l → l[i]? = some o → v.toInt = a + i → k ((pc : Int) + o).toNat
  | [], a, i, o, _, h, _ => by simp at h
  | b :: l, a, 0, o, h, hi, hv => by
    simp only [List.getElem?_cons_zero, Option.some.injEq] at hi
    subst hi
    exact h.1 (by omega)
  | b :: l, a, i + 1, o, h, hi, hv => sx_swT_at l (a + 1) i o h.2 (by simpa using hi) (by rw [hv]; push_cast; omega)
noncomputable def sx_swL (v : Int32) (pc : Nat) (k : Nat → Prop) (dflt : Int) : List (Int × Int) → Prop
  | [] => k ((pc : Int) + dflt).toNat
  | q :: r => (v.toInt = q.1 → k ((pc : Int) + q.2).toNat) ∧ (¬ v.toInt = q.1 → sx_swL v pc k dflt r)
theorem sx_swL_at {v : Int32} {pc : Nat} {k : Nat → Prop} {dflt : Int} : ∀ (l : List (Int × Int)), sx_swL v pc k dflt l → k ((pc : Int) + Op.lookupswitch.offset l dflt v.toInt).toNat
  | [], h => h
  | (a, b) :: l, h => by
    rw [Op.lookupswitch.offset_cons]
    by_cases hv : v.toInt = a
    · rw [if_pos hv.symm]
      exact h.1 hv
    · rw [if_neg (fun e => hv e.symm)]
      exact sx_swL_at l (h.2 hv)
theorem sx_tsw {dflt lo hi : Int} {offs : Array Int} {v : Int32} (ht : sx_tab j pc = some (.tableswitch dflt lo hi offs, n, x, y, z)) (hp : 0 ≤ (pc : Int) + dflt ∧ (offs.toList.all fun o => decide (0 ≤ (pc : Int) + o)) = true ∧ offs.size = (hi - lo + 1).toNat) (k1 : v.toInt < lo ∨ hi < v.toInt → sx_W E d kc ks j ((pc : Int) + dflt).toNat ls st m Q) (k2 : sx_swT v pc (fun t => sx_W E d kc ks j t ls st m Q) lo offs.toList) : sx_W E d kc ks j pc ls (.int v :: st) m Q := by
  intro p e s mi args below meth c H locs cells slots KC KS A hx hb hml hr hlk hin hown hts hok hK hR hlo hfr hcl hsl
  obtain ⟨h1, h2⟩ := hok _ _ ht
  by_cases hv : v.toInt < lo ∨ hi < v.toInt
  · exact lv_tableOut hx hb h2 hv (Int.toNat_of_nonneg hp.1).symm (k1 hv p e s mi args below meth c H locs cells slots KC KS A hx hb hml hr hlk hin hown hts hok hK hR hlo hfr hcl hsl)
  · have hlt : (v.toInt - lo).toNat < offs.size := by rw [hp.2.2]; omega
    have hg : offs[(v.toInt - lo).toNat]? = some offs[(v.toInt - lo).toNat] := Array.getElem?_eq_getElem hlt
    have hg2 : offs.toList[(v.toInt - lo).toNat]? = some offs[(v.toInt - lo).toNat] := by rw [Array.getElem?_toList]; exact hg
    have h0 : 0 ≤ (pc : Int) + offs[(v.toInt - lo).toNat] := by
      have := List.all_eq_true.mp hp.2.1 _ (List.mem_of_getElem? hg2)
      simpa using this
    exact lv_tableIn hx hb h2 (by omega) (by omega) hg (Int.toNat_of_nonneg h0).symm (sx_swT_at offs.toList lo _ _ k2 hg2 (by omega) p e s mi args below meth c H locs cells slots KC KS A hx hb hml hr hlk hin hown hts hok hK hR hlo hfr hcl hsl)
theorem sx_lsw {dflt : Int} {ps : Array (Int × Int)} {v : Int32} (ht : sx_tab j pc = some (.lookupswitch dflt ps, n, x, y, z)) (hp : 0 ≤ (pc : Int) + dflt ∧ (ps.toList.all fun o => decide (0 ≤ (pc : Int) + o.2)) = true) (k : sx_swL v pc (fun t => sx_W E d kc ks j t ls st m Q) dflt ps.toList) : sx_W E d kc ks j pc ls (.int v :: st) m Q := by
  intro p e s mi args below meth c H locs cells slots KC KS A hx hb hml hr hlk hin hown hts hok hK hR hlo hfr hcl hsl
  obtain ⟨h1, h2⟩ := hok _ _ ht
  have h0 : 0 ≤ (pc : Int) + Op.lookupswitch.offset ps.toList dflt v.toInt := by
    have : ∀ l : List (Int × Int), (l.all fun o => decide (0 ≤ (pc : Int) + o.2)) = true → 0 ≤ (pc : Int) + Op.lookupswitch.offset l dflt v.toInt := by
      intro l
      induction l with
      | nil => intro _; exact hp.1
      | cons q l ih =>
        intro h
        simp only [List.all_cons, Bool.and_eq_true, decide_eq_true_eq] at h
        obtain ⟨qa, qb⟩ := q
        rw [Op.lookupswitch.offset_cons]
        split
        · exact h.1
        · exact ih h.2
    exact this _ hp.2
  exact lv_lookup hx hb h2 h1 rfl (Int.toNat_of_nonneg h0).symm (sx_swL_at ps.toList k p e s mi args below meth c H locs cells slots KC KS A hx hb hml hr hlk hin hown hts hok hK hR hlo hfr hcl hsl)
theorem sx_any3 {l : List (Nat × Nat × Nat × Int32)} {a b : Nat} {w : Int32} (h : l.any (fun q => Nat.beq q.2.1 a && (Nat.beq q.2.2.1 b && decide (q.2.2.2 = w))) = true) : ∃ p, (p, a, b, w) ∈ l := by
  obtain ⟨⟨p, a', b', w'⟩, h1, h2⟩ := List.any_eq_true.mp h
  simp only [Bool.and_eq_true, decide_eq_true_eq] at h2
  have e1 : a' = a := Nat.eq_of_beq_eq_true h2.1
  have e2 : b' = b := Nat.eq_of_beq_eq_true h2.2.1
  have e3 : w' = w := h2.2.2
  subst e1; subst e2; subst e3
  exact ⟨p, h1⟩
theorem sx_any4 {l : List (Nat × Nat × Nat × Nat)} {a b w : Nat} (h : l.any (fun q => Nat.beq q.2.1 a && (Nat.beq q.2.2.1 b && Nat.beq q.2.2.2 w)) = true) : ∃ p, (p, a, b, w) ∈ l := by
  obtain ⟨⟨p, a', b', w'⟩, h1, h2⟩ := List.any_eq_true.mp h
  simp only [Bool.and_eq_true] at h2
  have e1 : a' = a := Nat.eq_of_beq_eq_true h2.1
  have e2 : b' = b := Nat.eq_of_beq_eq_true h2.2.1
  have e3 : w' = w := Nat.eq_of_beq_eq_true h2.2.2
  subst e1; subst e2; subst e3
  exact ⟨p, h1⟩
theorem sx_any5 {l : List (Nat × Nat × Nat × Nat × Nat)} {a b w u : Nat} (h : l.any (fun q => Nat.beq q.2.1 a && (Nat.beq q.2.2.1 b && (Nat.beq q.2.2.2.1 w && Nat.beq q.2.2.2.2 u))) = true) : ∃ p, (p, a, b, w, u) ∈ l := by
  obtain ⟨⟨p, a', b', w', u'⟩, h1, h2⟩ := List.any_eq_true.mp h
  simp only [Bool.and_eq_true] at h2
  have e1 : a' = a := Nat.eq_of_beq_eq_true h2.1
  have e2 : b' = b := Nat.eq_of_beq_eq_true h2.2.1
  have e3 : w' = w := Nat.eq_of_beq_eq_true h2.2.2.1
  have e4 : u' = u := Nat.eq_of_beq_eq_true h2.2.2.2
  subst e1; subst e2; subst e3; subst e4
  exact ⟨p, h1⟩
theorem sx_ldc {i : Nat} (ht : sx_tab j pc = some (.ldc i, n, 0, y, z)) (k : sx_W E d kc ks j (pc + 2) ls (.int z :: st) m Q) : sx_W E d kc ks j pc ls st m Q := by
  intro p e s mi args below meth c H locs cells slots KC KS A hx hb hml hr hlk hin hown hts hok hK hR hlo hfr hcl hsl
  obtain ⟨h1, h2⟩ := hok _ _ ht
  simp only [sx_okE, Bool.and_eq_true, Nat.beq_refl, cond_true] at h1
  have hn : n = 2 := Nat.eq_of_beq_eq_true h1.1
  subst hn
  obtain ⟨q, hq⟩ := sx_any3 h1.2
  exact lv_ldc hx hb hown (hts _ (sx_tb_in _ (sx_ct_ok _ hq) rfl)) h2 (k p e s mi args below meth c H locs cells slots KC KS A hx hb hml hr hlk hin hown hts hok hK hR hlo hfr hcl hsl)
theorem sx_ldcw {i : Nat} (ht : sx_tab j pc = some (.ldc_w i, n, x, y, z)) (k : sx_W E d kc ks j (pc + 3) ls (.int z :: st) m Q) : sx_W E d kc ks j pc ls st m Q := by
  intro p e s mi args below meth c H locs cells slots KC KS A hx hb hml hr hlk hin hown hts hok hK hR hlo hfr hcl hsl
  obtain ⟨h1, h2⟩ := hok _ _ ht
  simp only [sx_okE, Bool.and_eq_true] at h1
  have hn : n = 3 := Nat.eq_of_beq_eq_true h1.1
  subst hn
  obtain ⟨q, hq⟩ := sx_any3 h1.2
  exact lv_ldcw hx hb hown (hts _ (sx_tb_in _ (sx_ct_ok _ hq) rfl)) h2 (k p e s mi args below meth c H locs cells slots KC KS A hx hb hml hr hlk hin hown hts hok hK hR hlo hfr hcl hsl)
theorem sx_ldc2 {i : Nat} (ht : sx_tab j pc = some (.ldc2_w i, n, x, y, z)) (k : sx_W E d kc ks j (pc + 3) ls (.long (Int64.ofNat x) :: st) m Q) : sx_W E d kc ks j pc ls st m Q := by
  intro p e s mi args below meth c H locs cells slots KC KS A hx hb hml hr hlk hin hown hts hok hK hR hlo hfr hcl hsl
  obtain ⟨h1, h2⟩ := hok _ _ ht
  simp only [sx_okE, Bool.and_eq_true] at h1
  have hn : n = 3 := Nat.eq_of_beq_eq_true h1.1
  subst hn
  obtain ⟨q, hq⟩ := sx_any4 h1.2
  exact lv_ldc2 hx hb hown (hts _ (sx_tb_in _ (sx_lg_ok _ hq) rfl)) h2 (k p e s mi args below meth c H locs cells slots KC KS A hx hb hml hr hlk hin hown hts hok hK hR hlo hfr hcl hsl)
theorem sx_ldcS {i : Nat} (ht : sx_tab j pc = some (.ldc i, n, x, y, z)) (hx0 : Nat.beq x 0 = false) (k : sx_W E d kc ks j (pc + 2) ls (.ref (1000000000 + x) :: st) m Q) : sx_W E d kc ks j pc ls st m Q := by
  intro p e s mi args below meth c H locs cells slots KC KS A hx hb hml hr hlk hin hown hts hok hK hR hlo hfr hcl hsl
  obtain ⟨h1, h2⟩ := hok _ _ ht
  simp only [sx_okE, Bool.and_eq_true, hx0, cond_false, Bool.or_eq_true] at h1
  have hn : n = 2 := Nat.eq_of_beq_eq_true h1.1
  subst hn
  have hoc : sx_oc j = 11 := Nat.eq_of_beq_eq_true h1.2.1
  have hown2 : s.vm.findClass "SpoutNews" = some mi.cls := by rw [hoc] at hown; exact hown
  have k2 := k p e s mi args below meth c H locs cells slots KC KS A hx hb hml hr hlk hin hown hts hok hK hR hlo hfr hcl hsl
  have had : ∀ t, sx_ad E (1000000000 + t) = sx_ex E t := by
    intro t
    have e1 : Nat.ble 1000000000 (1000000000 + t) = true := Nat.ble_eq_true_of_le (by omega)
    unfold sx_ad
    rw [e1, cond_true, Nat.add_sub_cancel_left]
  rcases h1.2.2 with h3 | h3 | h3 | h3
  · have e1 : x = 1 := Nat.eq_of_beq_eq_true h3.1
    have e2 : i = 171 := Nat.eq_of_beq_eq_true h3.2
    subst e1; subst e2
    exact va_ldcS hx hb hown2 hK.2.2.2.2.1 h2 (by rw [← had 1]; exact k2)
  · have e1 : x = 2 := Nat.eq_of_beq_eq_true h3.1
    have e2 : i = 194 := Nat.eq_of_beq_eq_true h3.2
    subst e1; subst e2
    exact va_ldcS hx hb hown2 hK.2.2.2.2.2.1 h2 (by rw [← had 2]; exact k2)
  · have e1 : x = 3 := Nat.eq_of_beq_eq_true h3.1
    have e2 : i = 207 := Nat.eq_of_beq_eq_true h3.2
    subst e1; subst e2
    exact va_ldcS hx hb hown2 hK.2.2.2.2.2.2.1 h2 (by rw [← had 3]; exact k2)
  · have e1 : x = 4 := Nat.eq_of_beq_eq_true h3.1
    have e2 : i = 219 := Nat.eq_of_beq_eq_true h3.2
    subst e1; subst e2
    exact va_ldcS hx hb hown2 hK.2.2.2.2.2.2.2.1 h2 (by rw [← had 4]; exact k2)
end
