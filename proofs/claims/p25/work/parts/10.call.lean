-- RULES: copies, calls, ends, and how a contract is got from a walk
section
variable {E : sx_E} {d kc ks j pc n x y : Nat} {z : Int32} {ls : List (Option Value)} {st : List Value} {m : sx_M} {Q : Option Value → sx_M → Prop}
theorem sx_copy {i a a0 N N0 : Nat} {sp dp w : Int32} (ht : sx_tab j pc = some (.invokestatic i, n, 9998, y, z)) (hd : 1 ≤ d) (hs0 : m.2.1 a0 = some (13, N0)) (hs : m.2.1 a = some (13, N)) (g1 : ¬ sp < 0) (g2 : ¬ dp < 0) (g3 : ¬ w < 0) (g4 : sp.toNatClampNeg + w.toNatClampNeg ≤ N0) (g5 : dp.toNatClampNeg + w.toNatClampNeg ≤ N) (hcat : (st.map fun v => v.category).sum ≤ 8) (k : sx_W E d kc ks j (pc + 3) ls st (m.1, m.2.1, sx_ua m.2.2.1 a (va_cpy (m.2.2.1 a0) (m.2.2.1 a) sp.toNatClampNeg dp.toNatClampNeg w.toNatClampNeg), m.2.2.2) Q) : sx_W E d kc ks j pc ls (.int w :: .int dp :: .ref a :: .int sp :: .ref a0 :: st) m Q := by
  intro p e s mi args below meth c H locs cells slots KC KS A hx hb hml hr hlk hin hown hts hok hK hR hlo hfr hcl hsl
  obtain ⟨h1, h2⟩ := hok _ _ ht
  simp only [sx_okE, Bool.and_eq_true] at h1
  have hn : n = 3 := Nat.eq_of_beq_eq_true h1.1
  subst hn
  obtain ⟨q, hq⟩ := sx_any4 h1.2
  have hlink : (Jvm.Cond.methodLink (sx_cn (sx_oc j)) i arraycopyName).before args s = true := hts _ (sx_tb_mm (sx_ml_ok _ hq) rfl)
  have hnat := hts _ (sx_tb_in _ sx_arr_ok.1 rfl)
  have hstat := hts _ (sx_tb_in _ sx_arr_ok.2.1 rfl)
  have hini := hts _ (sx_tb_in _ sx_arr_ok.2.2 rfl)
  show W p (sx_l E) e (sx_rm d KC KS) s mi args below meth c H locs cells slots _ (F0 mi pc A (.int w :: .int dp :: .ref (sx_ad E a) :: .int sp :: .ref (sx_ad E a0) :: st.map (sx_v E)))
  rw [hR.ad hs, hR.ad hs0]
  have nn : ∀ z : Int32, ¬ z < 0 → z.toInt = (z.toNatClampNeg : Int) := by
    intro z hz
    have hz0 : (0 : Int) ≤ z.toInt := by
      have := Int32.not_lt.mp hz
      simpa using Int32.le_iff_toInt_le.mp this
    show z.toInt = ((z.toInt.toNat : Nat) : Int)
    omega
  intro T hT X
  have hc0 : H[sx_B E + a0]? = some (vp_cell (sx_cI E) (N0, .inl (m.2.2.1 a0))) := (hR.2.2.2 a0 _ hs0).2.2
  have hc1 : H[sx_B E + a]? = some (vp_cell (sx_cI E) (N, .inl (m.2.2.1 a))) := (hR.2.2.2 a _ hs).2.2
  obtain ⟨-, k0, hk0, cm0, hkk0⟩ := (hK.1.2 0 _ rfl).1 N0 (fun jj => .int (m.2.2.1 a0 jj))
  obtain ⟨vm', X', step⟩ := X.arraycopy hx hown hlink hnat hstat hini (src := sx_B E + a0) (dst := sx_B E + a) (cs := vp_cell (sx_cI E) (N0, .inl (m.2.2.1 a0))) (cd := vp_cell (sx_cI E) (N, .inl (m.2.2.1 a))) (srcPos := sp) (destPos := dp) (n := w) (by rw [hT]; exact hc0) (by rw [hT]; exact hc1)
    (fun _ h => by cases h) (fun _ h => by cases h) (fun h => by cases h) (fun h => by cases h) hk0 hk0 hkk0 hkk0 (by simp [refKind]) g1 g2 g3
    (by rw [nn sp g1, nn w g3]; show ¬ _ > ((arrV (sx_cI E) N0 (fun jj => .int (m.2.2.1 a0 jj))).slots.size : Int); rw [arrV_size]; omega)
    (by rw [nn dp g2, nn w g3]; show ¬ _ > ((arrV (sx_cI E) N (fun jj => .int (m.2.2.1 a jj))).slots.size : Int); rw [arrV_size]; omega)
    (fun vm₁ _ ii hi => by
      have e : (vp_cell (sx_cI E) (N0, .inl (m.2.2.1 a0))).slots.getD (sp.toNatClampNeg + ii) .null = .int (m.2.2.1 a0 (sp.toNatClampNeg + ii)) := by
        show (arrV (sx_cI E) N0 (fun jj => .int (m.2.2.1 a0 jj))).slots.getD _ _ = _
        rw [Array.getD_eq_getD_getElem?, arrV_read _ _ (by omega)]
        rfl
      refine ⟨?_, ?_⟩
      · rw [e]; rfl
      · rw [e]; exact trivial)
    (g := F0 mi pc A (.int w :: .int dp :: .ref (sx_B E + a) :: .int sp :: .ref (sx_B E + a0) :: st.map (sx_v E))) rfl (by rw [hml]; exact hlo.1) (rest := st.map (sx_v E)) rfl (by rw [hb]; exact h2) (by show 1 ≤ 1628 + d; omega)
    (by
      show 2 * 0 + _ + _ ≤ 200 * d
      rw [sx_cat_map]
      have e5 : nativeFrameWords "java/lang/System" "arraycopy" 5 + 11 ≤ 100 := by decide +kernel
      omega)
  have e1 : copied (vp_cell (sx_cI E) (N0, .inl (m.2.2.1 a0))) (vp_cell (sx_cI E) (N, .inl (m.2.2.1 a))) sp dp w = vp_cell (sx_cI E) (N, .inl (va_cpy (m.2.2.1 a0) (m.2.2.1 a) sp.toNatClampNeg dp.toNatClampNeg w.toNatClampNeg)) := va_copied (fun z => .int z) (sx_cI E) (sx_cI E) (m.2.2.1 a0) (m.2.2.1 a) g4
  rw [e1] at X' step
  have hl : sx_B E + a < H.size := (Array.getElem?_eq_some_iff.mp hc1).1
  have hheap : ((T.setVm vm').setCell (sx_B E + a) (vp_cell (sx_cI E) (N, .inl (va_cpy (m.2.2.1 a0) (m.2.2.1 a) sp.toNatClampNeg dp.toNatClampNeg w.toNatClampNeg)))).heap = H.setIfInBounds (sx_B E + a) (vp_cell (sx_cI E) (N, .inl (va_cpy (m.2.2.1 a0) (m.2.2.1 a) sp.toNatClampNeg dp.toNatClampNeg w.toNatClampNeg))) := by rw [← hT]; rfl
  have oq : ∀ q : Nat, q ≠ sx_B E + a → (H.setIfInBounds (sx_B E + a) (vp_cell (sx_cI E) (N, .inl (va_cpy (m.2.2.1 a0) (m.2.2.1 a) sp.toNatClampNeg dp.toNatClampNeg w.toNatClampNeg))))[q]? = H[q]? := fun q hq => by simp [Array.getElem?_setIfInBounds, Ne.symm hq]
  obtain ⟨t, a1, b1⟩ := k p e s mi args below meth c _ _ cells slots KC KS A hx hb hml hr hlk hin hown hts hok hK (hR.set (m' := (m.1, m.2.1, sx_ua m.2.2.1 a (va_cpy (m.2.2.1 a0) (m.2.2.1 a) sp.toNatClampNeg dp.toNatClampNeg w.toNatClampNeg), m.2.2.2)) hs rfl rfl (fun i' hi' => ⟨sx_ua_ne hi', rfl⟩) (by simp) oq (by
      show (H.setIfInBounds (sx_B E + a) _)[sx_B E + a]? = some (vp_cell (sx_cI E) (N, .inl (sx_ua m.2.2.1 a _ a)))
      rw [sx_ua_eq]
      simp [Array.getElem?_setIfInBounds, hl])) hlo (sx_locs1 (a := a) hfr (fun q hq => by
      obtain ⟨z, -, hz⟩ := List.mem_map.mp hq
      rw [← hz])) hcl hsl _ hheap X'
  exact ⟨t, step t a1, b1⟩
/-- behind a call -/
theorem sx_behind {E : sx_E} {d kc ks j pc : Nat} {ls : List (Option Value)} {rest : List Value} {Q : Option Value → sx_M → Prop} {p : Program} {e : Env} {s : State} {mi : MethodId} {args : Array Value} {below : List Frame} {meth : Method} {c : Code} {H : Heap} {locs : List Loc} {cells slots KC KS kc' ks' : Nat} {A : Array Slot} {aa : Array Value} {Q' : Option Value → sx_M → Prop} {st0 : List Value}
    (hx : p.tables.exec = Jvm.exec) (hb : c.code = sx_b j) (hml : c.maxLocals = sx_L j) (hr : meth.sig.returnType = sx_rt j) (hlk : meth.locks = false) (hin : sx_kd j = 2 → meth.name = "<init>") (hown : s.vm.findClass (sx_cn (sx_oc j)) = some mi.cls) (hts : ∀ w ∈ sx_tb, w.before args s = true) (hok : sx_ok j) (hK : sx_K E s) (hlo : sx_lo E A (sx_L j) ls) (hfr : ∀ q ∈ locs, sx_fr E q.base) (hcl : cells + kc ≤ KC) (hsl : slots + ks ≤ KS) (hc1 : kc' ≤ kc) (hc2 : ks' ≤ ks)
    (hrun : va_Run p (sx_l E) e (sx_rm d KC KS) s mi args below meth c H locs cells slots kc' ks' (F0 mi pc A st0) (rest.map (sx_v E)) (sx_Qc E Q' aa) (sx_fr E))
    (k : ∀ v m', Q' v m' → sx_W E d (kc - kc') (ks - ks') j (pc + 3) ls (v.toList ++ rest) m' Q) : W p (sx_l E) e (sx_rm d KC KS) s mi args below meth c H locs cells slots (MQ below (sx_Qc E Q) args s KC KS (sx_fr E)) (F0 mi pc A st0) := by
  intro T hT X
  obtain ⟨v, st₀, t, T', L, g0, X', hL, e1, e2, ⟨v', m', hv, hq, hR'⟩, stp⟩ := hrun T hT X
  have hv2 : v = v'.map (sx_v E) := Outcome.returned.inj hv
  subst hv2
  have hk := k v' m' hq p e s mi args below meth c T'.heap (locs ++ L) (cells + kc') (slots + ks') KC KS A hx hb hml hr hlk hin hown hts hok hK (by rw [e1]; exact hR') hlo (fun q hq => by
    rcases List.mem_append.mp hq with h | h
    · exact hfr q h
    · exact hL q h) (by omega) (by omega)
  rw [show (v'.toList ++ rest).map (sx_v E) = (v'.map (sx_v E)).toList ++ rest.map (sx_v E) by cases v' <;> simp] at hk
  obtain ⟨t2, a1, b1⟩ := hk T' rfl X'
  exact ⟨t2, stp t2 a1, b1⟩
theorem sx_callV {i a N d' kc' ks' : Nat} {as rest : List Value} {Q' : Option Value → sx_M → Prop} (ht : sx_tab j pc = some (.invokevirtual i, n, x, y, z)) (hkd : sx_kd x = 1) (hx9 : x < 9996) (hna : as.length = sx_na x) (hoc : sx_oc x < 13) (hs : m.2.1 a = some (sx_oc x, N)) (hcat : (rest.map fun v => v.category).sum ≤ 8) (hd : d' < d) (hc1 : kc' ≤ kc) (hc2 : ks' ≤ ks) (hS : sx_S E d' kc' ks' x (.ref a :: as) m Q') (k : ∀ v m', Q' v m' → sx_W E d (kc - kc') (ks - ks') j (pc + 3) ls (v.toList ++ rest) m' Q) : sx_W E d kc ks j pc ls (as.reverse ++ .ref a :: rest) m Q := by
  intro p e s mi args below meth c H locs cells slots KC KS A hx hb hml hr hlk hin hown hts hok hK hR hlo hfr hcl hsl
  obtain ⟨h1, h2⟩ := hok _ _ ht
  simp only [sx_okE, Bool.and_eq_true] at h1
  have hn : n = 3 := Nat.eq_of_beq_eq_true h1.1
  subst hn
  obtain ⟨q, hq⟩ := sx_any4 h1.2
  obtain ⟨⟨f1, f2, f3, f4, f5, f6, f7, f8, f9, f10⟩, hM⟩ := hS
  have hyy : sx_yy x = sx_y x := by unfold sx_yy; rw [sx_beq_ne (by omega), sx_beq_ne (by omega), sx_beq_ne (by omega), sx_beq_ne (by omega)]; rfl
  have hlink : (Jvm.Cond.methodLink (sx_cn (sx_oc j)) i (sx_y x)).before args s = true := by rw [← hyy]; exact hts _ (sx_tb_mm (sx_ml_ok _ hq) rfl)
  have hcb : CallB (sx_rm d KC KS) s args (sx_cn (sx_oc j)) i (sx_y x) (sx_b x) (sx_L x) (sx_rt x) (sx_ws x) (sx_rm d' kc' ks') kc' ks' (sx_na x) := callB_of (sx_na x) hts (sx_good x f3) rfl rfl rfl (hts _ f4) hlink f5 ⟨by show 1628 + d' + 1 ≤ 1628 + d; omega, by show 8 + (sx_L x + 11) + 200 * d' ≤ 200 * d; omega⟩
  have hP := hR.at hs
  have hstk : (as.reverse ++ .ref a :: rest).map (sx_v E) = (as.map (sx_v E)).reverse ++ .ref (sx_B E + a) :: rest.map (sx_v E) := by
    rw [List.map_append, List.map_reverse, List.map_cons, show sx_v E (.ref a) = .ref (sx_B E + a) by show Value.ref (sx_ad E a) = _; rw [hR.ad hs]]
  have hrec : ∃ cellB : Cell, H[sx_B E + a]? = some cellB ∧ cellB.vm.isStatics = false ∧ s.vm.findClass (sx_cn (sx_oc x)) = some cellB.cls := by
    have hP2 := hP
    have he : ([(sx_B E + a, sx_e E (sx_oc x, N) (m.2.2.1 a) (m.2.2.2 a))] : va_W)[0]? = some (sx_B E + a, .inr (sx_oc x, (List.range N).map fun k => sx_fv E (sx_ty (sx_oc x) k) (m.2.2.1 a k) (m.2.2.2 a k))) := by simp [sx_e, hoc]
    exact va_recv hK.1 hP2 (sx_cl_at _ hoc) he
  have hrun := va_runV (S := ⟨hx, hb, hml, hown, hts⟩) (C := (sx_y x).cls) (g := F0 mi pc A ((as.reverse ++ .ref a :: rest).map (sx_v E))) (As := as.map (sx_v E)) (rest := rest.map (sx_v E)) (b := sx_B E + a) (e := e) (below := below) (meth := meth) (locs := locs) (cells := cells) (slots := slots) hM ⟨hcb, hts _ (f7 hkd).1, hts _ (f7 hkd).2⟩
    ⟨sx_blind, by rw [f2]; exact hrec, fun U hU hW => ⟨by rw [List.map_cons, show sx_v E (.ref a) = .ref (sx_B E + a) by show Value.ref (sx_ad E a) = _; rw [hR.ad hs]], by rw [hU]; exact hR, hK.warm hW⟩⟩ rfl (by rw [List.length_map]; exact hna) hlo.1 hstk (by show 2 * 0 + _ ≤ 8; rw [sx_cat_map]; omega) h2 ⟨by show cells + kc' ≤ KC; omega, by show slots + ks' ≤ KS; omega⟩
  exact sx_behind hx hb hml hr hlk hin hown hts hok hK hlo hfr hcl hsl hc1 hc2 hrun k
theorem sx_callS {i d' kc' ks' : Nat} {as rest : List Value} {Q' : Option Value → sx_M → Prop} (ht : sx_tab j pc = some (.invokestatic i, n, x, y, z)) (hkd : sx_kd x = 0) (hx9 : x < 9996) (hna : as.length = sx_na x) (hcat : (rest.map fun v => v.category).sum ≤ 8) (hd : d' < d) (hc1 : kc' ≤ kc) (hc2 : ks' ≤ ks) (hS : sx_S E d' kc' ks' x as m Q') (k : ∀ v m', Q' v m' → sx_W E d (kc - kc') (ks - ks') j (pc + 3) ls (v.toList ++ rest) m' Q) : sx_W E d kc ks j pc ls (as.reverse ++ rest) m Q := by
  intro p e s mi args below meth c H locs cells slots KC KS A hx hb hml hr hlk hin hown hts hok hK hR hlo hfr hcl hsl
  obtain ⟨h1, h2⟩ := hok _ _ ht
  simp only [sx_okE, Bool.and_eq_true] at h1
  have hn : n = 3 := Nat.eq_of_beq_eq_true h1.1
  subst hn
  obtain ⟨q, hq⟩ := sx_any4 h1.2
  obtain ⟨⟨f1, f2, f3, f4, f5, f6, f7, f8, f9, f10⟩, hM⟩ := hS
  have hyy : sx_yy x = sx_y x := by unfold sx_yy; rw [sx_beq_ne (by omega), sx_beq_ne (by omega), sx_beq_ne (by omega), sx_beq_ne (by omega)]; rfl
  have hlink : (Jvm.Cond.methodLink (sx_cn (sx_oc j)) i (sx_y x)).before args s = true := by rw [← hyy]; exact hts _ (sx_tb_mm (sx_ml_ok _ hq) rfl)
  have hcb : CallB (sx_rm d KC KS) s args (sx_cn (sx_oc j)) i (sx_y x) (sx_b x) (sx_L x) (sx_rt x) (sx_ws x) (sx_rm d' kc' ks') kc' ks' (sx_na x) := callB_of (sx_na x) hts (sx_good x f3) rfl rfl rfl (hts _ f4) hlink f5 ⟨by show 1628 + d' + 1 ≤ 1628 + d; omega, by show 8 + (sx_L x + 11) + 200 * d' ≤ 200 * d; omega⟩
  have hstk : (as.reverse ++ rest).map (sx_v E) = (as.map (sx_v E)).reverse ++ rest.map (sx_v E) := by rw [List.map_append, List.map_reverse]
  have hrun := va_runS (S := ⟨hx, hb, hml, hown, hts⟩) (g := F0 mi pc A ((as.reverse ++ rest).map (sx_v E))) (As := as.map (sx_v E)) (rest := rest.map (sx_v E)) (e := e) (below := below) (meth := meth) (locs := locs) (cells := cells) (slots := slots) hM ⟨hcb, hts _ (f6 hkd)⟩
    ⟨sx_blind, fun U hU hW => ⟨rfl, by rw [hU]; exact hR, hK.warm hW⟩⟩ rfl (by rw [List.length_map]; exact hna) hlo.1 hstk (by show 2 * 0 + _ ≤ 8; rw [sx_cat_map]; omega) h2 ⟨by show cells + kc' ≤ KC; omega, by show slots + ks' ≤ KS; omega⟩
  exact sx_behind hx hb hml hr hlk hin hown hts hok hK hlo hfr hcl hsl hc1 hc2 hrun k
theorem sx_callI {i a d' kc' ks' : Nat} {kd : Nat × Nat} {as rest : List Value} {Q' : Option Value → sx_M → Prop} (ht : sx_tab j pc = some (.invokespecial i, n, x, y, z)) (hkd : sx_kd x = 2) (hx9 : x < 9996) (hna : as.length = sx_na x) (hs : m.2.1 a = some kd) (hcat : (rest.map fun v => v.category).sum ≤ 8) (hd : d' < d) (hc1 : kc' ≤ kc) (hc2 : ks' ≤ ks) (hS : sx_S E d' kc' ks' x (.ref a :: as) m Q') (k : ∀ v m', Q' v m' → sx_W E d (kc - kc') (ks - ks') j (pc + 3) ls (v.toList ++ rest) m' Q) : sx_W E d kc ks j pc ls (as.reverse ++ .ref a :: rest) m Q := by
  intro p e s mi args below meth c H locs cells slots KC KS A hx hb hml hr hlk hin hown hts hok hK hR hlo hfr hcl hsl
  obtain ⟨h1, h2⟩ := hok _ _ ht
  simp only [sx_okE, Bool.and_eq_true] at h1
  have hn : n = 3 := Nat.eq_of_beq_eq_true h1.1
  subst hn
  obtain ⟨q, hq⟩ := sx_any4 h1.2
  obtain ⟨⟨f1, f2, f3, f4, f5, f6, f7, f8, f9, f10⟩, hM⟩ := hS
  have hyy : sx_yy x = sx_y x := by unfold sx_yy; rw [sx_beq_ne (by omega), sx_beq_ne (by omega), sx_beq_ne (by omega), sx_beq_ne (by omega)]; rfl
  have hlink : (Jvm.Cond.methodLink (sx_cn (sx_oc j)) i (sx_y x)).before args s = true := by rw [← hyy]; exact hts _ (sx_tb_mm (sx_ml_ok _ hq) rfl)
  obtain ⟨g1, g2, g3⟩ := f8 hkd
  have hcb0 : CallB (sx_rm d KC KS) s args (sx_cn (sx_oc j)) i (sx_y x) (sx_b x) (sx_L x) (sx_rt x) (sx_ws x) (sx_rm d' kc' ks') kc' ks' (sx_na x) := callB_of (sx_na x) hts (sx_good x f3) rfl rfl rfl (hts _ f4) hlink f5 ⟨by show 1628 + d' + 1 ≤ 1628 + d; omega, by show 8 + (sx_L x + 11) + 200 * d' ≤ 200 * d; omega⟩
  have hcb : CallB (sx_rm d KC KS) s args (sx_cn (sx_oc j)) i (sx_y x) (sx_b x) (sx_L x) none (sx_ws x) (sx_rm d' kc' ks') kc' ks' (sx_na x) := by rw [g3] at hcb0; exact hcb0
  have hstk : (as.reverse ++ .ref a :: rest).map (sx_v E) = (as.map (sx_v E)).reverse ++ .ref (sx_B E + a) :: rest.map (sx_v E) := by
    rw [List.map_append, List.map_reverse, List.map_cons, show sx_v E (.ref a) = .ref (sx_B E + a) by show Value.ref (sx_ad E a) = _; rw [hR.ad hs]]
  have hrun := va_runI (S := ⟨hx, hb, hml, hown, hts⟩) (g := F0 mi pc A ((as.reverse ++ .ref a :: rest).map (sx_v E))) (As := as.map (sx_v E)) (rest := rest.map (sx_v E)) (b := sx_B E + a) (e := e) (below := below) (meth := meth) (locs := locs) (cells := cells) (slots := slots) hM ⟨hcb, g2, hts _ g1⟩
    ⟨sx_blind, fun U hU hW => ⟨by rw [List.map_cons, show sx_v E (.ref a) = .ref (sx_B E + a) by show Value.ref (sx_ad E a) = _; rw [hR.ad hs]], by rw [hU]; exact hR, hK.warm hW⟩⟩ rfl (by rw [List.length_map]; exact hna) hlo.1 hstk (by show 2 * 0 + _ ≤ 8; rw [sx_cat_map]; omega) h2 ⟨by show cells + kc' ≤ KC; omega, by show slots + ks' ≤ KS; omega⟩
  exact sx_behind hx hb hml hr hlk hin hown hts hok hK hlo hfr hcl hsl hc1 hc2 hrun k
theorem sx_objI {i a : Nat} (ht : sx_tab j pc = some (.invokespecial i, n, 9999, y, z)) (hd : 1 ≤ d) (hcat : (st.map fun v => v.category).sum ≤ 8) (k : sx_W E d kc ks j (pc + 3) ls st m Q) : sx_W E d kc ks j pc ls (.ref a :: st) m Q := by
  intro p e s mi args below meth c H locs cells slots KC KS A hx hb hml hr hlk hin hown hts hok hK hR hlo hfr hcl hsl
  obtain ⟨h1, h2⟩ := hok _ _ ht
  simp only [sx_okE, Bool.and_eq_true] at h1
  have hn : n = 3 := Nat.eq_of_beq_eq_true h1.1
  subst hn
  obtain ⟨q, hq⟩ := sx_any4 h1.2
  have hlink : (Jvm.Cond.methodLink (sx_cn (sx_oc j)) i objectInit).before args s = true := hts _ (sx_tb_mm (sx_ml_ok _ hq) rfl)
  exact W.objInit hx hb hown hlink (hts _ (sx_tb_in _ sx_obj_ok.1 rfl)) (hts _ (sx_tb_in _ sx_obj_ok.2 rfl)) rfl (by show A.size = _; rw [hlo.1, hml]) rfl h2 (by show 1 ≤ 1628 + d; omega) (by show 2 * 0 + ((st.map (sx_v E)).map fun v => v.category).sum + 12 ≤ 200 * d; rw [sx_cat_map]; omega) (k p e s mi args below meth c H locs cells slots KC KS A hx hb hml hr hlk hin hown hts hok hK hR hlo hfr hcl hsl)
theorem sx_mmax {i : Nat} {a b : Int32} (ht : sx_tab j pc = some (.invokestatic i, n, 9996, y, z)) (hd : 1 ≤ d) (hcat : (st.map fun v => v.category).sum ≤ 8) (k : sx_W E d kc ks j (pc + 3) ls (.int (if a < b then b else a) :: st) m Q) : sx_W E d kc ks j pc ls (.int b :: .int a :: st) m Q := by
  intro p e s mi args below meth c H locs cells slots KC KS A hx hb hml hr hlk hin hown hts hok hK hR hlo hfr hcl hsl
  obtain ⟨h1, h2⟩ := hok _ _ ht
  simp only [sx_okE, Bool.and_eq_true] at h1
  have hn : n = 3 := Nat.eq_of_beq_eq_true h1.1
  subst hn
  obtain ⟨q, hq⟩ := sx_any4 h1.2
  have hlink : (Jvm.Cond.methodLink (sx_cn (sx_oc j)) i Lib.Math.max.name).before args s = true := hts _ (sx_tb_mm (sx_ml_ok _ hq) rfl)
  exact va_mmax hx hb (by rw [hml, hlo.1]) hown hlink (hts _ (sx_tb_in _ sx_mth_ok.2.1 rfl)) (hts _ (sx_tb_in _ sx_mth_ok.1 rfl)) (hts _ (sx_tb_in _ sx_mth_ok.2.2.2.1 rfl)) (by show 1 ≤ 1628 + d; omega) (by show _ + 13 ≤ 200 * d; rw [sx_cat_map]; omega) (by show cells ≤ KC; omega) (by show slots ≤ KS; omega) h2 (k p e s mi args below meth c H locs cells slots KC KS A hx hb hml hr hlk hin hown hts hok hK hR hlo hfr hcl hsl)
theorem sx_mmin {i : Nat} {a b : Int32} (ht : sx_tab j pc = some (.invokestatic i, n, 9997, y, z)) (hd : 1 ≤ d) (hcat : (st.map fun v => v.category).sum ≤ 8) (k : sx_W E d kc ks j (pc + 3) ls (.int (if b < a then b else a) :: st) m Q) : sx_W E d kc ks j pc ls (.int b :: .int a :: st) m Q := by
  intro p e s mi args below meth c H locs cells slots KC KS A hx hb hml hr hlk hin hown hts hok hK hR hlo hfr hcl hsl
  obtain ⟨h1, h2⟩ := hok _ _ ht
  simp only [sx_okE, Bool.and_eq_true] at h1
  have hn : n = 3 := Nat.eq_of_beq_eq_true h1.1
  subst hn
  obtain ⟨q, hq⟩ := sx_any4 h1.2
  have hlink : (Jvm.Cond.methodLink (sx_cn (sx_oc j)) i Lib.Math.min.name).before args s = true := hts _ (sx_tb_mm (sx_ml_ok _ hq) rfl)
  exact va_mmin hx hb (by rw [hml, hlo.1]) hown hlink (hts _ (sx_tb_in _ sx_mth_ok.2.2.1 rfl)) (hts _ (sx_tb_in _ sx_mth_ok.1 rfl)) (hts _ (sx_tb_in _ sx_mth_ok.2.2.2.2 rfl)) (by show 1 ≤ 1628 + d; omega) (by show _ + 13 ≤ 200 * d; rw [sx_cat_map]; omega) (by show cells ≤ KC; omega) (by show slots ≤ KS; omega) h2 (k p e s mi args below meth c H locs cells slots KC KS A hx hb hml hr hlk hin hown hts hok hK hR hlo hfr hcl hsl)
theorem sx_iret {v : Int32} (ht : sx_tab j pc = some (.ireturn, n, x, y, z)) (hrt : sx_rt j = some .int ∨ (sx_rt j = some .boolean ∧ (v = 0 ∨ v = 1))) (hq : Q (some (.int v)) m) : sx_W E d kc ks j pc ls [.int v] m Q := by
  intro p e s mi args below meth c H locs cells slots KC KS A hx hb hml hr hlk hin hown hts hok hK hR hlo hfr hcl hsl
  obtain ⟨h1, h2⟩ := hok _ _ ht
  have hn : n = 1 := Nat.eq_of_beq_eq_true h1
  subst hn
  refine W.widen (k := KC) (n := KS) (by omega) (by omega) ?_
  rcases hrt with hrt | ⟨hrt, hv⟩
  · exact W.zret (ty := .int) hx hb (hr.trans hrt) rfl (fun t ht hW => ⟨some (.int v), m, rfl, hq, by rw [ht]; exact hR⟩) hfr h2 (hlocks := hlk)
  · exact W.zret (ty := .boolean) hx hb (hr.trans hrt) (by rcases hv with hv | hv <;> subst hv <;> decide) (fun t ht hW => ⟨some (.int v), m, rfl, hq, by rw [ht]; exact hR⟩) hfr h2 (hlocks := hlk)
theorem sx_lret {v : Int64} (ht : sx_tab j pc = some (.lreturn, n, x, y, z)) (hrt : sx_rt j = some .long) (hq : Q (some (.long v)) m) : sx_W E d kc ks j pc ls [.long v] m Q := by
  intro p e s mi args below meth c H locs cells slots KC KS A hx hb hml hr hlk hin hown hts hok hK hR hlo hfr hcl hsl
  obtain ⟨h1, h2⟩ := hok _ _ ht
  have hn : n = 1 := Nat.eq_of_beq_eq_true h1
  subst hn
  refine W.widen (k := KC) (n := KS) (by omega) (by omega) ?_
  exact W.lret hx hb (hr.trans hrt) (fun t ht hW => ⟨some (.long v), m, rfl, hq, by rw [ht]; exact hR⟩) hfr h2 (hlocks := hlk)
theorem sx_vret (ht : sx_tab j pc = some (.return_, n, x, y, z)) (hrt : sx_rt j = none) (hq : Q none m) : sx_W E d kc ks j pc ls [] m Q := by
  intro p e s mi args below meth c H locs cells slots KC KS A hx hb hml hr hlk hin hown hts hok hK hR hlo hfr hcl hsl
  obtain ⟨h1, h2⟩ := hok _ _ ht
  have hn : n = 1 := Nat.eq_of_beq_eq_true h1
  subst hn
  refine W.widen (k := KC) (n := KS) (by omega) (by omega) ?_
  exact W.vret hx hb (hr.trans hrt) (fun t ht hW => ⟨none, m, rfl, hq, by rw [ht]; exact hR⟩) hfr h2 (hlocks := hlk)
/-- A CONTRACT OUT OF A WALK -/
theorem sx_S.of {E : sx_E} {d kc ks j : Nat} {as : List Value} {m : sx_M} {Q : Option Value → sx_M → Prop} (hm : sx_mf j) (hl : (sx_ent as).length ≤ sx_L j) (h : sx_W E d kc ks j 0 (sx_ent as) [] m Q) : sx_S E d kc ks j as m Q := by
  refine ⟨hm, ?_⟩
  obtain ⟨f1, f2, f3, f4, f5, f6, f7, f8, f9, f10⟩ := hm
  refine Met.ofW (cc := sx_b j) (maxL := sx_L j) (ret := sx_rt j) f1 rfl ?_
  intro p e s mi args below meth c s₁ B hml hv
  obtain ⟨rfl, hR, hK⟩ := hv
  have hts := atoms_spec (ws := sx_ws j) B.pre
  have hown : s.vm.findClass (sx_y j).cls = some mi.cls := findClass_of_methodNamed B.named
  have hl2 := lv_entry (as.map (sx_v E)) (n := sx_L j) (by rw [sx_ent_len]; exact hl)
  rw [lg_entry_eq]
  generalize (lg_sl (as.map (sx_v E)) ++ List.replicate (sx_L j - (lg_sl (as.map (sx_v E))).length) Slot.unset).toArray = A at hl2 ⊢
  have hlo : sx_lo E A (sx_L j) (sx_ent as) := by
    refine ⟨hl2.1, hl2.2.1, hl, fun i v hv => ?_⟩
    have h3 := sx_ent_in E as 0 i v hv
    rw [Nat.zero_add] at h3
    exact hl2.2.2 _ h3
  exact h p e s mi _ below meth c s.heap [] 0 0 kc ks A B.exec B.bytes hml B.returns B.notSynchronized (fun hk => by rw [← (f8 hk).2.1]; exact (name_of_methodNamed B.named B.method).1) (by rw [← f2]; exact hown) (fun w hw => hts w (List.mem_cons_of_mem _ hw)) f10 hK hR hlo (fun q hq => by cases hq) (by omega) (by omega)
end
