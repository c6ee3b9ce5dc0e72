-- RULES: stores into fields, arrays, new cells
section
variable {E : sx_E} {d kc ks j pc n x y : Nat} {z : Int32} {ls : List (Option Value)} {st : List Value} {m : sx_M} {Q : Option Value → sx_M → Prop}
theorem sx_ua_u1 {α : Type} {f : Nat → Nat → α} {a k : Nat} {v : α} : sx_ua f a (sx_u1 (f a) k v) = sx_up f a k v := by
  funext i
  by_cases h : i = a
  · subst h; rw [sx_ua_eq, sx_up_eq]
  · rw [sx_ua_ne h, sx_up_ne h]
theorem sx_ua_self {α : Type} {f : Nat → Nat → α} {a : Nat} : sx_ua f a (f a) = f := by
  funext i
  by_cases h : i = a
  · subst h; rw [sx_ua_eq]
  · rw [sx_ua_ne h]
theorem sx_putI {i a : Nat} {N : Nat} {w : Int32} (ht : sx_tab j pc = some (.putfield i, n, x, y, z)) (hs : m.2.1 a = some (x, N)) (hc : x < 13) (hy : y < sx_N x) (hi : sx_isI x y = true) (hz : sx_isZ x y = false ∨ w = 0 ∨ w = 1) (k : sx_W E d kc ks j (pc + 3) ls st (m.1, m.2.1, sx_up m.2.2.1 a y w, m.2.2.2) Q) : sx_W E d kc ks j pc ls (.int w :: .ref a :: st) m Q := by
  obtain ⟨t1, t2, -⟩ := sx_tyI x hc y hy
  have hty : (sx_ty x y = .int ∨ sx_ty x y = .boolean) ∧ narrow (sx_ty x y) (.int w) = .int w ∧ fits (sx_ty x y) (.int w) = true := by
    cases hq : sx_isZ x y with
    | false => rw [t1 hi hq]; exact ⟨Or.inl rfl, rfl, rfl⟩
    | true =>
      rw [t2 hi hq]
      rcases hz with hz | hz | hz
      · rw [hz] at hq; cases hq
      · subst hz; exact ⟨Or.inr rfl, by decide, by decide⟩
      · subst hz; exact ⟨Or.inr rfl, by decide, by decide⟩
  rw [← sx_ua_u1, ← sx_ua_self (f := m.2.2.2) (a := a)] at k
  refine sx_putW (v := .int w) (w := .int w) ht hs rfl hty.2.1 hty.2.2 (fun q hq => ?_) k
  by_cases e : q = y
  · subst e
    rw [if_pos rfl, sx_u1_eq]
    rcases hty.1 with h | h <;> rw [h] <;> rfl
  · rw [if_neg e, sx_u1_ne e]
theorem sx_putR {i a : Nat} {N : Nat} {q : Option Nat} (ht : sx_tab j pc = some (.putfield i, n, x, y, z)) (hs : m.2.1 a = some (x, N)) (hc : x < 13) (hy : y < sx_N x) (hi : sx_isI x y = false) (k : sx_W E d kc ks j (pc + 3) ls st (m.1, m.2.1, m.2.2.1, sx_up m.2.2.2 a y q) Q) : sx_W E d kc ks j pc ls (sx_rv q :: .ref a :: st) m Q := by
  obtain ⟨-, -, t3⟩ := sx_tyI x hc y hy
  obtain ⟨g0, g1, g2⟩ := t3 hi
  rw [← sx_ua_u1, ← sx_ua_self (f := m.2.2.1) (a := a)] at k
  have hty : narrow (sx_ty x y) (va_rf (q.map (sx_ad E))) = va_rf (q.map (sx_ad E)) ∧ fits (sx_ty x y) (va_rf (q.map (sx_ad E))) = true := by
    generalize sx_ty x y = ty at g0 g1 g2
    cases ty <;> first | (exfalso; revert g0; decide) | (cases q <;> exact ⟨rfl, rfl⟩)
  refine sx_putW (v := sx_rv q) (w := va_rf (q.map (sx_ad E))) ht hs (sx_v_rv E q) hty.1 hty.2 (fun kk hkk => ?_) k
  by_cases e : kk = y
  · subst e
    rw [if_pos rfl, sx_u1_eq, sx_fv_ref E g1 g2]
  · rw [if_neg e, sx_u1_ne e]
theorem sx_iald {a N : Nat} {i : Int32} (ht : sx_tab j pc = some (.iaload, n, x, y, z)) (hs : m.2.1 a = some (13, N)) (hi : ¬ (i < 0 ∨ N ≤ i.toNatClampNeg)) (k : sx_W E d kc ks j (pc + 1) ls (.int (m.2.2.1 a i.toNatClampNeg) :: st) m Q) : sx_W E d kc ks j pc ls (.int i :: .ref a :: st) m Q := by
  intro p e s mi args below meth c H locs cells slots KC KS A hx hb hml hr hlk hin hown hts hok hK hR hlo hfr hcl hsl
  obtain ⟨h1, h2⟩ := hok _ _ ht
  have hn : n = 1 := Nat.eq_of_beq_eq_true h1
  subst hn
  show W p (sx_l E) e (sx_rm d KC KS) s mi args below meth c H locs cells slots _ (F0 mi pc A (.int i :: .ref (sx_ad E a) :: st.map (sx_v E)))
  rw [hR.ad hs]
  exact va_iald (n := N) (f := m.2.2.1 a) hx hb hK.1 (hR.at hs) 0 0 rfl rfl hi h2 (k p e s mi args below meth c H locs cells slots KC KS A hx hb hml hr hlk hin hown hts hok hK hR hlo hfr hcl hsl)
theorem sx_adX (E : sx_E) : sx_ad E 1000000000 = sx_ex E 0 := rfl
theorem sx_iaX {i : Int32} (ht : sx_tab j pc = some (.iaload, n, x, y, z)) (hi : ¬ (i < 0 ∨ sx_Ln E ≤ i.toNatClampNeg)) (k : sx_W E d kc ks j (pc + 1) ls (.int (sx_xs E i.toNatClampNeg) :: st) m Q) : sx_W E d kc ks j pc ls (.int i :: .ref 1000000000 :: st) m Q := by
  intro p e s mi args below meth c H locs cells slots KC KS A hx hb hml hr hlk hin hown hts hok hK hR hlo hfr hcl hsl
  obtain ⟨h1, h2⟩ := hok _ _ ht
  have hn : n = 1 := Nat.eq_of_beq_eq_true h1
  subst hn
  show W p (sx_l E) e (sx_rm d KC KS) s mi args below meth c H locs cells slots _ (F0 mi pc A (.int i :: .ref (sx_ad E 1000000000) :: st.map (sx_v E)))
  rw [sx_adX]
  obtain ⟨scr, g1, g2, g3, g4, g5⟩ := hK.2.2.1
  have hlt : i.toNatClampNeg < sx_Ln E := Nat.not_le.mp fun q => hi (Or.inr q)
  exact W.iald (v := .int (sx_xs E i.toNatClampNeg)) hx hb (by rw [hR.2.2.1 _ hK.2.2.2.1]; exact g1) g2 g3 (by rw [g4]; exact hi) (g5 _ hlt) rfl rfl h2 (k p e s mi args below meth c H locs cells slots KC KS A hx hb hml hr hlk hin hown hts hok hK hR hlo hfr hcl hsl)
theorem sx_alX (ht : sx_tab j pc = some (.arraylength, n, x, y, z)) (k : sx_W E d kc ks j (pc + 1) ls (.int (Int32.ofNat (sx_Ln E)) :: st) m Q) : sx_W E d kc ks j pc ls (.ref 1000000000 :: st) m Q := by
  intro p e s mi args below meth c H locs cells slots KC KS A hx hb hml hr hlk hin hown hts hok hK hR hlo hfr hcl hsl
  obtain ⟨h1, h2⟩ := hok _ _ ht
  have hn : n = 1 := Nat.eq_of_beq_eq_true h1
  subst hn
  show W p (sx_l E) e (sx_rm d KC KS) s mi args below meth c H locs cells slots _ (F0 mi pc A (.ref (sx_ad E 1000000000) :: st.map (sx_v E)))
  rw [sx_adX]
  obtain ⟨scr, g1, g2, g3, g4, g5⟩ := hK.2.2.1
  exact W.alen (n := Int32.ofNat (sx_Ln E)) hx hb (by rw [hR.2.2.1 _ hK.2.2.2.1]; exact g1) g2 (by rw [g4] <;> rfl) rfl rfl h2 (k p e s mi args below meth c H locs cells slots KC KS A hx hb hml hr hlk hin hown hts hok hK hR hlo hfr hcl hsl)
theorem sx_alen {a N : Nat} (ht : sx_tab j pc = some (.arraylength, n, x, y, z)) (hs : m.2.1 a = some (13, N)) (k : sx_W E d kc ks j (pc + 1) ls (.int (Int32.ofNat N) :: st) m Q) : sx_W E d kc ks j pc ls (.ref a :: st) m Q := by
  intro p e s mi args below meth c H locs cells slots KC KS A hx hb hml hr hlk hin hown hts hok hK hR hlo hfr hcl hsl
  obtain ⟨h1, h2⟩ := hok _ _ ht
  have hn : n = 1 := Nat.eq_of_beq_eq_true h1
  subst hn
  show W p (sx_l E) e (sx_rm d KC KS) s mi args below meth c H locs cells slots _ (F0 mi pc A (.ref (sx_ad E a) :: st.map (sx_v E)))
  rw [hR.ad hs]
  exact va_alen hx hb hK.1 (hR.at hs) 0 0 rfl rfl rfl h2 (k p e s mi args below meth c H locs cells slots KC KS A hx hb hml hr hlk hin hown hts hok hK hR hlo hfr hcl hsl)
theorem sx_aald {a N : Nat} {i : Int32} (ht : sx_tab j pc = some (.aaload, n, x, y, z)) (hs : m.2.1 a = some (14, N)) (hi : ¬ (i < 0 ∨ N ≤ i.toNatClampNeg)) (k : sx_W E d kc ks j (pc + 1) ls (sx_rv (m.2.2.2 a i.toNatClampNeg) :: st) m Q) : sx_W E d kc ks j pc ls (.int i :: .ref a :: st) m Q := by
  intro p e s mi args below meth c H locs cells slots KC KS A hx hb hml hr hlk hin hown hts hok hK hR hlo hfr hcl hsl
  obtain ⟨h1, h2⟩ := hok _ _ ht
  have hn : n = 1 := Nat.eq_of_beq_eq_true h1
  subst hn
  have hk := k p e s mi args below meth c H locs cells slots KC KS A hx hb hml hr hlk hin hown hts hok hK hR hlo hfr hcl hsl
  rw [List.map_cons, sx_v_rv] at hk
  show W p (sx_l E) e (sx_rm d KC KS) s mi args below meth c H locs cells slots _ (F0 mi pc A (.int i :: .ref (sx_ad E a) :: st.map (sx_v E)))
  rw [hR.ad hs]
  exact va_aldq (n := N) (f := fun kk => (m.2.2.2 a kk).map (sx_ad E)) hx hb hK.1 (hR.at hs) 0 1 rfl rfl hi h2 hk
theorem sx_u1_upd {f : Nat → Int32} {k : Nat} {v : Int32} : (fun jj => Value.int (sx_u1 f k v jj)) = updV (fun jj => .int (f jj)) k (.int v) := by
  funext q
  by_cases h : q = k
  · subst h; rw [sx_u1_eq]; simp [updV]
  · rw [sx_u1_ne h]; simp [updV, h]
theorem sx_iast {a N : Nat} {i w : Int32} (ht : sx_tab j pc = some (.iastore, n, x, y, z)) (hs : m.2.1 a = some (13, N)) (hi : ¬ (i < 0 ∨ N ≤ i.toNatClampNeg)) (k : sx_W E d kc ks j (pc + 1) ls st (m.1, m.2.1, sx_up m.2.2.1 a i.toNatClampNeg w, m.2.2.2) Q) : sx_W E d kc ks j pc ls (.int w :: .int i :: .ref a :: st) m Q := by
  intro p e s mi args below meth c H locs cells slots KC KS A hx hb hml hr hlk hin hown hts hok hK hR hlo hfr hcl hsl
  obtain ⟨h1, h2⟩ := hok _ _ ht
  have hn : n = 1 := Nat.eq_of_beq_eq_true h1
  subst hn
  show W p (sx_l E) e (sx_rm d KC KS) s mi args below meth c H locs cells slots _ (F0 mi pc A (.int w :: .int i :: .ref (sx_ad E a) :: st.map (sx_v E)))
  rw [hR.ad hs]
  have hc : H[sx_B E + a]? = some (vp_cell (sx_cI E) (N, .inl (m.2.2.1 a))) := (hR.2.2.2 a _ hs).2.2
  refine W.iast hx hb hc ((hK.1.2 0 _ rfl).1 N (fun jj => .int (m.2.2.1 a jj))) (fun q => by cases q) (by show ¬ (i < 0 ∨ (arrV _ _ _).slots.size ≤ _); rw [arrV_size]; exact hi) rfl rfl h2 fun H1 e1 z1 oq => ?_
  refine k p e s mi args below meth c H1 _ cells slots KC KS A hx hb hml hr hlk hin hown hts hok hK (hR.set (m' := (m.1, m.2.1, sx_up m.2.2.1 a i.toNatClampNeg w, m.2.2.2)) hs rfl rfl (fun i' hi' => ⟨sx_up_ne hi', rfl⟩) z1 oq ?_) hlo (sx_locs1 hfr sx_locsS) hcl hsl
  show H1[sx_B E + a]? = some (vp_cell (sx_cI E) (N, .inl (sx_up m.2.2.1 a i.toNatClampNeg w a)))
  rw [e1, sx_up_eq, vp_cell_i, vp_cell_i, arrV_store, sx_u1_upd]
theorem sx_newI {w : Int32} {N : Nat} (ht : sx_tab j pc = some (.newarray .int, n, x, y, z)) (hw : ¬ w < 0) (hN : w.toNatClampNeg = N) (hN2 : N ≤ 100000) (hlen : m.1 < 100000) (hks : N ≤ ks) (k : sx_W E d kc (ks - N) j (pc + 2) ls (.ref m.1 :: st) (m.1 + 1, sx_u1 m.2.1 m.1 (some (13, N)), sx_ua m.2.2.1 m.1 (fun _ => 0), sx_ua m.2.2.2 m.1 (fun _ => none)) Q) : sx_W E d (kc + 1) ks j pc ls (.int w :: st) m Q := by
  intro p e s mi args below meth c H locs cells slots KC KS A hx hb hml hr hlk hin hown hts hok hK hR hlo hfr hcl hsl
  obtain ⟨h1, h2⟩ := hok _ _ ht
  have hn : n = 2 := Nat.eq_of_beq_eq_true h1
  subst hn
  refine va_newaK (g := F0 mi pc A (.int w :: st.map (sx_v E))) hx hb (hts _ (sx_tb_in _ sx_int_ok rfl)) rfl h2 rfl hw hN (by show N * 4 ≤ _; omega) (by show cells + 1 ≤ KC; omega) (by show slots + N ≤ KS; omega) hR.1 fun H1 cA e1 z1 o1 hAr hNm => ?_
  have hcA : cA = sx_cI E := by
    have h5 : s.vm.findClass ("[" ++ (FieldType.int).toString) = some (sx_cI E) := (hK.1.2 0 _ rfl).2
    exact Option.some.inj (hNm.symm.trans h5)
  subst hcA
  have hR2 := hR.push (kd := (13, N)) (f := fun _ => 0) (r := fun _ => none) hlen (fun h => absurd h (by show ¬ (13 : Nat) < 13; omega)) (by rw [z1, hR.1]) (fun q hq => o1 q (by rw [← hR.1]; exact hq)) (show H1[sx_B E + m.1]? = some (vp_cell (sx_cI E) (N, .inl (fun _ => 0))) by rw [vp_cell_i]; exact e1)
  have hk := k p e s mi args below meth c H1 locs (cells + 1) (slots + N) KC KS A hx hb hml hr hlk hin hown hts hok hK hR2 hlo hfr (by omega) (by omega)
  rw [List.map_cons, show sx_v E (.ref m.1) = .ref (sx_B E + m.1) by show Value.ref (sx_ad E m.1) = _; rw [sx_ad_lt (by omega)]] at hk
  exact hk
theorem sx_new {i : Nat} (ht : sx_tab j pc = some (.new i, n, x, y, z)) (hlen : m.1 < 100000) (hks : sx_N x ≤ ks) (k : sx_W E d kc (ks - sx_N x) j (pc + 3) ls (.ref m.1 :: st) (m.1 + 1, sx_u1 m.2.1 m.1 (some (x, sx_N x)), sx_ua m.2.2.1 m.1 (fun _ => 0), sx_ua m.2.2.2 m.1 (fun _ => none)) Q) : sx_W E d (kc + 1) ks j pc ls st m Q := by
  intro p e s mi args below meth c H locs cells slots KC KS A hx hb hml hr hlk hin hown hts hok hK hR hlo hfr hcl hsl
  obtain ⟨h1, h2⟩ := hok _ _ ht
  simp only [sx_okE, Bool.and_eq_true] at h1
  have hn : n = 3 := Nat.eq_of_beq_eq_true h1.1
  subst hn
  have hc : x < 13 := Nat.le_of_ble_eq_true h1.2.1
  obtain ⟨q, hq⟩ := sx_any4 h1.2.2
  obtain ⟨i1, i2⟩ := sx_ip_ok x hc
  have hKn := hK.1.1 x _ (sx_cl_at x hc)
  refine W.newcK hx hb hown (hts _ (sx_tb_in _ (sx_kl_ok _ hq) rfl)) (hts _ (sx_tb_in _ i1 rfl)) (hts _ (sx_tb_in _ i2 rfl)) rfl h2 (by show cells + 1 ≤ KC; omega) (by show slots + sx_N x ≤ KS; omega) hKn.2.1 hR.1 fun H1 kC hkC e1 z1 o1 => ?_
  have hat : va_at (sx_D E) sx_cl (sx_B E + m.1, sx_e E (x, sx_N x) (fun _ => 0) (fun _ => none)) H1 := by
    simp only [sx_e, hc, if_true]
    refine ⟨_, sx_cl_at x hc, (u_born (sx_ty x) hts (sx_in x hc) hKn hkC e1 (sx_tyok x hc)).to (fun jj hjj => ?_)⟩
    have hjj : jj < sx_N x := hjj
    have z2 : ∀ g : Nat → Value, vp_V ((List.range (sx_N x)).map g) jj = g jj := fun g => by simp [vp_V, hjj]
    rw [z2]
    obtain ⟨t1, t2, t3⟩ := sx_tyI x hc jj hjj
    cases hi : sx_isI x jj with
    | true =>
      cases hz : sx_isZ x jj with
      | true => rw [t2 hi hz]; rfl
      | false => rw [t1 hi hz]; rfl
    | false =>
      obtain ⟨g0, g1, g2⟩ := t3 hi
      rw [sx_fv_ref E g1 g2]
      generalize sx_ty x jj = ty at g0 g1 g2
      cases ty <;> first | (exfalso; revert g0; decide) | rfl
  have hR2 := hR.push (kd := (x, sx_N x)) hlen (fun _ => rfl) (by rw [z1, hR.1]) (fun q hq => o1 q (by rw [← hR.1]; exact hq)) hat
  have hk := k p e s mi args below meth c H1 locs (cells + 1) (slots + sx_N x) KC KS A hx hb hml hr hlk hin hown hts hok hK hR2 hlo hfr (by omega) (by omega)
  rw [List.map_cons, show sx_v E (.ref m.1) = .ref (sx_B E + m.1) by show Value.ref (sx_ad E m.1) = _; rw [sx_ad_lt (by omega)]] at hk
  exact hk
theorem sx_newR {i : Nat} {w : Int32} {N : Nat} (ht : sx_tab j pc = some (.anewarray i, n, x, y, z)) (hw : ¬ w < 0) (hN : w.toNatClampNeg = N) (hN2 : N ≤ 100000) (hlen : m.1 < 100000) (hks : N ≤ ks) (k : sx_W E d kc (ks - N) j (pc + 3) ls (.ref m.1 :: st) (m.1 + 1, sx_u1 m.2.1 m.1 (some (14, N)), sx_ua m.2.2.1 m.1 (fun _ => 0), sx_ua m.2.2.2 m.1 (fun _ => none)) Q) : sx_W E d (kc + 1) ks j pc ls (.int w :: st) m Q := by
  intro p e s mi args below meth c H locs cells slots KC KS A hx hb hml hr hlk hin hown hts hok hK hR hlo hfr hcl hsl
  obtain ⟨h1, h2⟩ := hok _ _ ht
  simp only [sx_okE, Bool.and_eq_true] at h1
  have hn : n = 3 := Nat.eq_of_beq_eq_true h1.1
  subst hn
  have hx10 : x = 10 := Nat.eq_of_beq_eq_true h1.2.1
  subst hx10
  obtain ⟨q, hq⟩ := sx_any4 h1.2.2
  have hcl2 := hts _ (sx_tb_in _ (sx_kl_ok _ hq) rfl)
  have hcl3 : (Jvm.Cond.classLink (sx_cn (sx_oc j)) i "SpoutNews$World").before args s = true := hcl2
  subst hN
  refine W.anew (g := F0 mi pc A (.int w :: st.map (sx_v E))) hx hb hown hcl3 (va_AO.use hK.2.1) rfl h2 rfl hw (by omega) (by show cells + 1 ≤ KC; omega) (by show slots + w.toNatClampNeg ≤ KS; omega) fun cA kA comp f1 f2 f3 f4 => ?_
  generalize hH1 : H.push ({ cls := cA, slots := Array.replicate w.toNatClampNeg .null, vm := .none } : Cell) = H1
  have z1 : H1.size = H.size + 1 := by rw [← hH1, Array.size_push]
  have e1 : H1[H.size]? = some (arrV cA w.toNatClampNeg (fun _ => .null)) := by rw [← hH1, Array.getElem?_push_size, ← arrV_new]
  have o1 : ∀ q : Nat, q < H.size → H1[q]? = H[q]? := fun q hq => by rw [← hH1, Array.getElem?_push, if_neg (Nat.ne_of_lt hq)]
  have hcA : cA = sx_cW E := by
    obtain ⟨_, _, -, -, -, h5⟩ := (hK.1.2 1 _ rfl).2
    exact Option.some.inj (f1.symm.trans h5)
  subst hcA
  have hR2 := hR.push (kd := (14, w.toNatClampNeg)) (f := fun _ => 0) (r := fun _ => none) hlen (fun h => absurd h (by show ¬ (14 : Nat) < 13; omega)) z1 o1 (show H1[sx_B E + m.1]? = some (vp_cell (sx_cW E) (w.toNatClampNeg, .inr (.inr (.inr (.inr (fun _ => none)))))) by rw [vp_cell_q, ← hR.1]; exact e1)
  have hk := k p e s mi args below meth c H1 locs (cells + 1) (slots + w.toNatClampNeg) KC KS A hx hb hml hr hlk hin hown hts hok hK hR2 hlo hfr (by omega) (by omega)
  rw [List.map_cons, show sx_v E (.ref m.1) = .ref H.size by show Value.ref (sx_ad E m.1) = _; rw [sx_ad_lt (by omega), hR.1]] at hk
  exact hk
theorem sx_aast {a N v Nv : Nat} {i : Int32} (ht : sx_tab j pc = some (.aastore, n, x, y, z)) (hs : m.2.1 a = some (14, N)) (hv : m.2.1 v = some (10, Nv)) (hi : ¬ (i < 0 ∨ N ≤ i.toNatClampNeg)) (k : sx_W E d kc ks j (pc + 1) ls st (m.1, m.2.1, m.2.2.1, sx_up m.2.2.2 a i.toNatClampNeg (some v)) Q) : sx_W E d kc ks j pc ls (.ref v :: .int i :: .ref a :: st) m Q := by
  intro p e s mi args below meth c H locs cells slots KC KS A hx hb hml hr hlk hin hown hts hok hK hR hlo hfr hcl hsl
  obtain ⟨h1, h2⟩ := hok _ _ ht
  have hn : n = 1 := Nat.eq_of_beq_eq_true h1
  subst hn
  show W p (sx_l E) e (sx_rm d KC KS) s mi args below meth c H locs cells slots _ (F0 mi pc A (.ref (sx_ad E v) :: .int i :: .ref (sx_ad E a) :: st.map (sx_v E)))
  rw [hR.ad hs, hR.ad hv]
  have hca : H[sx_B E + a]? = some (vp_cell (sx_cW E) (N, .inr (.inr (.inr (.inr (fun kk => (m.2.2.2 a kk).map (sx_ad E))))))) := (hR.2.2.2 a _ hs).2.2
  have hlt : i.toNatClampNeg < N := Nat.not_le.mp fun q => hi (Or.inr q)
  have h0 : ¬ i < 0 := fun q => hi (Or.inl q)
  obtain ⟨r', hr', cellV, g1, g2, g3, -⟩ := (hR.2.2.2 v _ hv).2.2
  have hcls := (hK.1.1 10 _ (sx_cl_at 10 (by omega))).2
  obtain ⟨kA, comp, k1, k2, k3, -⟩ := (hK.1.2 1 _ rfl).2
  have hcomp : comp = (sx_D E).1 10 := Option.some.inj (k3.symm.trans hcls.1)
  subst hcomp
  obtain ⟨kC, hkC, -⟩ := hcls.2
  refine W.aast hx hb hca (fun q h => by cases h) (fun h => by cases h) k1 k2 rfl hkC ⟨h0, by show _ < (arrV _ _ _).slots.size; rw [arrV_size]; exact hlt⟩ g1 (fun q h => by rw [g3] at h; cases h) (by rw [g2]; exact hkC) (by rw [g2]; exact va_assign hcls) rfl rfl h2 fun H1 e1 z1 oq => ?_
  refine k p e s mi args below meth c H1 _ cells slots KC KS A hx hb hml hr hlk hin hown hts hok hK (hR.set (m' := (m.1, m.2.1, m.2.2.1, sx_up m.2.2.2 a i.toNatClampNeg (some v))) hs rfl rfl (fun i' hi' => ⟨rfl, sx_up_ne hi'⟩) z1 oq ?_) hlo (sx_locs1 hfr sx_locsS) hcl hsl
  show H1[sx_B E + a]? = some (vp_cell (sx_cW E) (N, .inr (.inr (.inr (.inr (fun kk => (sx_up m.2.2.2 a i.toNatClampNeg (some v) a kk).map (sx_ad E)))))))
  rw [e1, sx_up_eq, vp_cell_q, vp_cell_q, arrV_store]
  congr 2
  funext q
  by_cases hq : q = i.toNatClampNeg
  · subst hq
    rw [sx_u1_eq]
    simp [updV, va_rf, hR.ad hv]
  · rw [sx_u1_ne hq]
    simp [updV, hq]
end
