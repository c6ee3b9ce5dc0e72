-- THE FOUR LISTS OF WORDS of the class: length and letters
noncomputable def zs_t1 : List Int := [104, 101, 97, 114, 115, 32, 106, 101, 116, 32, 115, 108, 105, 112, 32, 119, 104, 101, 110, 32, 111, 114, 32, 97, 110, 100, 32, 110, 111, 116, 32, 115, 116, 111, 110, 101, 32, 115, 105, 100, 101, 32, 108, 101, 97, 110, 32, 109, 111, 117, 116, 104, 32, 114, 97, 105, 110, 32, 104, 101, 97, 114, 100, 32, 100, 114, 121, 32, 119, 111, 114, 100, 32, 100, 97, 121]
noncomputable def zs_t2 : List Int := [115, 112, 111, 117, 116, 32, 105, 110, 116, 111]
noncomputable def zs_t3 : List Int := [100, 97, 121, 32, 114, 97, 105, 110]
noncomputable def zs_t4 : List Int := [115, 101, 97, 116, 32, 114, 105, 115, 101, 32, 106, 97, 114, 32, 109, 101, 110, 100, 32, 108, 101, 97, 100, 32, 111, 112, 101, 110, 32, 116, 101, 108, 108, 32, 111, 110, 32, 97, 116]
noncomputable def zs_tx (r : Nat) : List Int := bif Nat.beq r 1000000001 then zs_t1 else bif Nat.beq r 1000000002 then zs_t2 else bif Nat.beq r 1000000003 then zs_t3 else zs_t4
noncomputable def zs_sl (r : Nat) : Int := ((zs_tx r).length : Int)
noncomputable def zs_sc (r : Nat) (i : Int) : Int := (zs_tx r).getD i.toNat 0
noncomputable def zs_str (r : Nat) : Prop := (Nat.ble 1000000001 r && Nat.ble r 1000000004) = true
theorem zs_stc {r : Nat} (h : zs_str r) : r = 1000000001 ∨ r = 1000000002 ∨ r = 1000000003 ∨ r = 1000000004 := by
  unfold zs_str at h
  rw [Bool.and_eq_true] at h
  have h1 := Nat.le_of_ble_eq_true h.1
  have h2 := Nat.le_of_ble_eq_true h.2
  omega
theorem zs_slb {r : Nat} (h : zs_str r) : 8 ≤ zs_sl r ∧ zs_sl r ≤ 76 := by
  rcases zs_stc h with h | h | h | h <;> subst h <;> decide +kernel
theorem zs_slr {r : Nat} (h : zs_str r) : zi_r (zs_sl r) := by
  have := zs_slb h
  constructor <;> omega
theorem zs_scb (r : Nat) (i : Int) : 0 ≤ zs_sc r i ∧ zs_sc r i ≤ 122 := by
  have hd : ∀ x ∈ zs_t1 ++ zs_t2 ++ zs_t3 ++ zs_t4, 0 ≤ x ∧ x ≤ 122 := by decide +kernel
  unfold zs_sc
  rw [List.getD_eq_getElem?_getD]
  cases hx : (zs_tx r)[i.toNat]? with
  | none => decide
  | some x =>
    have hm : x ∈ zs_tx r := List.mem_of_getElem? hx
    refine hd x ?_
    unfold zs_tx at hm
    simp only [List.mem_append]
    cases h1 : Nat.beq r 1000000001 <;> rw [h1] at hm
    · cases h2 : Nat.beq r 1000000002 <;> rw [h2] at hm
      · cases h3 : Nat.beq r 1000000003 <;> rw [h3] at hm
        · exact Or.inr hm
        · exact Or.inl (Or.inr hm)
      · exact Or.inl (Or.inl (Or.inr hm))
    · exact Or.inl (Or.inl (Or.inl hm))
theorem zs_scr (r : Nat) (i : Int) : zi_r (zs_sc r i) := by
  have := zs_scb r i
  constructor <;> omega

-- HOW LIKELY A SURMISE IS, in whole numbers
noncomputable def sm_F (a b q : Int) : Int := q * a * 1000000 / (q * a + (1000000 - q) * b)
theorem sm_F_in {a b q : Int} (ha : 0 < a) (hb : 0 < b) (h1 : 0 ≤ q) (h2 : q ≤ 1000000) : 0 ≤ sm_F a b q ∧ sm_F a b q ≤ 1000000 := by
  have p1 : 0 ≤ q * a := Int.mul_nonneg h1 (by omega)
  have p2 : 0 ≤ (1000000 - q) * b := Int.mul_nonneg (by omega) (by omega)
  unfold sm_F
  refine ⟨Int.ediv_nonneg (by omega) (by omega), ?_⟩
  have p3 : 0 < q * a ∨ 0 < (1000000 - q) * b := by
    by_cases e : q = 0
    · exact Or.inr (Int.mul_pos (by omega) hb)
    · exact Or.inl (Int.mul_pos (by omega) ha)
  exact Int.ediv_le_of_le_mul (by omega) (by omega)
noncomputable def sm_it (a b : Int) : Nat → Int → Int
  | 0, q => q
  | k + 1, q => sm_it a b k (sm_F a b q)
theorem sm_it_in {a b : Int} (ha : 0 < a) (hb : 0 < b) : ∀ (k : Nat) (q : Int), 0 ≤ q → q ≤ 1000000 → 0 ≤ sm_it a b k q ∧ sm_it a b k q ≤ 1000000
  | 0, q, h1, h2 => ⟨h1, h2⟩
  | k + 1, q, h1, h2 => sm_it_in ha hb k _ (sm_F_in ha hb h1 h2).1 (sm_F_in ha hb h1 h2).2
noncomputable def sm_S (p n m : Int) : Int := sm_it 4 6 m.toNat (sm_it 6 4 n.toNat (1000 * p))
theorem sm_S_in {p n m : Int} (hp : 0 ≤ p ∧ p ≤ 1000) : 0 ≤ sm_S p n m ∧ sm_S p n m ≤ 1000000 := by
  have i1 := sm_it_in (a := 6) (b := 4) (by decide) (by decide) n.toNat (1000 * p) (by omega) (by omega)
  exact sm_it_in (a := 4) (b := 6) (by decide) (by decide) m.toNat _ i1.1 i1.2
/-- what is answered -/
noncomputable def zsu (p n m v : Int) : Prop := ((0 ≤ p ∧ p ≤ 1000) ∧ (0 ≤ n ∧ n ≤ 20) ∧ (0 ≤ m ∧ m ≤ 20) → v = sm_S p n m) ∧ (¬ ((0 ≤ p ∧ p ≤ 1000) ∧ (0 ≤ n ∧ n ≤ 20) ∧ (0 ≤ m ∧ m ≤ 20)) → v = -1)
theorem zsu_eq {p n m v v' : Int} (h : zsu p n m v) (h' : zsu p n m v') : v = v' := by
  by_cases c : (0 ≤ p ∧ p ≤ 1000) ∧ (0 ≤ n ∧ n ≤ 20) ∧ (0 ≤ m ∧ m ≤ 20)
  · rw [h.1 c, h'.1 c]
  · rw [h.2 c, h'.2 c]

-- LENGTH AND LETTERS of the class's four texts, out of the JDK's own code
section
variable {E : sx_E} {d j pc : Nat} {ls : List (Option Value)} {st : List Value} {g : zi_M} {R : Option Value → sx_M → Prop}
theorem ss_ad {E : sx_E} {k t : Nat} (h : k = 1000000000 + t) : sx_ad E k = sx_ex E t := by
  have e1 : Nat.ble 1000000000 k = true := Nat.ble_eq_true_of_le (by omega)
  unfold sx_ad
  rw [e1, cond_true, h, Nat.add_sub_cancel_left]
theorem ss_bel {E : sx_E} {m : sx_M} {H : Heap} (hR : sx_R E m H) {q : Nat} {cell : Cell} (hq : ¬ sx_fr E q) (h : (sx_H0 E)[q]? = some cell) : H[q]? = some cell := by
  rw [hR.2.2.1 q (Nat.lt_of_not_le hq)]
  exact h
theorem ss_own {j : Nat} {s : State} {cl : ClassId} (hj : sx_oc j = 17) (h : s.vm.findClass (sx_cn (sx_oc j)) = some cl) : s.vm.findClass "java/lang/String" = some cl := by
  rw [hj] at h
  exact h
theorem ss_gst {pc' : Nat} (hj : sx_oc j = 17) (hd : decode (sx_b j) pc = .ok (.getstatic 38, 3)) (hp : pc + 3 = pc') (k : zi_W E d j pc' ls (zi_i 1 :: st) g R) : zi_W E d j pc ls st g R := by
  intro m hm p e s mi args below meth c H locs cells slots KC KS A hx hb hml hr hlk hin hown hts hok hK hR hlo hfr hcl hsl
  subst hp
  have k2 := k m hm p e s mi args below meth c H locs cells slots KC KS A hx hb hml hr hlk hin hown hts hok hK hR hlo hfr hcl hsl
  obtain ⟨cf, kf, fi, f, a, cell, h1, h2, h3, h4, h5, h6, h7, h8⟩ := hK.2.2.2.2.2.2.2.2.2.1
  exact W.gets hx hb (ss_own hj hown) (hts _ (sx_tb_in 878 (w := .fieldLink "java/lang/String" 38 "java/lang/String" "COMPACT_STRINGS" "Z") (by decide +kernel) rfl)) h1 h2 h3 h4 (ss_bel hR h8 h5) (fun e => by rw [e] at h6; cases h6) h7 rfl hd k2
theorem ss_gsf {pc' : Nat} (hj : sx_oc j = 17) (hd : decode (sx_b j) pc = .ok (.getstatic 1053, 3)) (hp : pc + 3 = pc') (k : ∀ w : Value, (w = .null ∨ ∃ q, w = .ref q) → zi_W E d j pc' ls (w :: st) g R) : zi_W E d j pc ls st g R := by
  intro m hm p e s mi args below meth c H locs cells slots KC KS A hx hb hml hr hlk hin hown hts hok hK hR hlo hfr hcl hsl
  subst hp
  have hl : (Jvm.Cond.fieldLink "java/lang/String" 1053 "jdk/internal/util/Preconditions" "SIOOBE_FORMATTER" "Ljava/util/function/BiFunction;").before args s = true := hts _ (sx_tb_in 894 (by decide +kernel) rfl)
  rcases hK.2.2.2.2.2.2.2.2.2.2 with hZ | hZ
  · have k2 := k .null (Or.inl rfl) m hm p e s mi args below meth c H locs cells slots KC KS A hx hb hml hr hlk hin hown hts hok hK hR hlo hfr hcl hsl
    obtain ⟨cf, kf, fi, f, a, cell, h1, h2, h3, h4, h5, h6, h7, h8⟩ := hZ
    exact W.gets hx hb (ss_own hj hown) hl h1 h2 h3 h4 (ss_bel hR h8 h5) (fun e => by rw [e] at h6; cases h6) h7 rfl hd k2
  · have k2 := k (.ref 1000000009) (Or.inr ⟨_, rfl⟩) m hm p e s mi args below meth c H locs cells slots KC KS A hx hb hml hr hlk hin hown hts hok hK hR hlo hfr hcl hsl
    obtain ⟨cf, kf, fi, f, a, cell, h1, h2, h3, h4, h5, h6, h7, h8⟩ := hZ
    refine W.gets hx hb (ss_own hj hown) hl h1 h2 h3 h4 (ss_bel hR h8 h5) (fun e => by rw [e] at h6; cases h6) h7 rfl hd ?_
    have e9 : sx_v E (.ref 1000000009) = .ref (sx_ex E 9) := by show Value.ref (sx_ad E 1000000009) = _; rw [ss_ad (t := 9) rfl]
    rw [← e9]
    exact k2
theorem ss_cod {x k pc' : Nat} (hx4 : x < 4) (hk : k = 1000000000 + (x + 1)) (hj : sx_oc j = 17) (hd : decode (sx_b j) pc = .ok (.getfield 15, 3)) (hp : pc + 3 = pc') (kk : zi_W E d j pc' ls (zi_i 0 :: st) g R) : zi_W E d j pc ls (.ref k :: st) g R := by
  intro m hm p e s mi args below meth c H locs cells slots KC KS A hx hb hml hr hlk hin hown hts hok hK hR hlo hfr hcl hsl
  subst hp
  have k2 := kk m hm p e s mi args below meth c H locs cells slots KC KS A hx hb hml hr hlk hin hown hts hok hK hR hlo hfr hcl hsl
  obtain ⟨cf, kf, i, f, cell, h1, h2, h3, h4, h5, h6⟩ := (hK.2.2.2.2.2.2.2.2.1.1 x hx4).2.1
  show W p (sx_l E) e (sx_rm d KC KS) s mi args below meth c H locs cells slots _ (F0 mi pc A (.ref (sx_ad E k) :: st.map (sx_v E)))
  rw [ss_ad hk]
  exact W.getf hx hb (ss_own hj hown) (hts _ (sx_tb_in 2164 (w := .fieldLink "java/lang/String" 15 "java/lang/String" "coder" "B") (by decide +kernel) rfl)) h1 h2 (ss_bel hR h6 h3) h4 (v := .int 0) h5 rfl rfl hd k2
theorem ss_val {x k pc' : Nat} (hx4 : x < 4) (hk : k = 1000000000 + (x + 1)) (hj : sx_oc j = 17) (hd : decode (sx_b j) pc = .ok (.getfield 9, 3)) (hp : pc + 3 = pc') (kk : zi_W E d j pc' ls (.ref (1000000000 + (x + 5)) :: st) g R) : zi_W E d j pc ls (.ref k :: st) g R := by
  intro m hm p e s mi args below meth c H locs cells slots KC KS A hx hb hml hr hlk hin hown hts hok hK hR hlo hfr hcl hsl
  subst hp
  have k2 := kk m hm p e s mi args below meth c H locs cells slots KC KS A hx hb hml hr hlk hin hown hts hok hK hR hlo hfr hcl hsl
  obtain ⟨cf, kf, i, f, cell, h1, h2, h3, h4, h5, h6⟩ := (hK.2.2.2.2.2.2.2.2.1.1 x hx4).2.2.1
  have e9 : sx_v E (.ref (1000000000 + (x + 5))) = .ref (sx_ex E (x + 5)) := by show Value.ref (sx_ad E _) = _; rw [ss_ad (t := x + 5) rfl]
  show W p (sx_l E) e (sx_rm d KC KS) s mi args below meth c H locs cells slots _ (F0 mi pc A (.ref (sx_ad E k) :: st.map (sx_v E)))
  rw [ss_ad hk]
  refine W.getf hx hb (ss_own hj hown) (hts _ (sx_tb_in 2163 (w := .fieldLink "java/lang/String" 9 "java/lang/String" "value" "[B") (by decide +kernel) rfl)) h1 h2 (ss_bel hR h6 h3) h4 (v := .ref (sx_ex E (x + 5))) h5 rfl rfl hd ?_
  rw [← e9]
  exact k2
theorem ss_lenI : ∀ x, x < 4 → Int32.ofInt ((sx_sl.getD x 0 : Nat) : Int) = Int32.ofNat (sx_sl.getD x 0) ∧ zs_sl (1000000000 + (x + 1)) = ((sx_sl.getD x 0 : Nat) : Int) ∧ zi_shr ((sx_sl.getD x 0 : Nat) : Int) 0 = ((sx_sl.getD x 0 : Nat) : Int) ∧ sx_sl.getD x 0 ≤ 76 := by decide +kernel
theorem ss_chrI : ∀ x, x < 4 → ∀ k, k < sx_sl.getD x 0 → (sx_sb.getD x []).getD k 0 = Int32.ofInt (zs_sc (1000000000 + (x + 1)) ((k : Nat) : Int)) ∧ zi_and (zs_sc (1000000000 + (x + 1)) ((k : Nat) : Int)) 255 = zs_sc (1000000000 + (x + 1)) ((k : Nat) : Int) ∧ ((Int32.ofInt (zs_sc (1000000000 + (x + 1)) ((k : Nat) : Int))).toUInt32 % 65536).toInt32 = Int32.ofInt (zs_sc (1000000000 + (x + 1)) ((k : Nat) : Int)) := by decide +kernel
theorem ss_len {x pc' : Nat} (hx4 : x < 4) (hd : decode (sx_b j) pc = .ok (.arraylength, 1)) (hp : pc + 1 = pc') (kk : zi_W E d j pc' ls (zi_i ((sx_sl.getD x 0 : Nat) : Int) :: st) g R) : zi_W E d j pc ls (.ref (1000000000 + (x + 5)) :: st) g R := by
  intro m hm p e s mi args below meth c H locs cells slots KC KS A hx hb hml hr hlk hin hown hts hok hK hR hlo hfr hcl hsl
  subst hp
  have k2 : W p (sx_l E) e (sx_rm d KC KS) s mi args below meth c H locs cells slots _ (F0 mi (pc + 1) A (.int (Int32.ofInt ((sx_sl.getD x 0 : Nat) : Int)) :: st.map (sx_v E))) := kk m hm p e s mi args below meth c H locs cells slots KC KS A hx hb hml hr hlk hin hown hts hok hK hR hlo hfr hcl hsl
  rw [(ss_lenI x hx4).1] at k2
  obtain ⟨cell, h1, h2, h3, h4, h5, h6, h7⟩ := (hK.2.2.2.2.2.2.2.2.1.1 x hx4).2.2.2
  show W p (sx_l E) e (sx_rm d KC KS) s mi args below meth c H locs cells slots _ (F0 mi pc A (.ref (sx_ad E (1000000000 + (x + 5))) :: st.map (sx_v E)))
  rw [ss_ad (t := x + 5) rfl]
  exact W.alen (n := Int32.ofNat (sx_sl.getD x 0)) hx hb (ss_bel hR h7 h1) h2 h5 rfl rfl hd k2
theorem ss_ald {x pc' : Nat} {i : Int} (hx4 : x < 4) (hi : 0 ≤ i ∧ i < ((sx_sl.getD x 0 : Nat) : Int)) (hd : decode (sx_b j) pc = .ok (.baload, 1)) (hp : pc + 1 = pc') (kk : zi_W E d j pc' ls (zi_i (zs_sc (1000000000 + (x + 1)) i) :: st) g R) : zi_W E d j pc ls (zi_i i :: .ref (1000000000 + (x + 5)) :: st) g R := by
  intro m hm p e s mi args below meth c H locs cells slots KC KS A hx hb hml hr hlk hinn hown hts hok hK hR hlo hfr hcl hsl
  subst hp
  have l76 := (ss_lenI x hx4).2.2.2
  have ti : (Int32.ofInt i).toInt = i := zi_to ⟨by omega, by omega⟩
  have cl : (Int32.ofInt i).toNatClampNeg = i.toNat := by show (Int32.ofInt i).toInt.toNat = _; rw [ti]
  have ch := (ss_chrI x hx4 i.toNat (by omega)).1
  rw [show ((i.toNat : Nat) : Int) = i by omega] at ch
  have k2 : W p (sx_l E) e (sx_rm d KC KS) s mi args below meth c H locs cells slots _ (F0 mi (pc + 1) A (.int (Int32.ofInt (zs_sc (1000000000 + (x + 1)) i)) :: st.map (sx_v E))) := kk m hm p e s mi args below meth c H locs cells slots KC KS A hx hb hml hr hlk hinn hown hts hok hK hR hlo hfr hcl hsl
  obtain ⟨cell, h1, h2, h3, h4, h5, h6, h7⟩ := (hK.2.2.2.2.2.2.2.2.1.1 x hx4).2.2.2
  have hlt : (Int32.ofInt i).toNatClampNeg < sx_sl.getD x 0 := by rw [cl]; omega
  have hin' : ¬ (Int32.ofInt i < 0 ∨ cell.slots.size ≤ (Int32.ofInt i).toNatClampNeg) := by
    intro q
    rcases q with q | q
    · rw [Int32.lt_iff_toInt_lt, ti] at q
      have : (0 : Int32).toInt = 0 := rfl
      omega
    · omega
  show W p (sx_l E) e (sx_rm d KC KS) s mi args below meth c H locs cells slots _ (F0 mi pc A (.int (Int32.ofInt i) :: .ref (sx_ad E (1000000000 + (x + 5))) :: st.map (sx_v E)))
  rw [ss_ad (t := x + 5) rfl]
  exact W.bald (v := .int (Int32.ofInt (zs_sc (1000000000 + (x + 1)) i))) hx hb (ss_bel hR h7 h1) h2 h3 hin' (by rw [h6 _ hlt, cl]; show some (Value.int ((sx_sb.getD x []).getD i.toNat 0)) = _; rw [ch]) rfl rfl hd k2
theorem ss_i2c {v w : Int32} {pc' : Nat} (hd : decode (sx_b j) pc = .ok (.i2c, 1)) (hv : (v.toUInt32 % 65536).toInt32 = w) (hp : pc + 1 = pc') (kk : zi_W E d j pc' ls (.int w :: st) g R) : zi_W E d j pc ls (.int v :: st) g R := by
  intro m hm p e s mi args below meth c H locs cells slots KC KS A hx hb hml hr hlk hin hown hts hok hK hR hlo hfr hcl hsl
  subst hp
  exact lv_i2c hx hb hd hv (kk m hm p e s mi args below meth c H locs cells slots KC KS A hx hb hml hr hlk hin hown hts hok hK hR hlo hfr hcl hsl)
theorem ss_ret {n x y : Nat} {z : Int32} {Q : Int → zi_M → Prop} {ty : FieldType} {v : Int} (ht : sx_tab j pc = some (.ireturn, n, x, y, z)) (hrt : sx_rt j = some ty) (hn : narrow ty (zi_i v) = zi_i v) (hq : Q v g) : zi_W E d j pc ls [zi_i v] g (zi_Q Q) := by
  intro m hm p e s mi args below meth c H locs cells slots KC KS A hx hb hml hr hlk hin hown hts hok hK hR hlo hfr hcl hsl
  obtain ⟨h1, h2⟩ := hok _ _ ht
  have hn1 : n = 1 := Nat.eq_of_beq_eq_true h1
  subst hn1
  refine W.widen (k := KC) (n := KS) (by omega) (by omega) ?_
  exact W.zret (ty := ty) hx hb (hr.trans hrt) hn (fun t ht hW => ⟨some (zi_i v), m, rfl, ⟨v, g, rfl, hm, hq⟩, by rw [ht]; exact hR⟩) hfr h2 (hlocks := hlk)
/-- a call on a text -/
noncomputable def ss_cV (x k : Nat) (rest : List Value) : Bool := Nat.beq (sx_kd x) 1 && (Nat.ble (x + 1) 9996 && (Nat.beq k (sx_na x) && (Nat.beq (sx_oc x) 17 && Nat.ble (sx_cat rest) 8)))
theorem ss_callV {n x y xx k i d' : Nat} {z : Int32} {as : List Value} {Q' : Option Value → sx_M → Prop} {pc' : Nat} (ht : sx_tab j pc = some (.invokevirtual i, n, x, y, z)) (hp : pc + 3 = pc') (hc : ss_cV x as.length st = true) (hx4 : xx < 4) (hk : k = 1000000000 + (xx + 1)) (hd : d' < d) (hS : zi_S E d' x (.ref k :: as) g Q') (kk : ∀ v m', Q' v m' → sx_W E d 0 0 j pc' ls (v.toList ++ st) m' R) : zi_W E d j pc ls (as.reverse ++ .ref k :: st) g R := by
  intro m hm
  subst hp
  simp only [ss_cV, Bool.and_eq_true] at hc
  obtain ⟨c1, c2, c3, c4, c5⟩ := hc
  have hkd : sx_kd x = 1 := Nat.eq_of_beq_eq_true c1
  have hx9 : x < 9996 := Nat.le_of_ble_eq_true c2
  have hna : as.length = sx_na x := Nat.eq_of_beq_eq_true c3
  have hoc : sx_oc x = 17 := Nat.eq_of_beq_eq_true c4
  have hcat : (st.map fun v => v.category).sum ≤ 8 := by rw [sx_cat_eq]; exact Nat.le_of_ble_eq_true c5
  have hSm := hS m hm
  intro p e s mi args below meth c H locs cells slots KC KS A hx hb hml hr hlk hin hown hts hok hK hR hlo hfr hcl hsl
  obtain ⟨h1, h2⟩ := hok _ _ ht
  simp only [sx_okE, Bool.and_eq_true] at h1
  have hn : n = 3 := Nat.eq_of_beq_eq_true h1.1
  subst hn
  obtain ⟨q, hq⟩ := sx_any4 h1.2
  obtain ⟨⟨f1, f2, f3, f4, f5, f6, f7, f8, f9, f10⟩, hM⟩ := hSm
  have hyy : sx_yy x = sx_y x := by unfold sx_yy; rw [sx_beq_ne (by omega), sx_beq_ne (by omega), sx_beq_ne (by omega), sx_beq_ne (by omega)]; rfl
  have hlink : (Jvm.Cond.methodLink (sx_cn (sx_oc j)) i (sx_y x)).before args s = true := by rw [← hyy]; exact hts _ (sx_tb_mm (sx_ml_ok _ hq) rfl)
  have hcb : CallB (sx_rm d KC KS) s args (sx_cn (sx_oc j)) i (sx_y x) (sx_b x) (sx_L x) (sx_rt x) (sx_ws x) (sx_rm d' 0 0) 0 0 (sx_na x) := callB_of (sx_na x) hts (sx_good x f3) rfl rfl rfl (hts _ f4) hlink f5 ⟨by show 1628 + d' + 1 ≤ 1628 + d; omega, by show 8 + (sx_L x + 11) + 200 * d' ≤ 200 * d; omega⟩
  have ek : sx_v E (.ref k) = .ref (sx_ex E (xx + 1)) := by show Value.ref (sx_ad E k) = _; rw [ss_ad hk]
  have hstk : (as.reverse ++ .ref k :: st).map (sx_v E) = (as.map (sx_v E)).reverse ++ .ref (sx_ex E (xx + 1)) :: st.map (sx_v E) := by
    rw [List.map_append, List.map_reverse, List.map_cons, ek]
  have hrec : ∃ cellB : Cell, H[sx_ex E (xx + 1)]? = some cellB ∧ cellB.vm.isStatics = false ∧ s.vm.findClass (sx_cn (sx_oc x)) = some cellB.cls := by
    obtain ⟨cell, g1, g2, g3, g4⟩ := (hK.2.2.2.2.2.2.2.2.1.1 xx hx4).1
    refine ⟨cell, ss_bel hR g4 g1, g2, ?_⟩
    rw [hoc]
    exact g3
  have hrun := va_runV (S := ⟨hx, hb, hml, hown, hts⟩) (C := (sx_y x).cls) (g := F0 mi pc A ((as.reverse ++ .ref k :: st).map (sx_v E))) (As := as.map (sx_v E)) (rest := st.map (sx_v E)) (b := sx_ex E (xx + 1)) (e := e) (below := below) (meth := meth) (locs := locs) (cells := cells) (slots := slots) hM ⟨hcb, hts _ (f7 hkd).1, hts _ (f7 hkd).2⟩
    ⟨sx_blind, by rw [f2]; exact hrec, fun U hU hW => ⟨by rw [List.map_cons, ek], by rw [hU]; exact hR, hK.warm hW⟩⟩ rfl (by rw [List.length_map]; exact hna) hlo.1 hstk (by show 2 * 0 + _ ≤ 8; rw [sx_cat_map]; omega) h2 ⟨by show cells + 0 ≤ KC; omega, by show slots + 0 ≤ KS; omega⟩
  exact sx_behind hx hb hml hr hlk hin hown hts hok hK hlo hfr hcl hsl (Nat.le_refl _) (Nat.le_refl _) hrun kk
-- the JDK's methods
theorem ss_coder {x k : Nat} (hx4 : x < 4) (hk : k = 1000000000 + (x + 1)) {Q : Int → zi_M → Prop} (h : Q 0 g) : zi_S E d 65 [.ref k] g (zi_Q Q) := by
  refine zi_Sof jf_65 [some (.ref k)] rfl (And.intro rfl trivial) ?_
  refine ss_gst (pc' := 3) rfl (by decide +kernel) rfl ?_
  refine zi_if_eq (x := 13) (pc' := 6) rfl rfl (by decide) (fun c => absurd c (by decide)) (fun _ => ?_)
  refine zi_aload_n (pc' := 7) rfl rfl rfl ?_
  refine ss_cod (pc' := 10) hx4 hk rfl (by decide +kernel) rfl ?_
  refine zi_goto (x := 14) rfl ?_
  exact ss_ret (ty := .byte) rfl rfl rfl h
theorem ss_isLatin1 {x k : Nat} (hx4 : x < 4) (hk : k = 1000000000 + (x + 1)) {Q : Int → zi_M → Prop} (h : Q 1 g) : zi_S E d 67 [.ref k] g (zi_Qb Q) := by
  refine zi_Sof jf_67 [some (.ref k)] rfl (And.intro rfl trivial) ?_
  refine ss_gst (pc' := 3) rfl (by decide +kernel) rfl ?_
  refine zi_if_eq (x := 17) (pc' := 6) rfl rfl (by decide) (fun c => absurd c (by decide)) (fun _ => ?_)
  refine zi_aload_n (pc' := 7) rfl rfl rfl ?_
  refine ss_cod (pc' := 10) hx4 hk rfl (by decide +kernel) rfl ?_
  refine zi_if_ne (x := 17) (pc' := 13) rfl rfl (by decide) (fun c => absurd rfl c) (fun _ => ?_)
  refine zi_iconst (pc' := 14) rfl rfl ?_
  refine zi_goto (x := 18) rfl ?_
  exact zi_zret rfl rfl (Or.inr rfl) h
theorem ss_length {x k : Nat} (hx4 : x < 4) (hk : k = 1000000000 + (x + 1)) (hd : 2 ≤ d) {Q : Int → zi_M → Prop} (h : Q (sx_sl.getD x 0 : Nat) g) : zi_S E d 64 [.ref k] g (zi_Q Q) := by
  refine zi_Sof jf_64 [some (.ref k)] rfl (And.intro rfl trivial) ?_
  refine zi_aload_n (pc' := 1) rfl rfl rfl ?_
  refine ss_val (pc' := 4) hx4 hk rfl (by decide +kernel) rfl ?_
  refine ss_len (pc' := 5) hx4 (by decide +kernel) rfl ?_
  refine zi_aload_n (pc' := 6) rfl rfl rfl ?_
  refine ss_callV (d' := 1) (as := []) (pc' := 9) rfl rfl rfl hx4 hk (by omega) (ss_coder (Q := fun v g' => v = 0 ∧ g' = g) hx4 hk ⟨rfl, rfl⟩) (zi_ki (fun v g' h' => ?_))
  obtain ⟨rfl, rfl⟩ := h'
  refine zi_ishr (pc' := 10) rfl rfl ?_
  rw [(ss_lenI x hx4).2.2.1]
  exact zi_iret rfl rfl h
theorem ss_chk {i n : Int} {w : Value} (hw : w = .null ∨ ∃ q, w = .ref q) (hi : 0 ≤ i ∧ i < n) (hn : n ≤ 2147483647) {Q : Int → zi_M → Prop} (h : Q i g) : zi_S E d 70 [zi_i i, zi_i n, w] g (zi_Q Q) := by
  suffices h0 : zi_W E d 70 0 [some (zi_i i), some (zi_i n), some w] [] g (zi_Q Q) by
    rcases hw with rfl | ⟨q, rfl⟩
    · exact zi_Sof jf_70 [some (zi_i i), some (zi_i n), some .null] rfl (And.intro rfl (And.intro rfl (And.intro rfl trivial))) h0
    · exact zi_Sof jf_70 [some (zi_i i), some (zi_i n), some (.ref q)] rfl (And.intro rfl (And.intro rfl (And.intro rfl trivial))) h0
  refine zi_iload_n (pc' := 1) rfl rfl rfl ?_
  refine zi_if_lt (x := 9) (pc' := 4) rfl rfl ⟨by omega, by omega⟩ (fun c => by omega) (fun _ => ?_)
  refine zi_iload_n (pc' := 5) rfl rfl rfl ?_
  refine zi_iload_n (pc' := 6) rfl rfl rfl ?_
  refine zi_icmp_lt (x := 16) (pc' := 9) rfl rfl ⟨by omega, by omega⟩ ⟨by omega, by omega⟩ (fun _ => ?_) (fun c => by omega)
  refine zi_iload_n (pc' := 17) rfl rfl rfl ?_
  exact zi_iret rfl rfl h
theorem ss_chkS {i n : Int} (hi : 0 ≤ i ∧ i < n) (hn : n ≤ 2147483647) (hd : 2 ≤ d) {Q : Int → zi_M → Prop} (h : Q 0 g) : zi_S E d 69 [zi_i i, zi_i n] g (zi_Qv Q) := by
  refine zi_Sof jf_69 [some (zi_i i), some (zi_i n)] rfl (And.intro rfl (And.intro rfl trivial)) ?_
  refine zi_iload_n (pc' := 1) rfl rfl rfl ?_
  refine zi_iload_n (pc' := 2) rfl rfl rfl ?_
  refine ss_gsf (pc' := 5) rfl (by decide +kernel) rfl (fun w hw => ?_)
  refine zi_callS (d' := 1) (as := [_, _, _]) (pc' := 8) rfl rfl rfl (by omega) (ss_chk (Q := fun v g' => g' = g) hw hi hn rfl) (zi_ki (fun v g' h' => ?_))
  subst h'
  refine zi_pop (pc' := 9) rfl rfl rfl ?_
  exact zi_vret rfl rfl h
theorem ss_chrL {x : Nat} {i : Int} (hx4 : x < 4) (hi : 0 ≤ i ∧ i < ((sx_sl.getD x 0 : Nat) : Int)) (hd : 3 ≤ d) {Q : Int → zi_M → Prop} (h : Q (zs_sc (1000000000 + (x + 1)) i) g) : zi_S E d 68 [.ref (1000000000 + (x + 5)), zi_i i] g (zi_Q Q) := by
  have l76 := (ss_lenI x hx4).2.2.2
  obtain ⟨c1, c2, c3⟩ := ss_chrI x hx4 i.toNat (by omega)
  rw [show ((i.toNat : Nat) : Int) = i by omega] at c1 c2 c3
  refine zi_Sof jf_68 [some (.ref (1000000000 + (x + 5))), some (zi_i i)] rfl (And.intro rfl (And.intro rfl trivial)) ?_
  refine zi_iload_n (pc' := 1) rfl rfl rfl ?_
  refine zi_aload_n (pc' := 2) rfl rfl rfl ?_
  refine ss_len (pc' := 3) hx4 (by decide +kernel) rfl ?_
  refine zi_callS (d' := 2) (as := [_, _]) (pc' := 6) rfl rfl rfl (by omega) (ss_chkS (Q := fun _ g' => g' = g) hi (by omega) (Nat.le_refl _) rfl) (zi_kv (fun g' h' => ?_))
  subst h'
  refine zi_aload_n (pc' := 7) rfl rfl rfl ?_
  refine zi_iload_n (pc' := 8) rfl rfl rfl ?_
  refine ss_ald (pc' := 9) hx4 hi (by decide +kernel) rfl ?_
  refine zi_sipush (pc' := 12) rfl rfl (by decide) ?_
  refine zi_iand (pc' := 13) rfl rfl ?_
  rw [c2]
  refine ss_i2c (pc' := 14) (by decide +kernel) c3 rfl ?_
  exact ss_ret (ty := .char) rfl rfl (by show Value.int ((Int32.ofInt _).toUInt32 % 65536).toInt32 = _; rw [c3]) h
theorem ss_charAt {x k : Nat} {i : Int} (hx4 : x < 4) (hk : k = 1000000000 + (x + 1)) (hi : 0 ≤ i ∧ i < ((sx_sl.getD x 0 : Nat) : Int)) (hd : 4 ≤ d) {Q : Int → zi_M → Prop} (h : Q (zs_sc (1000000000 + (x + 1)) i) g) : zi_S E d 66 [.ref k, zi_i i] g (zi_Q Q) := by
  obtain ⟨c1, c2, c3⟩ := ss_chrI x hx4 i.toNat (by omega)
  rw [show ((i.toNat : Nat) : Int) = i by omega] at c1 c2 c3
  refine zi_Sof jf_66 [some (.ref k), some (zi_i i)] rfl (And.intro rfl (And.intro rfl trivial)) ?_
  refine zi_aload_n (pc' := 1) rfl rfl rfl ?_
  refine ss_callV (d' := 1) (as := []) (pc' := 4) rfl rfl rfl hx4 hk (by omega) (ss_isLatin1 (Q := fun v g' => v = 1 ∧ g' = g) hx4 hk ⟨rfl, rfl⟩) (zi_kb (fun v g' _ h' => ?_))
  obtain ⟨rfl, rfl⟩ := h'
  refine zi_if_eq (x := 16) (pc' := 7) rfl rfl (by decide) (fun c => absurd c (by decide)) (fun _ => ?_)
  refine zi_aload_n (pc' := 8) rfl rfl rfl ?_
  refine ss_val (pc' := 11) hx4 hk rfl (by decide +kernel) rfl ?_
  refine zi_iload_n (pc' := 12) rfl rfl rfl ?_
  refine zi_callS (d' := 3) (as := [_, _]) (pc' := 15) rfl rfl rfl (by omega) (ss_chrL (Q := fun v g'' => v = zs_sc (1000000000 + (x + 1)) i ∧ g'' = g') hx4 hi (Nat.le_refl _) ⟨rfl, rfl⟩) (zi_ki (fun v g'' h' => ?_))
  obtain ⟨rfl, rfl⟩ := h'
  exact ss_ret (ty := .char) rfl rfl (by show Value.int ((Int32.ofInt _).toUInt32 % 65536).toInt32 = _; rw [c3]) h
theorem zs_stx {r : Nat} (h : zs_str r) : ∃ x, x < 4 ∧ r = 1000000000 + (x + 1) := by
  rcases zs_stc h with h | h | h | h
  · exact ⟨0, by decide, h⟩
  · exact ⟨1, by decide, h⟩
  · exact ⟨2, by decide, h⟩
  · exact ⟨3, by decide, h⟩
theorem zi_slen {n y i r : Nat} {z : Int32} {pc' : Nat} (ht : sx_tab j pc = some (.invokevirtual i, n, 64, y, z)) (hp : pc + 3 = pc') (hr : zs_str r) (hd : 8 ≤ d) (hc : ss_cV 64 0 st = true) (k : zi_W E d j pc' ls (zi_i (zs_sl r) :: st) g R) : zi_W E d j pc ls (.ref r :: st) g R := by
  obtain ⟨x, hx4, hk⟩ := zs_stx hr
  refine ss_callV (d' := 2) (as := []) ht hp hc hx4 hk (by omega) (ss_length (Q := fun v g' => v = ((sx_sl.getD x 0 : Nat) : Int) ∧ g' = g) hx4 hk (Nat.le_refl _) ⟨rfl, rfl⟩) (zi_ki (fun v g' h' => ?_))
  obtain ⟨h1, h2⟩ := h'
  rw [h1, h2, ← (ss_lenI x hx4).2.1, ← hk]
  exact k
theorem zi_schr {n y i r : Nat} {q : Int} {z : Int32} {pc' : Nat} (ht : sx_tab j pc = some (.invokevirtual i, n, 66, y, z)) (hp : pc + 3 = pc') (hr : zs_str r) (hq : 0 ≤ q ∧ q < zs_sl r) (hd : 8 ≤ d) (hc : ss_cV 66 1 st = true) (k : zi_W E d j pc' ls (zi_i (zs_sc r q) :: st) g R) : zi_W E d j pc ls (zi_i q :: .ref r :: st) g R := by
  obtain ⟨x, hx4, hk⟩ := zs_stx hr
  have hq2 : 0 ≤ q ∧ q < ((sx_sl.getD x 0 : Nat) : Int) := by rw [← (ss_lenI x hx4).2.1, ← hk]; exact hq
  refine ss_callV (d' := 4) (as := [zi_i q]) ht hp hc hx4 hk (by omega) (ss_charAt (Q := fun v g' => v = zs_sc (1000000000 + (x + 1)) q ∧ g' = g) hx4 hk hq2 (Nat.le_refl _) ⟨rfl, rfl⟩) (zi_ki (fun v g' h' => ?_))
  obtain ⟨h1, h2⟩ := h'
  rw [h1, h2, ← hk]
  exact k
end
