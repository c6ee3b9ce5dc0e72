/-! THE CLAIM OUT OF ONE WALK OF THE LAW'S BODY. Your part is whole_start (and what it stands on); all else here is the same for every law, but numbers. -/
noncomputable def R_law : String := "SpoutNewsLaw"
noncomputable def lw_P (b : Addr) (xs : List Int32) (args : Array Value) (s : State) : Prop := args = #[.ref b] ∧ s.IntsAt b xs ∧ xs.length ≤ 3072 ∧ (Jvm.Cond.and given_1 narrow_1).before args s = true
noncomputable def lw_Q (_ : Array Value) (s : State) (o : Outcome) (t : State) : Prop := o = .returned (some (.int 1)) ∧ Framed s o t [] 600000 7302250
noncomputable def lw_Z (below : List Frame) (a : Array Value) (s : State) : State → Prop := fun t => ∃ o, t.status = .running ∧ Ended t below o ∧ lw_Q a s o t
/-- the law's own end, with 1 on the stack, nothing written that was there before, its room as the claim has it -/
theorem lw_ret {p : Program} {l : Launch} {e : Env} {s : State} {m : MethodId} {below : List Frame} {meth : Method} {c : Code} {b : Nat} (hx : p.tables.exec = Jvm.exec) (hb : c.code = code) (hr : meth.sig.returnType = ret) (hlocks : meth.locks = false) {pc : Nat} {H : Heap} {ls : Array Slot} (hdg : decode code pc = .ok (.ireturn, 1)) : W p l e room_1 s m #[Value.ref b] below meth c H [] 600000 7302250 (lw_Z below #[Value.ref b] s) (F0 m pc ls [.int 1]) := by
  intro T hT X
  obtain ⟨fs, hret, hrun, hended, hW, hframe⟩ := X.leave (v := some (.int 1)) (hlocks := hlocks) (fun h => by rw [hr] at h; cases h)
  have hmeth' : T.vm.method? m = some meth := X.method'
  refine ⟨T.setFrames fs, ?_, .returned (some (.int 1)), hrun, hended, rfl, ⟨_, rfl⟩, hW, hframe⟩
  jvm_step X.here [X.here.top, hx, hb, hdg, hmeth', hr, ret, narrow_b1]
  (try refine ⟨rfl, ?_⟩); (try refine ⟨rfl, ?_⟩)
  first | (intro acts; rw [hret _ acts rfl rfl rfl]) | rw [hret _ _ rfl rfl rfl]
  exact Steps.refl _
/-- what holds at the law's entry: the machine, the code, the tables' words (any of lw_tbl by 'hts w (by decide +kernel)'), the script of L ints xs at the cell b, what the Statement gives of the start (any of its parts by flat_of_before) -/
noncomputable def lw_At (p : Program) (s : State) (m : MethodId) (meth : Method) (c : Code) (b L : Nat) (xs : Nat → Int32) : Prop :=
  p.tables.exec = Jvm.exec ∧ c.code = code ∧ meth.sig.returnType = ret ∧ c.maxLocals = 4 ∧ s.vm.findClass R_law = some m.cls ∧ (∀ w ∈ lw_tbl, w.before #[Value.ref b] s = true) ∧ va_X b L xs s s.heap ∧ b < s.heap.size ∧ meth.locks = false ∧ (Jvm.Cond.and given_1 narrow_1).before #[Value.ref b] s = true
-- ===== YOUR PART BEGINS =====
theorem a0_mono {p : Program} {l : Launch} {e : Env} {R : Room} {s : State} {m : MethodId} {args : Array Value} {below : List Frame} {meth : Method} {c : Code} {H : Heap} {locs : List Loc} {cells slots : Nat} {Q Q' : State → Prop} {g : JFrame} (h : ∀ t, Q t → Q' t) (k : W p l e R s m args below meth c H locs cells slots Q g) : W p l e R s m args below meth c H locs cells slots Q' g := by
  intro T hT X
  obtain ⟨t, a, b⟩ := k T hT X
  exact ⟨t, a, h t b⟩
theorem a0_K {s : State} {args : Array Value} (hts : ∀ w ∈ sx_tb, w.before args s = true) : ∃ D : va_G, ∀ (k : Nat) (q : vw_C), sx_cl[k]? = some q → u_Kn s q.1 q.2.1 q.2.2 (D.1 k) (D.2 k) := by
  have h : ∀ c, c < 13 → ∃ (cc : ClassId) (iS : Nat → Nat), u_Kn s (sx_cn c) (sx_T c) (sx_N c) cc iS := fun c hc => u_known (C := sx_cn c) (T := sx_T c) (N := sx_N c) (n := sx_N c) hts (sx_in c hc) (hts _ (sx_tb_in _ (sx_ip_ok c hc).1 rfl))
  have h2 : ∀ c : Nat, ∃ p : ClassId × (Nat → Nat), c < 13 → u_Kn s (sx_cn c) (sx_T c) (sx_N c) p.1 p.2 := fun c => by
    by_cases hc : c < 13
    · obtain ⟨a, b, h3⟩ := h c hc
      exact ⟨(a, b), fun _ => h3⟩
    · exact ⟨(0, fun _ => 0), fun g => absurd g hc⟩
  obtain ⟨f, hf⟩ := Classical.axiomOfChoice h2
  refine ⟨(fun k => (f k).1, fun k => (f k).2), fun k q hq => ?_⟩
  have hk : k < 13 := (List.getElem?_eq_some_iff.mp hq).1
  have e := sx_cl_at k hk
  rw [e] at hq
  cases hq
  exact hf k hk
theorem a0_ov : (Jvm.Cond.arrayOver (.object "SpoutNews$World")) ∈ lw_tbl := by decide +kernel
noncomputable def a0_tm (i : Nat) : Jvm.Term := .string "SpoutNews" (([171, 194, 207, 219] : List Nat).getD i 0)
noncomputable def a0_tx (i : Nat) : String := (["hears jet slip when or and not stone side lean mouth rain heard dry word day", "spout into", "day rain", "seat rise jar mend lead open tell on at"] : List String).getD i ""
theorem a0_s1 : ∀ i, i < 4 → (Jvm.Cond.exactly (a0_tm i) "java/lang/String") ∈ flatC (Jvm.Cond.and given_1 narrow_1) := by decide +kernel
theorem a0_s2 : ∀ i, i < 4 → (Jvm.Cond.eq (.field (a0_tm i) "java/lang/String" "coder" "B") (.int 0)) ∈ flatC (Jvm.Cond.and given_1 narrow_1) := by decide +kernel
theorem a0_s3 : ∀ i, i < 4 → (Jvm.Cond.arrayOf (.field (a0_tm i) "java/lang/String" "value" "[B") .byte) ∈ flatC (Jvm.Cond.and given_1 narrow_1) := by decide +kernel
theorem a0_s4 : ∀ i, i < 4 → (Jvm.Cond.eq (.length (.field (a0_tm i) "java/lang/String" "value" "[B")) (.int (Int32.ofNat (sx_sl.getD i 0)))) ∈ flatC (Jvm.Cond.and given_1 narrow_1) := by decide +kernel
theorem a0_s5 : ∀ i, i < 4 → ∀ j, j < sx_sl.getD i 0 → (Jvm.Cond.eq (.elem (.field (a0_tm i) "java/lang/String" "value" "[B") (.int (Int32.ofNat j))) (.int ((sx_sb.getD i []).getD j 0))) ∈ flatC (Jvm.Cond.and given_1 narrow_1) := by decide +kernel
theorem a0_s6 : ∀ i, i < 4 → ∀ j, j < 4 → i ≠ j → (Jvm.Cond.not (Jvm.Cond.eq (a0_tm i) (a0_tm j))) ∈ flatC (Jvm.Cond.and given_1 narrow_1) ∨ (Jvm.Cond.not (Jvm.Cond.eq (a0_tm j) (a0_tm i))) ∈ flatC (Jvm.Cond.and given_1 narrow_1) := by decide +kernel
theorem a0_s7 : ∀ i, i < 4 → (Jvm.Cond.stringRef "SpoutNews" (([171, 194, 207, 219] : List Nat).getD i 0) (a0_tx i)) ∈ lw_tbl := by decide +kernel
theorem a0_s8 : (Jvm.Cond.laysStatic "java/lang/String" "COMPACT_STRINGS" "Z") ∈ lw_tbl ∧ (Jvm.Cond.initialized "java/lang/String") ∈ lw_tbl ∧ (Jvm.Cond.laysStatic "jdk/internal/util/Preconditions" "SIOOBE_FORMATTER" "Ljava/util/function/BiFunction;") ∈ lw_tbl ∧ (Jvm.Cond.initialized "jdk/internal/util/Preconditions") ∈ lw_tbl := by decide +kernel
theorem a0_s9 : (Jvm.Cond.eq (.static "java/lang/String" "COMPACT_STRINGS" "Z") (.int 1)) ∈ flatC (Jvm.Cond.and given_1 narrow_1) ∧ (Jvm.Cond.isRef (.static "jdk/internal/util/Preconditions" "SIOOBE_FORMATTER" "Ljava/util/function/BiFunction;")) ∈ flatC (Jvm.Cond.and given_1 narrow_1) := by decide +kernel
theorem a0_sl : ∀ i, i < 4 → sx_sl.getD i 0 < 2 ^ 31 := by decide +kernel
theorem a0_room : sx_rm 420 600000 7302250 = room_1 := by decide
set_option maxHeartbeats 4000000 in
set_option maxRecDepth 100000 in
theorem whole_start {p : Program} {e : Env} {s : State} {m : MethodId} {below : List Frame} {meth : Method} {c : Code} (l : Launch) {b L : Nat} {xs : Nat → Int32} (hL : L ≤ 3072) (C0 : lw_At p s m meth c b L xs) : W p l e room_1 s m #[Value.ref b] below meth c s.heap [] 0 0 (lw_Z below #[Value.ref b] s) (entryFrame m ([Value.ref b] : List Value).toArray 4) := by
  obtain ⟨hx, hb, hr, hml, hown, htl, hX, hbl, hlocks, hgv⟩ := id C0
  have hts : ∀ w ∈ sx_tb, w.before #[Value.ref b] s = true := fun w hw => htl w (List.mem_filter.mp hw).1
  obtain ⟨D, hKc⟩ := a0_K hts
  have hfl := flat_of_before _ hgv
  obtain ⟨cI, kI, cpI, i1, i2, i3⟩ := Cond.arrayClass_spec (hts _ (sx_tb_in _ sx_int_ok rfl))
  have hov : va_AO "SpoutNews$World" s := va_AO.of (htl _ a0_ov)
  obtain ⟨cpW, cW, kW, w1, w2, w3, w4, w5⟩ := Cond.arrayOver_spec (htl _ a0_ov)
  have hA : ∀ a : Nat, a < s.heap.size → ¬ s.heap.size ≤ a := fun a h => Nat.not_le.mpr h
  obtain ⟨aK, aV, hS, hev⟩ := vk_Sof (args := #[Value.ref b]) (s := s) (N := 4) (tm := a0_tm) (len := sx_sl) (byt := sx_sb) (A := fun a => s.heap.size ≤ a) a0_sl (fun i hi => hfl _ (a0_s1 i hi)) (fun i hi => hfl _ (a0_s2 i hi)) (fun i hi => hfl _ (a0_s3 i hi)) (fun i hi => hfl _ (a0_s4 i hi)) (fun i hi j hj => hfl _ (a0_s5 i hi j hj)) (fun i j hi hj hij => (a0_s6 i hi j hj hij).imp (fun h => hfl _ h) (fun h => hfl _ h)) hA
  have hR4 : ∀ i, i < 4 → vk_R "SpoutNews" (([171, 194, 207, 219] : List Nat).getD i 0) (a0_tx i) (aK i) s := fun i hi => vk_R.of (htl _ (a0_s7 i hi)) (hev i hi)
  have hZ1 := va_Zof (A := fun a => s.heap.size ≤ a) (htl _ a0_s8.1) (htl _ a0_s8.2.1) (va_eqt (hfl _ a0_s9.1)) hA
  have hZ2 := va_Zqof (A := fun a => s.heap.size ≤ a) (htl _ a0_s8.2.2.1) (htl _ a0_s8.2.2.2) (hfl _ a0_s9.2) hA
  have hZ3 : ∃ t : Nat, va_Z "jdk/internal/util/Preconditions" "SIOOBE_FORMATTER" "Ljava/util/function/BiFunction;" .null (fun a => s.heap.size ≤ a) s s.heap ∨ va_Z "jdk/internal/util/Preconditions" "SIOOBE_FORMATTER" "Ljava/util/function/BiFunction;" (.ref t) (fun a => s.heap.size ≤ a) s s.heap := by
    rcases hZ2 with h | ⟨t, h⟩
    · exact ⟨0, Or.inl h⟩
    · exact ⟨t, Or.inr h⟩
  obtain ⟨tz, hZ4⟩ := hZ3
  let ex : Nat → Nat := fun k => if k = 0 then b else if k < 5 then aK (k - 1) else if k < 9 then aV (k - 5) else tz
  let E : sx_E := (l, D, cI, cW, s.heap, ex, L, xs)
  have hK : sx_K E s := by
    refine ⟨⟨hKc, fun k q hk => ?_⟩, hov, hX, hbl, hR4 0 (by decide), hR4 1 (by decide), hR4 2 (by decide), hR4 3 (by decide), ?_⟩
    · match k, hk with
      | 0, hk =>
        cases hk
        exact ⟨fun n z => ⟨(fun k h => by cases h), kI, i2, cpI, i3⟩, i1⟩
      | 1, hk =>
        cases hk
        exact ⟨fun n z => ⟨(fun k h => by cases h), kW, w3, cpW, w4⟩, kW, cpW, w3, w4, w1, w5⟩
      | k + 2, hk => simp at hk
    · refine ⟨⟨fun i hi => ?_, fun i j hi hj h => ?_⟩, hZ1, hZ4⟩
      · have e1 : sx_ex E (i + 1) = aK i := by
          show (if i + 1 = 0 then b else if i + 1 < 5 then aK (i + 1 - 1) else if i + 1 < 9 then aV (i + 1 - 5) else tz) = aK i
          rw [if_neg (by omega), if_pos (by omega), Nat.add_sub_cancel]
        have e2 : sx_ex E (i + 5) = aV i := by
          show (if i + 5 = 0 then b else if i + 5 < 5 then aK (i + 5 - 1) else if i + 5 < 9 then aV (i + 5 - 5) else tz) = aV i
          rw [if_neg (by omega), if_neg (by omega), if_pos (by omega), Nat.add_sub_cancel]
        have h9 := hS.1 i hi
        rw [← e1, ← e2] at h9
        exact h9
      · have e1 : ∀ i, i < 4 → sx_ex E (i + 1) = aK i := fun i hi => by
          show (if i + 1 = 0 then b else if i + 1 < 5 then aK (i + 1 - 1) else if i + 1 < 9 then aV (i + 1 - 5) else tz) = aK i
          rw [if_neg (by omega), if_pos (by omega), Nat.add_sub_cancel]
        have h8 : sx_ex E (i + 1) = sx_ex E (j + 1) := h
        rw [e1 i hi, e1 j hj] at h8
        exact hS.2 i j hi hj h8
  have hR : sx_R E (0, fun _ => none, fun _ _ => 0, fun _ _ => none) s.heap := ⟨rfl, by decide, fun q _ => rfl, fun i kd h => by cases h⟩
  have hl2 := lv_entry [Value.ref b] (n := 4) (Nat.le_of_ble_eq_true rfl)
  rw [lg_entry_eq]
  generalize (lg_sl ([Value.ref b]) ++ List.replicate (4 - (lg_sl ([Value.ref b])).length) Slot.unset).toArray = A at hl2 ⊢
  have hlo : sx_lo E A 4 [some (.ref 1000000000), none, none, none] := by
    refine ⟨hl2.1, hl2.2.1, by decide, fun i v hv => ?_⟩
    match i, hv with
    | 0, hv =>
      cases hv
      exact hl2.2.2 (0, .ref b) List.mem_cons_self
    | 1, hv => cases hv
    | 2, hv => cases hv
    | 3, hv => cases hv
    | i + 4, hv => cases hv
  have hW := zw_run (E := E) hL p e s m #[Value.ref b] below meth c s.heap [] 0 0 600000 7302250 A hx hb hml hr hlocks (fun h => absurd h (by decide)) hown hts jo_326 hK hR hlo (fun q hq => by cases hq) (by omega) (by omega)
  rw [a0_room] at hW
  refine a0_mono (fun t ht => ?_) hW
  obtain ⟨o, h1, h2, ⟨v, m', h3, h4, -⟩, Ls, hF, hfr⟩ := ht
  obtain ⟨r, g, e1, -, -, e2⟩ := h4
  have h5 : o = .returned (some (.int 1)) := by rw [h3, e1, e2]; rfl
  refine ⟨o, h1, h2, h5, hF.1, hF.2.1, hF.2.2.weaken (fun y hy hlt => ?_) (Nat.le_refl _) (Nat.le_refl _)⟩
  exact absurd hlt (Nat.not_lt.mpr (hfr y hy))

-- ===== YOUR PART ENDS =====
set_option maxHeartbeats 4000000 in
theorem lw_walk (l : Launch) (b : Addr) (xs : List Int32) : MetFree l x (headSpec (Jvm.Cond.code x code maxLocals ret :: tables_1) room_1) (lw_P b xs) (fun _ _ _ _ _ => True) lw_Q := by
  refine MetFree.of_bodyS (code := code) (maxLocals := maxLocals) (ret := ret) (by decide) ?_ ?_
  · intro args s m h hn
    obtain ⟨meth, c, h1, h2, h3, h4, h5, h6, -, -⟩ := Cond.code_spec hn (atoms_spec (ws := Jvm.Cond.code x code maxLocals ret :: tables_1) h _ List.mem_cons_self)
    exact ⟨meth, c, h1, h2, h3, h4, h5, h6⟩
  · intro p e s m args below meth c s₁ B hml0 hP _
    obtain ⟨rfl, hx, hbd, hgv⟩ := hP
    obtain ⟨scr, harrAt, hlist, hof, hsmall⟩ := hx
    obtain ⟨hcb, hkn, -, -⟩ := State.arrayAt?_spec harrAt
    have hown : s.vm.findClass R_law = some m.cls := findClass_of_methodNamed B.named
    have hts0 : ∀ c ∈ (Jvm.Cond.code x code maxLocals ret :: tables_1), c.before #[Value.ref b] s = true := atoms_spec (ws := Jvm.Cond.code x code maxLocals ret :: tables_1) B.pre
    have hts : ∀ w ∈ lw_tbl, w.before #[Value.ref b] s = true := k2_hts_sels lw_privs (fun w hw => hts0 w (List.mem_cons_of_mem _ hw)) lw_privs_ok
    have hml : c.maxLocals = 4 := B.maxLocals_eq (hts0 _ List.mem_cons_self)
    have X₀ : Stand p l e room_1 s m #[Value.ref b] below meth c s₁ [] 0 0 := Stand.of_body B
    have hh0 : s₁.heap = s.heap := by rw [B.state]; rfl
    have hsz : scr.slots.size = xs.length := by rw [← Array.length_toList, hlist, List.length_map]
    have hval : ∀ j : Nat, j < xs.length → scr.slots[j]? = some (.int (xs.getD j 0)) := fun j hj => by
      rw [← Array.getElem?_toList, hlist]
      simp [hj]
    have hbl : b < s.heap.size := (Array.getElem?_eq_some_iff.mp hcb).1
    have hX : va_X b xs.length (fun j => xs.getD j 0) s s.heap := ⟨scr, hcb, hof, hkn, hsz, hval⟩
    have K : W p l e room_1 s m #[Value.ref b] below meth c s₁.heap [] 0 0 (lw_Z below #[Value.ref b] s) (entryFrame m ([Value.ref b] : List Value).toArray 4) := by
      rw [hh0]
      exact whole_start l hbd ⟨B.exec, B.bytes, B.returns, hml, hown, hts, hX, hbl, B.notSynchronized, hgv⟩
    obtain ⟨t, a1, o, b1, b2, b3⟩ := K s₁ rfl X₀
    exact ⟨t, o, a1, b1, b2, b3⟩
theorem lw_pre_spec {args : Array Value} {s : State} (h : (Jvm.Cond.and given_1 narrow_1).before args s = true) (hr : rest_1_c.before args s = true) : ∃ (b : Addr) (xs : List Int32), lw_P b xs args s := by
  have hs := flat_of_before _ h
  have hq := flat_of_before _ hr
  have hc : (Cond.count 1).before args s = true := hs _ (by decide +kernel)
  have harr : (Cond.arrayOf (.arg 0) .int).before args s = true := hs _ (by decide +kernel)
  have hle : (Cond.le (.length (.arg 0)) (.int 3072)).before args s = true := hs _ (by decide +kernel)
  have hlen : (Cond.isInt (.length (.arg 0))).before args s = true := hq _ (by decide +kernel)
  have hall : (Cond.all (.arg 0) (.isInt (.elem (.arg 0) (.index 0)))).before args s = true := hq _ (by decide +kernel)
  obtain ⟨b, xs, hb, hx⟩ := State.ints_of_pre rfl harr hlen hall
  have hsm : xs.length < 2 ^ 31 := hx.choose_spec.2.2.2
  have hev : (Term.length (.arg 0)).eval args s none [] s = some (.int xs.length.toInt32) := hx.length_eval hb
  have hv := Cond.le_ints hev (show (Term.int 3072).eval args s none [] s = some (.int 3072) from rfl)
  have hd : xs.length.toInt32 ≤ 3072 := by
    simpa [Cond.before, Cond.holds, hv] using hle
  have hN : xs.length ≤ 3072 := (Int32.ofNat_le_ofNat hsm (by decide)).mp (show Int32.ofNat xs.length ≤ Int32.ofNat 3072 from hd)
  exact ⟨b, xs, Cond.one_arg hc (show args[0]? = some (.ref b) from hb), hx, hN, h⟩
theorem lw_comes (l : Launch) : Comes l x (Jvm.Cond.code x code maxLocals ret :: tables_1) room_1 (fun tb e args s => Calls_1 tb e args s ∧ rest_1 tb e args s ∧ Pre_1 tb e args s)
    (fun _ _ args s o t => lw_Q args s o t) := by
  intro p e ha hc hk s m args below hf hfit hheap happ hpre
  obtain ⟨b, xs, hP⟩ := lw_pre_spec hpre.2.2 hpre.2.1
  obtain ⟨k, o, h1, h2, h3, hQ⟩ := lw_walk l b xs p e ha hc hk s m args below hf ((Spec.applies_iff_loose hf).mp happ).1 hP trivial
  exact ⟨k, o, h1, h2, h3, hQ⟩
theorem lw_frame {s t : State} {o : Outcome} {args : Array Value} (h : Framed s o t [] 600000 7302250) :
    Framed s o t (fieldLocs frame_1_writes args s ++ arrayLocs frame_1_arrays args s ++ staticLocs frame_1_statics s) 600000 7302250 := h
theorem lw_limb (L : Cond) (hL : ∀ (args : Array Value) (s t : State), L.after args s (.returned (some (.int 1))) t = true) :
    ArmFor flags0 classFile x code maxLocals ret World_1 tables_1 room_1 Calls_1 rest_1 Pre_1
      (fun tb e a s o t => postC L tb e a s o t ∧ Framed s o t (fieldLocs frame_1_writes a s ++ arrayLocs frame_1_arrays a s ++ staticLocs frame_1_statics s) 600000 7302250) := by
  intro l _ _ _ p e ha hc hk s m args below hf hfit hheap happ hpre
  obtain ⟨k, o, h1, h2, h3, rfl, hF⟩ := lw_comes l p e ha hc hk s m args below hf hfit hheap happ hpre
  exact ⟨k, _, h1, h2, h3, hL args s _, lw_frame hF⟩
theorem i_vc : Claimed_1_1 ∧ Claimed_1_2 := ⟨lw_limb limb_1_1 (fun args s t => by simp [limb_1_1, Cond.after, Cond.holds, Cond.value]), lw_limb limb_1_2 (fun args s t => Cond.after_iff.mpr (by
  first | (rw [show limb_1_2 = Cond.eq .result (.int 1) from rfl, Cond.eq_ints (x := 1) (y := 1) rfl rfl]; simp; done) | (simp [limb_1_2, Cond.value, Term.eval]; done)))⟩
