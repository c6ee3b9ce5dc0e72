/-! THE CLAIM OUT OF ONE WALK OF THE LAW'S BODY. Your part is whole_start (and what it stands on); all else here is the same for every law, but numbers. -/
def R_law : String := "SpoutNewsLaw"
def lw_P (b : Addr) (xs : List Int32) (args : Array Value) (s : State) : Prop := args = #[.ref b] ∧ s.IntsAt b xs ∧ xs.length ≤ 6 ∧ (Jvm.Cond.and given_1 narrow_1).before args s = true
def lw_Q (_ : Array Value) (s : State) (o : Outcome) (t : State) : Prop := o = .returned (some (.int 1)) ∧ Framed s o t [] 600000 7302250
def lw_Z (below : List Frame) (a : Array Value) (s : State) : State → Prop := fun t => ∃ o, t.status = .running ∧ Ended t below o ∧ lw_Q a s o t
/-- the law's own end, with 1 on the stack, nothing written that was there before, its room as the claim has it -/
theorem lw_ret {p : Program} {l : Launch} {e : Env} {s : State} {m : MethodId} {below : List Frame} {meth : Method} {c : Code} {b : Nat} (hx : p.tables.exec = Jvm.exec) (hb : c.code = code) (hr : meth.sig.returnType = ret) (hlocks : meth.locks = false) {pc : Nat} {H : Heap} {ls : Array Slot} (hdg : decode code pc = .ok (.ireturn, 1)) : W p l e room_1 s m #[Value.ref b] below meth c H [] 600000 7302250 (lw_Z below #[Value.ref b] s) (F0 m pc ls [.int 1]) := by
  intro T hT X
  obtain ⟨fs, hret, hrun, hended, hW, hframe⟩ := X.leave (v := some (.int 1)) (hlocks := hlocks) (fun h => by rw [hr] at h; cases h)
  have hmeth' : T.vm.method? m = some meth := X.method'
  refine ⟨T.setFrames fs, ?_, .returned (some (.int 1)), hrun, hended, rfl, ⟨_, rfl⟩, hW, hframe⟩
  jvm_step X.here [X.here.top, hx, hb, hdg, hmeth', hr, ret, narrow_b1]
  (try refine ⟨rfl, ?_⟩); (try refine ⟨rfl, ?_⟩)
  first | (intro acts; rw [hret _ acts rfl rfl rfl]) | rw [hret _ _ rfl rfl rfl]
  exact Steps.refl _
/-- what holds at the law's entry: the machine, the code, the tables' words (any of lw_tbl by 'hts w (by decide +kernel)'), the script of L ints xs at the cell b, what the Statement gives of the start (any of its parts by flat_of_before) -/
def lw_At (p : Program) (s : State) (m : MethodId) (meth : Method) (c : Code) (b L : Nat) (xs : Nat → Int32) : Prop :=
  p.tables.exec = Jvm.exec ∧ c.code = code ∧ meth.sig.returnType = ret ∧ c.maxLocals = 4 ∧ s.vm.findClass R_law = some m.cls ∧ (∀ w ∈ lw_tbl, w.before #[Value.ref b] s = true) ∧ va_X b L xs s s.heap ∧ b < s.heap.size ∧ meth.locks = false ∧ (Jvm.Cond.and given_1 narrow_1).before #[Value.ref b] s = true
-- ===== YOUR PART BEGINS =====
theorem a1_G0 {E : sx_E} (hL : sx_Ln E = 6) : ax_G E (a0_B E) a0_Q (a0_at 200 (a0_all 6)) := ax_run2_ok (a0_XO hL) a0_nost _ _ a1_0 _ (List.mem_singleton.mpr rfl)
theorem a1_G1 {E : sx_E} (hL : sx_Ln E = 6) : ax_G E (a0_B E) a0_Q (a0_at 223 (a0_all 6)) := ax_run2_ok (a0_XO hL) a0_nost _ _ a1_1 _ (List.mem_singleton.mpr rfl)
theorem a1_G2 {E : sx_E} (hL : sx_Ln E = 6) : ax_G E (a0_B E) a0_Q (a0_at 266 (a0_all 6)) := ax_run2_ok (a0_XO hL) a0_nost _ _ a1_2 _ (List.mem_singleton.mpr rfl)
theorem a1_G3 {E : sx_E} (hL : sx_Ln E = 6) : ax_G E (a0_B E) a0_Q (a0_at 289 (a0_all 6)) := ax_run2_ok (a0_XO hL) a0_nost _ _ a1_3 _ (List.mem_singleton.mpr rfl)
theorem a1_G4 {E : sx_E} (hL : sx_Ln E = 6) : ax_G E (a0_B E) a0_Q (a0_at 332 (a0_all 6)) := ax_run2_ok (a0_XO hL) a0_nost _ _ a1_4 _ (List.mem_singleton.mpr rfl)
theorem a1_G6 {E : sx_E} (hL : sx_Ln E = 6) : ax_G E (a0_B E) a0_Q (a0_at 398 (a0_all 6)) := ax_run2_ok (a0_XO hL) a0_nost _ _ a1_6 _ (List.mem_singleton.mpr rfl)
theorem a1_G7 {E : sx_E} (hL : sx_Ln E = 6) : ax_G E (a0_B E) a0_Q (a0_at 461 (a0_all 6)) := ax_run2_ok (a0_XO hL) a0_nost _ _ a1_7 _ (List.mem_singleton.mpr rfl)
theorem a1_G8 {E : sx_E} (hL : sx_Ln E = 6) : ax_G E (a0_B E) a0_Q (a0_at 484 (a0_all 6)) := ax_run2_ok (a0_XO hL) a0_nost _ _ a1_8 _ (List.mem_singleton.mpr rfl)
theorem a1_G9 {E : sx_E} (hL : sx_Ln E = 6) : ax_G E (a0_B E) a0_Q (a0_at 507 (a0_all 6)) := ax_run2_ok (a0_XO hL) a0_nost _ _ a1_9 _ (List.mem_singleton.mpr rfl)
theorem a1_G10 {E : sx_E} (hL : sx_Ln E = 6) : ax_G E (a0_B E) a0_Q (a0_at 530 (a0_all 6)) := ax_run2_ok (a0_XO hL) a0_nost _ _ a1_10 _ (List.mem_singleton.mpr rfl)
theorem a1_G11 {E : sx_E} (hL : sx_Ln E = 6) : ax_G E (a0_B E) a0_Q (a0_at 563 (a0_all 6)) := ax_run2_ok (a0_XO hL) a0_nost _ _ a1_11 _ (List.mem_singleton.mpr rfl)
theorem a1_G12 {E : sx_E} (hL : sx_Ln E = 6) : ax_G E (a0_B E) a0_Q (a0_at 596 (a0_all 6)) := ax_run2_ok (a0_XO hL) a0_nost _ _ a1_12 _ (List.mem_singleton.mpr rfl)
theorem a1_G13 {E : sx_E} (hL : sx_Ln E = 6) : ax_G E (a0_B E) a0_Q (a0_at 629 (a0_all 6)) := ax_run2_ok (a0_XO hL) a0_nost _ _ a1_13 _ (List.mem_singleton.mpr rfl)
theorem a1_G14 {E : sx_E} (hL : sx_Ln E = 6) : ax_G E (a0_B E) a0_Q (a0_at 652 (a0_all 6)) := ax_run2_ok (a0_XO hL) a0_nost _ _ a1_14 _ (List.mem_singleton.mpr rfl)
theorem a1_G16 {E : sx_E} (hL : sx_Ln E = 6) : ax_G E (a0_B E) a0_Q (a0_at 718 (a0_all 6)) := ax_run2_ok (a0_XO hL) a0_nost _ _ a1_16 _ (List.mem_singleton.mpr rfl)
theorem a1_G17 {E : sx_E} (hL : sx_Ln E = 6) : ax_G E (a0_B E) a0_Q (a0_at 751 (a0_all 6)) := ax_run2_ok (a0_XO hL) a0_nost _ _ a1_17 _ (List.mem_singleton.mpr rfl)
theorem a1_G18 {E : sx_E} (hL : sx_Ln E = 6) : ax_G E (a0_B E) a0_Q (a0_at 784 (a0_all 6)) := ax_run2_ok (a0_XO hL) a0_nost _ _ a1_18 _ (List.mem_singleton.mpr rfl)
theorem a1_G19 {E : sx_E} (hL : sx_Ln E = 6) : ax_G E (a0_B E) a0_Q (a0_at 807 (a0_all 6)) := ax_run2_ok (a0_XO hL) a0_nost _ _ a1_19 _ (List.mem_singleton.mpr rfl)
theorem a1_G21 {E : sx_E} (hL : sx_Ln E = 6) : ax_G E (a0_B E) a0_Q (a0_at 863 (a0_all 6)) := ax_run2_ok (a0_XO hL) a0_nost _ _ a1_21 _ (List.mem_singleton.mpr rfl)
theorem a1_G22 {E : sx_E} (hL : sx_Ln E = 6) : ax_G E (a0_B E) a0_Q (a0_at 896 (a0_all 6)) := ax_run2_ok (a0_XO hL) a0_nost _ _ a1_22 _ (List.mem_singleton.mpr rfl)
theorem a1_G23 {E : sx_E} (hL : sx_Ln E = 6) : ax_G E (a0_B E) a0_Q (a0_at 919 (a0_all 6)) := ax_run2_ok (a0_XO hL) a0_nost _ _ a1_23 _ (List.mem_singleton.mpr rfl)
theorem a1_G24 {E : sx_E} (hL : sx_Ln E = 6) : ax_G E (a0_B E) a0_Q (a0_at 952 (a0_all 6)) := ax_run2_ok (a0_XO hL) a0_nost _ _ a1_24 _ (List.mem_singleton.mpr rfl)
theorem a1_G25 {E : sx_E} (hL : sx_Ln E = 6) : ax_G E (a0_B E) a0_Q (a0_at 985 (a0_all 6)) := ax_run2_ok (a0_XO hL) a0_nost _ _ a1_25 _ (List.mem_singleton.mpr rfl)
theorem a1_G29 {E : sx_E} (hL : sx_Ln E = 6) : ax_G E (a0_B E) a0_Q (a0_at 1133 (a0_all 6)) := ax_run2_ok (a0_XO hL) a0_nost _ _ a1_29 _ (List.mem_singleton.mpr rfl)
theorem a1_G30 {E : sx_E} (hL : sx_Ln E = 6) : ax_G E (a0_B E) a0_Q (a0_at 1156 (a0_all 6)) := ax_run2_ok (a0_XO hL) a0_nost _ _ a1_30 _ (List.mem_singleton.mpr rfl)
theorem a1_G31 {E : sx_E} (hL : sx_Ln E = 6) : ax_G E (a0_B E) a0_Q (a0_at 1179 (a0_all 6)) := ax_run2_ok (a0_XO hL) a0_nost _ _ a1_31 _ (List.mem_singleton.mpr rfl)
theorem a1_G32 {E : sx_E} (hL : sx_Ln E = 6) : ax_G E (a0_B E) a0_Q (a0_at 1202 (a0_all 6)) := ax_run2_ok (a0_XO hL) a0_nost _ _ a1_32 _ (List.mem_singleton.mpr rfl)
theorem a1_G33 {E : sx_E} (hL : sx_Ln E = 6) : ax_G E (a0_B E) a0_Q (a0_at 1225 (a0_all 6)) := ax_run2_ok (a0_XO hL) a0_nost _ _ a1_33 _ (List.mem_singleton.mpr rfl)
theorem a1_G34 {E : sx_E} (hL : sx_Ln E = 6) : ax_G E (a0_B E) a0_Q (a0_at 1258 (a0_all 6)) := ax_run2_ok (a0_XO hL) a0_nost _ _ a1_34 _ (List.mem_singleton.mpr rfl)
theorem a1_G35 {E : sx_E} (hL : sx_Ln E = 6) : ax_G E (a0_B E) a0_Q (a0_at 1281 (a0_all 6)) := ax_run2_ok (a0_XO hL) a0_nost _ _ a1_35 _ (List.mem_singleton.mpr rfl)
theorem a1_G37 {E : sx_E} (hL : sx_Ln E = 6) : ax_G E (a0_B E) a0_Q (a0_at 1333 (a0_all 6)) := ax_run2_ok (a0_XO hL) a0_nost _ _ a1_37 _ (List.mem_singleton.mpr rfl)
theorem a1_Gd {E : sx_E} (hL : sx_Ln E = 6) : ax_G E (a0_B E) a0_Q (a0_at 1356 (a0_all 6)) := ax_run2_ok (a0_XO hL) a0_nost _ _ a1_df _ (List.mem_singleton.mpr rfl)
theorem a1_all {E : sx_E} (hL : sx_Ln E = 6) : ∀ t ∈ a0_tg, ax_G E (a0_B E) a0_Q (a0_at t (a0_all 6)) := List.forall_mem_cons.mpr ⟨a1_Gd hL, List.forall_mem_cons.mpr ⟨a1_G0 hL, List.forall_mem_cons.mpr ⟨a1_G1 hL, List.forall_mem_cons.mpr ⟨a1_G2 hL, List.forall_mem_cons.mpr ⟨a1_G3 hL, List.forall_mem_cons.mpr ⟨a1_G4 hL, List.forall_mem_cons.mpr ⟨a1_G5 hL, List.forall_mem_cons.mpr ⟨a1_G6 hL, List.forall_mem_cons.mpr ⟨a1_G7 hL, List.forall_mem_cons.mpr ⟨a1_G8 hL, List.forall_mem_cons.mpr ⟨a1_G9 hL, List.forall_mem_cons.mpr ⟨a1_G10 hL, List.forall_mem_cons.mpr ⟨a1_G11 hL, List.forall_mem_cons.mpr ⟨a1_G12 hL, List.forall_mem_cons.mpr ⟨a1_G13 hL, List.forall_mem_cons.mpr ⟨a1_G14 hL, List.forall_mem_cons.mpr ⟨a1_G15 hL, List.forall_mem_cons.mpr ⟨a1_G16 hL, List.forall_mem_cons.mpr ⟨a1_G17 hL, List.forall_mem_cons.mpr ⟨a1_G18 hL, List.forall_mem_cons.mpr ⟨a1_G19 hL, List.forall_mem_cons.mpr ⟨a1_G20 hL, List.forall_mem_cons.mpr ⟨a1_G21 hL, List.forall_mem_cons.mpr ⟨a1_G22 hL, List.forall_mem_cons.mpr ⟨a1_G23 hL, List.forall_mem_cons.mpr ⟨a1_G24 hL, List.forall_mem_cons.mpr ⟨a1_G25 hL, List.forall_mem_cons.mpr ⟨a1_G26 hL, List.forall_mem_cons.mpr ⟨a1_G27 hL, List.forall_mem_cons.mpr ⟨a1_G28 hL, List.forall_mem_cons.mpr ⟨a1_G29 hL, List.forall_mem_cons.mpr ⟨a1_G30 hL, List.forall_mem_cons.mpr ⟨a1_G31 hL, List.forall_mem_cons.mpr ⟨a1_G32 hL, List.forall_mem_cons.mpr ⟨a1_G33 hL, List.forall_mem_cons.mpr ⟨a1_G34 hL, List.forall_mem_cons.mpr ⟨a1_G35 hL, List.forall_mem_cons.mpr ⟨a1_G36 hL, List.forall_mem_cons.mpr ⟨a1_G37 hL, fun _ h => absurd h List.not_mem_nil⟩⟩⟩⟩⟩⟩⟩⟩⟩⟩⟩⟩⟩⟩⟩⟩⟩⟩⟩⟩⟩⟩⟩⟩⟩⟩⟩⟩⟩⟩⟩⟩⟩⟩⟩⟩⟩⟩⟩
theorem a0_good {E : sx_E} (L : Nat) (hL : sx_Ln E = L) (h6 : L ≤ 6) : ax_G E (a0_B E) a0_Q (a0_in (a0_all L)) := by
  rcases (show L = 0 ∨ L = 1 ∨ L = 2 ∨ L = 3 ∨ L = 4 ∨ L = 5 ∨ L = 6 by omega) with rfl | rfl | rfl | rfl | rfl | rfl | rfl
  · exact ax_run2_ok (a0_XO hL) a0_nost _ _ a0_len0 _ (List.mem_singleton.mpr rfl)
  · exact ax_run2_ok (a0_XO hL) a0_nost _ _ a0_len1 _ (List.mem_singleton.mpr rfl)
  · exact ax_run2_ok (a0_XO hL) a0_nost _ _ a0_len2 _ (List.mem_singleton.mpr rfl)
  · exact ax_run2_ok (a0_XO hL) a0_nost _ _ a0_len3 _ (List.mem_singleton.mpr rfl)
  · exact ax_run2_ok (a0_XO hL) a0_nost _ _ a0_len4 _ (List.mem_singleton.mpr rfl)
  · exact ax_run2_ok (a0_XO hL) a0_nost _ _ a0_len5 _ (List.mem_singleton.mpr rfl)
  · exact ax_run2_ok (a0_XO hL) (fun c hc => ax_cut_ok (ds := []) a0_lt (a0_bst (E := E)) (a0_head hL (a1_all hL)) hc) _ _ a0_cons6 _ (List.mem_singleton.mpr rfl)
theorem a0_sat {E : sx_E} {L : Nat} : ax_sat (fun k => (sx_xs E k).toInt) (a0_all L) := by
  intro v q h
  have e := List.eq_of_mem_replicate (List.mem_of_getElem? h)
  subst e
  exact ax_rng _
/-- the small machine runs the law to its end -/
theorem a0_run {E : sx_E} (h6 : sx_Ln E ≤ 6) : sx_W E 420 600000 7302250 326 0 [some (.ref 1000000000), none, none, none] [] (0, fun _ => none, fun _ _ => 0, fun _ _ => none) a0_Q :=
  a0_good (sx_Ln E) rfl h6 (fun k => (sx_xs E k).toInt) [some (.ref 1000000000), none, none, none] [] [] (0, fun _ => none, fun _ _ => 0, fun _ _ => none) (fun k _ => rfl) ⟨rfl, trivial⟩ trivial trivial ⟨rfl, (fun i kd h => by cases h), (fun i kd k q h => by cases h), (fun i kd k h => by cases h)⟩ a0_sat
theorem a0_mono {p : Program} {l : Launch} {e : Env} {R : Room} {s : State} {m : MethodId} {args : Array Value} {below : List Frame} {meth : Method} {c : Code} {H : Heap} {locs : List Loc} {cells slots : Nat} {Q Q' : State → Prop} {g : JFrame} (h : ∀ t, Q t → Q' t) (k : W p l e R s m args below meth c H locs cells slots Q g) : W p l e R s m args below meth c H locs cells slots Q' g := by
  intro T hT X
  obtain ⟨t, a, b⟩ := k T hT X
  exact ⟨t, a, h t b⟩
theorem a0_K {s : State} {args : Array Value} (hts : ∀ w ∈ sx_tb, w.before args s = true) : ∃ D : va_G, ∀ (k : Nat) (q : vw_C), sx_cl[k]? = some q → u_Kn s q.1 q.2.1 q.2.2 (D.1 k) (D.2 k) := by
  have h : ∀ c, c < 13 → ∃ (cc : ClassId) (iS : Nat → Nat), u_Kn s (sx_cn c) (sx_T c) (sx_N c) cc iS := fun c hc => u_known (C := sx_cn c) (T := sx_T c) (N := sx_N c) (n := sx_N c) hts (sx_in c hc) (hts _ (sx_tb_in _ (sx_ip_ok c hc).1 rfl))
  have h2 : ∀ c : Nat, ∃ p : ClassId × (Nat → Nat), c < 13 → u_Kn s (sx_cn c) (sx_T c) (sx_N c) p.1 p.2 := fun c => by
    by_cases hc : c < 13
    · obtain ⟨a, b, h3⟩ := h c hc
      exact ⟨(a, b), fun _ => h3⟩
    · exact ⟨(0, fun _ => 0), fun g => absurd g hc⟩
  obtain ⟨f, hf⟩ := Classical.axiomOfChoice h2
  refine ⟨(fun k => (f k).1, fun k => (f k).2), fun k q hq => ?_⟩
  have hk : k < 13 := (List.getElem?_eq_some_iff.mp hq).1
  have e := sx_cl_at k hk
  rw [e] at hq
  cases hq
  exact hf k hk
theorem a0_str {args : Array Value} {s : State} (hgv : (Jvm.Cond.and given_1 narrow_1).before args s = true) (htl : ∀ w ∈ lw_tbl, w.before args s = true) (k : Nat) (tx : String) (hx : (Jvm.Cond.exactly (Jvm.Term.string "SpoutNews" k) "java/lang/String").before args s = true) (hr : (Jvm.Cond.stringRef "SpoutNews" k tx) ∈ lw_tbl) : ∃ a, vk_R "SpoutNews" k tx a s := by
  obtain ⟨a, c, cA, kA, q1, -⟩ := Cond.exactly_spec (args := args) (first := s) (o := none) (s := s) (idx := []) hx
  exact ⟨a, vk_R.of (htl _ hr) q1⟩
theorem a0_sr0 : lw_tbl[852]? = some (.stringRef "SpoutNews" 171 "hears jet slip when or and not stone side lean mouth rain heard dry word day") := by decide +kernel
theorem a0_sr1 : lw_tbl[1036]? = some (.stringRef "SpoutNews" 194 "spout into") := by decide +kernel
theorem a0_sr2 : lw_tbl[1060]? = some (.stringRef "SpoutNews" 207 "day rain") := by decide +kernel
theorem a0_sr3 : lw_tbl[1073]? = some (.stringRef "SpoutNews" 219 "seat rise jar mend lead open tell on at") := by decide +kernel
theorem a0_ov : lw_tbl[494]? = some (.arrayOver (.object "SpoutNews$World")) := by decide +kernel
theorem a0_room : sx_rm 420 600000 7302250 = room_1 := by decide
set_option maxHeartbeats 4000000 in
set_option maxRecDepth 100000 in
theorem whole_start {p : Program} {e : Env} {s : State} {m : MethodId} {below : List Frame} {meth : Method} {c : Code} (l : Launch) {b L : Nat} {xs : Nat → Int32} (hL : L ≤ 6) (C0 : lw_At p s m meth c b L xs) : W p l e room_1 s m #[Value.ref b] below meth c s.heap [] 0 0 (lw_Z below #[Value.ref b] s) (entryFrame m ([Value.ref b] : List Value).toArray 4) := by
  obtain ⟨hx, hb, hr, hml, hown, htl, hX, hbl, hlocks, hgv⟩ := id C0
  have hts : ∀ w ∈ sx_tb, w.before #[Value.ref b] s = true := fun w hw => htl w (List.mem_filter.mp hw).1
  obtain ⟨D, hKc⟩ := a0_K hts
  have hfl := flat_of_before _ hgv
  obtain ⟨cI, kI, cpI, i1, i2, i3⟩ := Cond.arrayClass_spec (hts _ (sx_tb_in _ sx_int_ok rfl))
  have hov : va_AO "SpoutNews$World" s := va_AO.of (htl _ (List.mem_of_getElem? a0_ov))
  obtain ⟨cpW, cW, kW, w1, w2, w3, w4, w5⟩ := Cond.arrayOver_spec (htl _ (List.mem_of_getElem? a0_ov))
  obtain ⟨a1, r1⟩ := a0_str hgv htl 171 _ (hfl _ (by decide +kernel)) (List.mem_of_getElem? a0_sr0)
  obtain ⟨a2, r2⟩ := a0_str hgv htl 194 _ (hfl _ (by decide +kernel)) (List.mem_of_getElem? a0_sr1)
  obtain ⟨a3, r3⟩ := a0_str hgv htl 207 _ (hfl _ (by decide +kernel)) (List.mem_of_getElem? a0_sr2)
  obtain ⟨a4, r4⟩ := a0_str hgv htl 219 _ (hfl _ (by decide +kernel)) (List.mem_of_getElem? a0_sr3)
  let ex : Nat → Nat := fun k => if k = 0 then b else if k = 1 then a1 else if k = 2 then a2 else if k = 3 then a3 else a4
  let E : sx_E := (l, D, cI, cW, s.heap, ex, L, xs)
  have hK : sx_K E s := by
    refine ⟨⟨hKc, fun k q hk => ?_⟩, hov, hX, hbl, r1, r2, r3, r4⟩
    match k, hk with
    | 0, hk =>
      cases hk
      exact ⟨fun n z => ⟨(fun k h => by cases h), kI, i2, cpI, i3⟩, i1⟩
    | 1, hk =>
      cases hk
      exact ⟨fun n z => ⟨(fun k h => by cases h), kW, w3, cpW, w4⟩, kW, cpW, w3, w4, w1, w5⟩
    | k + 2, hk => simp at hk
  have hR : sx_R E (0, fun _ => none, fun _ _ => 0, fun _ _ => none) s.heap := ⟨rfl, by decide, fun q _ => rfl, fun i kd h => by cases h⟩
  have hl2 := lv_entry [Value.ref b] (n := 4) (Nat.le_of_ble_eq_true rfl)
  rw [lg_entry_eq]
  generalize (lg_sl ([Value.ref b]) ++ List.replicate (4 - (lg_sl ([Value.ref b])).length) Slot.unset).toArray = A at hl2 ⊢
  have hlo : sx_lo E A 4 [some (.ref 1000000000), none, none, none] := by
    refine ⟨hl2.1, hl2.2.1, by decide, fun i v hv => ?_⟩
    match i, hv with
    | 0, hv =>
      cases hv
      exact hl2.2.2 (0, .ref b) List.mem_cons_self
    | 1, hv => cases hv
    | 2, hv => cases hv
    | 3, hv => cases hv
    | i + 4, hv => cases hv
  have hW := a0_run (E := E) hL p e s m #[Value.ref b] below meth c s.heap [] 0 0 600000 7302250 A hx hb hml hr hlocks (fun h => absurd h (by decide)) hown hts jo_326 hK hR hlo (fun q hq => by cases hq) (by omega) (by omega)
  rw [a0_room] at hW
  refine a0_mono (fun t ht => ?_) hW
  obtain ⟨o, h1, h2, ⟨v, m', h3, h4, -⟩, Ls, hF, hfr⟩ := ht
  have h5 : o = .returned (some (.int 1)) := by rw [h3, show v = some (.int 1) from h4]; rfl
  refine ⟨o, h1, h2, h5, hF.1, hF.2.1, hF.2.2.weaken (fun y hy hlt => ?_) (Nat.le_refl _) (Nat.le_refl _)⟩
  exact absurd hlt (Nat.not_lt.mpr (hfr y hy))
-- ===== YOUR PART ENDS =====
set_option maxHeartbeats 4000000 in
theorem lw_walk (l : Launch) (b : Addr) (xs : List Int32) : MetFree l x (headSpec (Jvm.Cond.code x code maxLocals ret :: tables_1) room_1) (lw_P b xs) (fun _ _ _ _ _ => True) lw_Q := by
  refine MetFree.of_bodyS (code := code) (maxLocals := maxLocals) (ret := ret) (by decide) ?_ ?_
  · intro args s m h hn
    obtain ⟨meth, c, h1, h2, h3, h4, h5, h6, -, -⟩ := Cond.code_spec hn (atoms_spec (ws := Jvm.Cond.code x code maxLocals ret :: tables_1) h _ List.mem_cons_self)
    exact ⟨meth, c, h1, h2, h3, h4, h5, h6⟩
  · intro p e s m args below meth c s₁ B hml0 hP _
    obtain ⟨rfl, hx, hbd, hgv⟩ := hP
    obtain ⟨scr, harrAt, hlist, hof, hsmall⟩ := hx
    obtain ⟨hcb, hkn, -, -⟩ := State.arrayAt?_spec harrAt
    have hown : s.vm.findClass R_law = some m.cls := findClass_of_methodNamed B.named
    have hts0 : ∀ c ∈ (Jvm.Cond.code x code maxLocals ret :: tables_1), c.before #[Value.ref b] s = true := atoms_spec (ws := Jvm.Cond.code x code maxLocals ret :: tables_1) B.pre
    have hts : ∀ w ∈ lw_tbl, w.before #[Value.ref b] s = true := k2_hts_sels lw_privs (fun w hw => hts0 w (List.mem_cons_of_mem _ hw)) lw_privs_ok
    have hml : c.maxLocals = 4 := B.maxLocals_eq (hts0 _ List.mem_cons_self)
    have X₀ : Stand p l e room_1 s m #[Value.ref b] below meth c s₁ [] 0 0 := Stand.of_body B
    have hh0 : s₁.heap = s.heap := by rw [B.state]; rfl
    have hsz : scr.slots.size = xs.length := by rw [← Array.length_toList, hlist, List.length_map]
    have hval : ∀ j : Nat, j < xs.length → scr.slots[j]? = some (.int (xs.getD j 0)) := fun j hj => by
      rw [← Array.getElem?_toList, hlist]
      simp [hj]
    have hbl : b < s.heap.size := (Array.getElem?_eq_some_iff.mp hcb).1
    have hX : va_X b xs.length (fun j => xs.getD j 0) s s.heap := ⟨scr, hcb, hof, hkn, hsz, hval⟩
    have K : W p l e room_1 s m #[Value.ref b] below meth c s₁.heap [] 0 0 (lw_Z below #[Value.ref b] s) (entryFrame m ([Value.ref b] : List Value).toArray 4) := by
      rw [hh0]
      exact whole_start l hbd ⟨B.exec, B.bytes, B.returns, hml, hown, hts, hX, hbl, B.notSynchronized, hgv⟩
    obtain ⟨t, a1, o, b1, b2, b3⟩ := K s₁ rfl X₀
    exact ⟨t, o, a1, b1, b2, b3⟩
theorem lw_pre_spec {args : Array Value} {s : State} (h : (Jvm.Cond.and given_1 narrow_1).before args s = true) (hr : rest_1_c.before args s = true) : ∃ (b : Addr) (xs : List Int32), lw_P b xs args s := by
  have hs := flat_of_before _ h
  have hq := flat_of_before _ hr
  have hc : (Cond.count 1).before args s = true := hs _ (by decide +kernel)
  have harr : (Cond.arrayOf (.arg 0) .int).before args s = true := hs _ (by decide +kernel)
  have hle : (Cond.le (.length (.arg 0)) (.int 6)).before args s = true := hs _ (by decide +kernel)
  have hlen : (Cond.isInt (.length (.arg 0))).before args s = true := hq _ (by decide +kernel)
  have hall : (Cond.all (.arg 0) (.isInt (.elem (.arg 0) (.index 0)))).before args s = true := hq _ (by decide +kernel)
  obtain ⟨b, xs, hb, hx⟩ := State.ints_of_pre rfl harr hlen hall
  have hsm : xs.length < 2 ^ 31 := hx.choose_spec.2.2.2
  have hev : (Term.length (.arg 0)).eval args s none [] s = some (.int xs.length.toInt32) := hx.length_eval hb
  have hv := Cond.le_ints hev (show (Term.int 6).eval args s none [] s = some (.int 6) from rfl)
  have hd : xs.length.toInt32 ≤ 6 := by
    simpa [Cond.before, Cond.holds, hv] using hle
  have hN : xs.length ≤ 6 := (Int32.ofNat_le_ofNat hsm (by decide)).mp (show Int32.ofNat xs.length ≤ Int32.ofNat 6 from hd)
  exact ⟨b, xs, Cond.one_arg hc (show args[0]? = some (.ref b) from hb), hx, hN, h⟩
theorem lw_comes (l : Launch) : Comes l x (Jvm.Cond.code x code maxLocals ret :: tables_1) room_1 (fun tb e args s => Calls_1 tb e args s ∧ rest_1 tb e args s ∧ Pre_1 tb e args s)
    (fun _ _ args s o t => lw_Q args s o t) := by
  intro p e ha hc hk s m args below hf hfit hheap happ hpre
  obtain ⟨b, xs, hP⟩ := lw_pre_spec hpre.2.2 hpre.2.1
  obtain ⟨k, o, h1, h2, h3, hQ⟩ := lw_walk l b xs p e ha hc hk s m args below hf ((Spec.applies_iff_loose hf).mp happ).1 hP trivial
  exact ⟨k, o, h1, h2, h3, hQ⟩
theorem lw_frame {s t : State} {o : Outcome} {args : Array Value} (h : Framed s o t [] 600000 7302250) :
    Framed s o t (fieldLocs frame_1_writes args s ++ arrayLocs frame_1_arrays args s ++ staticLocs frame_1_statics s) 600000 7302250 := h
theorem lw_limb (L : Cond) (hL : ∀ (args : Array Value) (s t : State), L.after args s (.returned (some (.int 1))) t = true) :
    ArmFor flags0 classFile x code maxLocals ret World_1 tables_1 room_1 Calls_1 rest_1 Pre_1
      (fun tb e a s o t => postC L tb e a s o t ∧ Framed s o t (fieldLocs frame_1_writes a s ++ arrayLocs frame_1_arrays a s ++ staticLocs frame_1_statics s) 600000 7302250) := by
  intro l _ _ _ p e ha hc hk s m args below hf hfit hheap happ hpre
  obtain ⟨k, o, h1, h2, h3, rfl, hF⟩ := lw_comes l p e ha hc hk s m args below hf hfit hheap happ hpre
  exact ⟨k, _, h1, h2, h3, hL args s _, lw_frame hF⟩
theorem i_vc : Claimed_1_1 ∧ Claimed_1_2 := ⟨lw_limb limb_1_1 (fun args s t => by simp [limb_1_1, Cond.after, Cond.holds, Cond.value]), lw_limb limb_1_2 (fun args s t => Cond.after_iff.mpr (by
  first | (rw [show limb_1_2 = Cond.eq .result (.int 1) from rfl, Cond.eq_ints (x := 1) (y := 1) rfl rfl]; simp; done) | (simp [limb_1_2, Cond.value, Term.eval]; done)))⟩
