-- THE SMALL MACHINE: the world's cells as one memory of ints and one of references; what a method's run must do, said over them (sx_W, sx_S)
noncomputable def sx_oc (j : Nat) : Nat := (sx_m j).1
noncomputable def sx_y (j : Nat) : MethodName := (sx_m j).2.1
noncomputable def sx_b (j : Nat) : ByteArray := (sx_m j).2.2.1
noncomputable def sx_L (j : Nat) : Nat := (sx_m j).2.2.2.1
noncomputable def sx_rt (j : Nat) : Option FieldType := (sx_m j).2.2.2.2.1
noncomputable def sx_na (j : Nat) : Nat := (sx_m j).2.2.2.2.2.1
noncomputable def sx_kd (j : Nat) : Nat := (sx_m j).2.2.2.2.2.2.1
noncomputable def sx_ln (j : Nat) : Nat := (sx_m j).2.2.2.2.2.2.2.1
noncomputable def sx_tab (j pc : Nat) : Option sx_I := (sx_m j).2.2.2.2.2.2.2.2 pc
/-- launch, class numbers, class of int[], of World[], the heap at the start, addresses of what lies outside (0 the script, 1 to 4 the texts), the script's length and ints -/
abbrev sx_E : Type := Launch × va_G × ClassId × ClassId × Heap × (Nat → Nat) × Nat × (Nat → Int32)
abbrev sx_l (E : sx_E) : Launch := E.1
abbrev sx_D (E : sx_E) : va_G := E.2.1
abbrev sx_cI (E : sx_E) : ClassId := E.2.2.1
abbrev sx_cW (E : sx_E) : ClassId := E.2.2.2.1
abbrev sx_H0 (E : sx_E) : Heap := E.2.2.2.2.1
abbrev sx_ex (E : sx_E) : Nat → Nat := E.2.2.2.2.2.1
abbrev sx_Ln (E : sx_E) : Nat := E.2.2.2.2.2.2.1
abbrev sx_xs (E : sx_E) : Nat → Int32 := E.2.2.2.2.2.2.2
abbrev sx_B (E : sx_E) : Nat := (sx_H0 E).size
/-- how many cells; kinds and lengths of the cells; ints; references -/
abbrev sx_M : Type := Nat × (Nat → Option (Nat × Nat)) × (Nat → Nat → Int32) × (Nat → Nat → Option Nat)
noncomputable def sx_ad (E : sx_E) (k : Nat) : Nat := bif Nat.ble 1000000000 k then sx_ex E (k - 1000000000) else sx_B E + k
noncomputable def sx_v (E : sx_E) (v : Value) : Value := match v with
  | .ref k => .ref (sx_ad E k)
  | .int x => .int x
  | .long x => .long x
  | w => w
noncomputable def sx_rv (q : Option Nat) : Value := match q with
  | none => .null
  | some k => .ref k
noncomputable def sx_u1 {α : Type} (f : Nat → α) (i : Nat) (v : α) : Nat → α := fun i' => bif Nat.beq i' i then v else f i'
noncomputable def sx_up {α : Type} (f : Nat → Nat → α) (i k : Nat) (v : α) : Nat → Nat → α := fun i' => bif Nat.beq i' i then sx_u1 (f i') k v else f i'
noncomputable def sx_ua {α : Type} (f : Nat → Nat → α) (i : Nat) (a : Nat → α) : Nat → Nat → α := fun i' => bif Nat.beq i' i then a else f i'
noncomputable def sx_fv (E : sx_E) (ty : FieldType) (x : Int32) (q : Option Nat) : Value := match ty with
  | .int => .int x
  | .boolean => .int x
  | _ => va_rf (q.map (sx_ad E))
/-- a cell of the world, as the kit has it -/
noncomputable def sx_e (E : sx_E) (kd : Nat × Nat) (f : Nat → Int32) (r : Nat → Option Nat) : va_E :=
  if kd.1 < 13 then .inr (kd.1, (List.range kd.2).map fun k => sx_fv E (sx_ty kd.1 k) (f k) (r k))
  else if kd.1 = 13 then .inl (sx_cI E, kd.2, .inl f)
  else .inl (sx_cW E, kd.2, .inr (.inr (.inr (.inr (fun k => (r k).map (sx_ad E))))))
noncomputable def sx_R (E : sx_E) (m : sx_M) (H : Heap) : Prop :=
  H.size = sx_B E + m.1 ∧ m.1 ≤ 100000 ∧ (∀ q : Nat, q < sx_B E → H[q]? = (sx_H0 E)[q]?) ∧
  ∀ (i : Nat) (kd : Nat × Nat), m.2.1 i = some kd → i < m.1 ∧ (kd.1 < 13 → kd.2 = sx_N kd.1) ∧ va_at (sx_D E) sx_cl (sx_B E + i, sx_e E kd (m.2.2.1 i) (m.2.2.2 i)) H
noncomputable def sx_fr (E : sx_E) : Addr → Prop := fun q => sx_B E ≤ q
/-- the four texts' lengths and bytes -/
noncomputable def sx_sl : List Nat := [76, 10, 8, 39]
noncomputable def sx_sb : List (List Int32) := [[104, 101, 97, 114, 115, 32, 106, 101, 116, 32, 115, 108, 105, 112, 32, 119, 104, 101, 110, 32, 111, 114, 32, 97, 110, 100, 32, 110, 111, 116, 32, 115, 116, 111, 110, 101, 32, 115, 105, 100, 101, 32, 108, 101, 97, 110, 32, 109, 111, 117, 116, 104, 32, 114, 97, 105, 110, 32, 104, 101, 97, 114, 100, 32, 100, 114, 121, 32, 119, 111, 114, 100, 32, 100, 97, 121], [115, 112, 111, 117, 116, 32, 105, 110, 116, 111], [100, 97, 121, 32, 114, 97, 105, 110], [115, 101, 97, 116, 32, 114, 105, 115, 101, 32, 106, 97, 114, 32, 109, 101, 110, 100, 32, 108, 101, 97, 100, 32, 111, 112, 101, 110, 32, 116, 101, 108, 108, 32, 111, 110, 32, 97, 116]]
noncomputable def sx_KS (E : sx_E) (U : State) : Prop :=
  vk_S 4 sx_sl sx_sb (fun i => sx_ex E (i + 1)) (fun i => sx_ex E (i + 5)) (sx_fr E) U (sx_H0 E) ∧ va_Z "java/lang/String" "COMPACT_STRINGS" "Z" (.int 1) (sx_fr E) U (sx_H0 E) ∧
  (va_Z "jdk/internal/util/Preconditions" "SIOOBE_FORMATTER" "Ljava/util/function/BiFunction;" .null (sx_fr E) U (sx_H0 E) ∨ va_Z "jdk/internal/util/Preconditions" "SIOOBE_FORMATTER" "Ljava/util/function/BiFunction;" (.ref (sx_ex E 9)) (sx_fr E) U (sx_H0 E))
noncomputable def sx_K (E : sx_E) (U : State) : Prop :=
  va_K (sx_D E) sx_cl [(sx_cI E, .int), (sx_cW E, .object "SpoutNews$World")] U ∧ va_AO "SpoutNews$World" U ∧ va_X (sx_ex E 0) (sx_Ln E) (sx_xs E) U (sx_H0 E) ∧ sx_ex E 0 < sx_B E ∧
  vk_R "SpoutNews" 171 "hears jet slip when or and not stone side lean mouth rain heard dry word day" (sx_ex E 1) U ∧ vk_R "SpoutNews" 194 "spout into" (sx_ex E 2) U ∧ vk_R "SpoutNews" 207 "day rain" (sx_ex E 3) U ∧ vk_R "SpoutNews" 219 "seat rise jar mend lead open tell on at" (sx_ex E 4) U ∧ sx_KS E U
noncomputable def sx_rm (d kc ks : Nat) : Room := { frames := 1628 + d, cells := kc, slots := ks, locals := 200 * d }
noncomputable def sx_ws (j : Nat) : List Jvm.Cond := .code (sx_y j) (sx_b j) (sx_L j) (sx_rt j) :: sx_tb
noncomputable def sx_Pc (E : sx_E) (as : List Value) (m : sx_M) : Array Value → State → Prop := fun v U => v = (as.map (sx_v E)).toArray ∧ sx_R E m U.heap ∧ sx_K E U
noncomputable def sx_Qc (E : sx_E) (Q : Option Value → sx_M → Prop) : Array Value → State → Outcome → State → Prop := fun _ _ o t =>
  ∃ (v : Option Value) (m' : sx_M), o = .returned (v.map (sx_v E)) ∧ Q v m' ∧ sx_R E m' t.heap
/-- a local -/
noncomputable def sx_nth : List (Option Value) → Nat → Option Value
  | [], _ => none
  | a :: _, 0 => a
  | _ :: l, n + 1 => sx_nth l n
noncomputable def sx_two (a : Option Value) : Bool := match a with
  | some (.long _) => true
  | some (.double _) => true
  | _ => false
noncomputable def sx_put : List (Option Value) → Nat → Option Value → List (Option Value)
  | [], _, _ => []
  | _ :: l, 0, v => v :: l
  | a :: l, n + 1, v => (bif Nat.beq n 0 then (bif sx_two a then none else a) else a) :: sx_put l n v
/-- locals as far as they are known -/
noncomputable def sx_lo (E : sx_E) (A : Array Slot) (nL : Nat) (ls : List (Option Value)) : Prop :=
  A.size = nL ∧ lv_wf A ∧ ls.length ≤ nL ∧ ∀ (i : Nat) (v : Value), sx_nth ls i = some v → A[i]? = some (.val (sx_v E v))
-- what a table's row must be
noncomputable def sx_okE (j pc : Nat) (e : sx_I) : Bool := match e with
  | (.iconst c, n, _, _, z) => Nat.beq n 1 && decide (Int32.ofInt c = z)
  | (.bipush c, n, _, _, z) => Nat.beq n 2 && decide ((Int8.ofInt c).toInt32 = z)
  | (.sipush c, n, _, _, z) => Nat.beq n 3 && decide ((Int16.ofInt c).toInt32 = z)
  | (.ldc i, n, x, _, z) => Nat.beq n 2 && (bif Nat.beq x 0 then sx_ct.any (fun q => Nat.beq q.2.1 (sx_oc j) && (Nat.beq q.2.2.1 i && decide (q.2.2.2 = z))) else (Nat.beq (sx_oc j) 11 && ((Nat.beq x 1 && Nat.beq i 171) || ((Nat.beq x 2 && Nat.beq i 194) || ((Nat.beq x 3 && Nat.beq i 207) || (Nat.beq x 4 && Nat.beq i 219))))))
  | (.ldc_w i, n, _, _, z) => Nat.beq n 3 && sx_ct.any (fun q => Nat.beq q.2.1 (sx_oc j) && (Nat.beq q.2.2.1 i && decide (q.2.2.2 = z)))
  | (.ldc2_w i, n, x, _, _) => Nat.beq n 3 && sx_lg.any (fun q => Nat.beq q.2.1 (sx_oc j) && (Nat.beq q.2.2.1 i && Nat.beq q.2.2.2 x))
  | (.ifCond _ off, n, x, _, _) => Nat.beq n 3 && decide ((pc : Int) + off = (x : Int))
  | (.if_icmp _ off, n, x, _, _) => Nat.beq n 3 && decide ((pc : Int) + off = (x : Int))
  | (.goto off, n, x, _, _) => Nat.beq n 3 && decide ((pc : Int) + off = (x : Int))
  | (.getfield i, n, x, y, _) => Nat.beq n 3 && (Nat.ble (x + 1) 13 && (Nat.ble (y + 1) (sx_N x) && sx_fl.any (fun q => Nat.beq q.2.1 (sx_oc j) && (Nat.beq q.2.2.1 i && (Nat.beq q.2.2.2.1 x && Nat.beq q.2.2.2.2 y)))))
  | (.putfield i, n, x, y, _) => Nat.beq n 3 && (Nat.ble (x + 1) 13 && (Nat.ble (y + 1) (sx_N x) && (sx_fl.any (fun q => Nat.beq q.2.1 (sx_oc j) && (Nat.beq q.2.2.1 i && (Nat.beq q.2.2.2.1 x && Nat.beq q.2.2.2.2 y))) && (!(sx_isF x y) || (Nat.beq x (sx_oc j) && Nat.beq (sx_kd j) 2)))))
  | (.invokevirtual i, n, x, _, _) => Nat.beq n 3 && sx_ml.any (fun q => Nat.beq q.2.1 (sx_oc j) && (Nat.beq q.2.2.1 i && Nat.beq q.2.2.2 x))
  | (.invokespecial i, n, x, _, _) => Nat.beq n 3 && sx_ml.any (fun q => Nat.beq q.2.1 (sx_oc j) && (Nat.beq q.2.2.1 i && Nat.beq q.2.2.2 x))
  | (.invokestatic i, n, x, _, _) => Nat.beq n 3 && sx_ml.any (fun q => Nat.beq q.2.1 (sx_oc j) && (Nat.beq q.2.2.1 i && Nat.beq q.2.2.2 x))
  | (.new i, n, x, _, _) => Nat.beq n 3 && (Nat.ble (x + 1) 13 && sx_kl.any (fun q => Nat.beq q.2.1 (sx_oc j) && (Nat.beq q.2.2.1 i && Nat.beq q.2.2.2 x)))
  | (.anewarray i, n, x, _, _) => Nat.beq n 3 && (Nat.beq x 10 && sx_kl.any (fun q => Nat.beq q.2.1 (sx_oc j) && (Nat.beq q.2.2.1 i && Nat.beq q.2.2.2 x)))
  | (.newarray _, n, _, _, _) => Nat.beq n 2
  | (.iload _, n, _, _, _) => Nat.beq n 2
  | (.lload _, n, _, _, _) => Nat.beq n 2
  | (.aload _, n, _, _, _) => Nat.beq n 2
  | (.istore i, n, _, _, _) => Nat.beq n 2 && Nat.ble (i + 1) (sx_L j)
  | (.lstore i, n, _, _, _) => Nat.beq n 2 && Nat.ble (i + 2) (sx_L j)
  | (.astore i, n, _, _, _) => Nat.beq n 2 && Nat.ble (i + 1) (sx_L j)
  | (.istore_n i, n, _, _, _) => Nat.beq n 1 && Nat.ble (i.val + 1) (sx_L j)
  | (.lstore_n i, n, _, _, _) => Nat.beq n 1 && Nat.ble (i.val + 2) (sx_L j)
  | (.astore_n i, n, _, _, _) => Nat.beq n 1 && Nat.ble (i.val + 1) (sx_L j)
  | (.iinc i c, n, _, _, z) => Nat.beq n 3 && (Nat.ble (i + 1) (sx_L j) && decide (Int32.ofInt c = z))
  | (.tableswitch _ _ _ _, _, _, _, _) => true
  | (.lookupswitch _ ps, _, _, _, _) => (ps.toList.zip (ps.toList.drop 1)).all (fun (a, next) => a.1 < next.1)
  | (_, n, _, _, _) => Nat.beq n 1
noncomputable def sx_chk (j lo hi : Nat) : Bool := (List.range (hi - lo)).all fun i => match sx_tab j (lo + i) with
  | none => true
  | some e => sx_okE j (lo + i) e && decide (decode (sx_b j) (lo + i) = .ok (e.1, e.2.1))
noncomputable def sx_ok (j : Nat) : Prop := ∀ (pc : Nat) (e : sx_I), sx_tab j pc = some e → sx_okE j pc e = true ∧ decode (sx_b j) pc = .ok (e.1, e.2.1)
theorem sx_ok_of (j : Nat) (hn : ∀ pc, sx_ln j ≤ pc → sx_tab j pc = none) (h : ∀ pc, pc < sx_ln j → ∃ lo hi, lo ≤ pc ∧ pc < hi ∧ sx_chk j lo hi = true) : sx_ok j := by
  intro pc e he
  rcases Nat.lt_or_ge pc (sx_ln j) with hl | hl
  · obtain ⟨lo, hi, h1, h2, h3⟩ := h pc hl
    have h4 := List.all_eq_true.mp h3 (pc - lo) (List.mem_range.mpr (by omega))
    rw [show lo + (pc - lo) = pc by omega, he] at h4
    simp only [Bool.and_eq_true, decide_eq_true_eq] at h4
    exact h4
  · rw [hn pc hl] at he
    cases he
/-- what the tables say of a method -/
noncomputable def sx_mf (j : Nat) : Prop :=
  plainName (sx_y j).cls = true ∧ (sx_y j).cls = sx_cn (sx_oc j) ∧ .code (sx_y j) (sx_b j) (sx_L j) (sx_rt j) ∈ sx_tb ∧ .initialized (sx_y j).cls ∈ sx_tb ∧ ((sx_y j).cls ≠ "java/lang/invoke/MethodHandle" ∧ (sx_y j).cls ≠ "java/lang/invoke/VarHandle" ∧ (parseMethodDescriptor (sx_y j).desc).map (fun d => d.parameters.length) = some (sx_na j)) ∧
  (sx_kd j = 0 → .static (sx_y j) ∈ sx_tb) ∧ (sx_kd j = 1 → .instanceMethod (sx_y j) ∈ sx_tb ∧ .selects (sx_y j).cls (sx_y j) (sx_y j) ∈ sx_tb) ∧ (sx_kd j = 2 → .instanceMethod (sx_y j) ∈ sx_tb ∧ (sx_y j).name = "<init>" ∧ sx_rt j = none) ∧ sx_L j ≤ 100 ∧ sx_ok j
/-- from pc on, method j comes to an end at which Q holds of its answer and the memory; d frames deep, kc new cells of ks slots at most -/
noncomputable def sx_W (E : sx_E) (d kc ks j pc : Nat) (ls : List (Option Value)) (st : List Value) (m : sx_M) (Q : Option Value → sx_M → Prop) : Prop :=
  ∀ (p : Program) (e : Env) (s : State) (mi : MethodId) (args : Array Value) (below : List Frame) (meth : Method) (c : Code) (H : Heap) (locs : List Loc) (cells slots KC KS : Nat) (A : Array Slot),
    p.tables.exec = Jvm.exec → c.code = sx_b j → c.maxLocals = sx_L j → meth.sig.returnType = sx_rt j → meth.locks = false → (sx_kd j = 2 → meth.name = "<init>") → s.vm.findClass (sx_cn (sx_oc j)) = some mi.cls → (∀ w ∈ sx_tb, w.before args s = true) → sx_ok j →
    sx_K E s → sx_R E m H → sx_lo E A (sx_L j) ls → (∀ q ∈ locs, sx_fr E q.base) → cells + kc ≤ KC → slots + ks ≤ KS →
    W p (sx_l E) e (sx_rm d KC KS) s mi args below meth c H locs cells slots (MQ below (sx_Qc E Q) args s KC KS (sx_fr E)) (F0 mi pc A (st.map (sx_v E)))
/-- method j's contract at these arguments and this memory -/
noncomputable def sx_S (E : sx_E) (d kc ks j : Nat) (as : List Value) (m : sx_M) (Q : Option Value → sx_M → Prop) : Prop :=
  sx_mf j ∧ Met (sx_l E) (sx_y j) (sx_ws j) (sx_rm d kc ks) (sx_Pc E as m) (sx_Qc E Q) kc ks (sx_fr E)
