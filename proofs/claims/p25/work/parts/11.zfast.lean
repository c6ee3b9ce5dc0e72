-- the bytes of the common instructions, read side by side with a method's table (wip/gen/mkfast.py)
noncomputable def sq_1 (r : List UInt8) (f : Nat → Bool) : Bool := match r with
  | y :: _ => f y.toNat
  | [] => false
noncomputable def sq_2 (r : List UInt8) (f : Nat → Bool) : Bool := match r with
  | y :: z :: _ => f (y.toNat * 256 + z.toNat)
  | _ => false
noncomputable def sq_11 (r : List UInt8) (f : Nat → Nat → Bool) : Bool := match r with
  | y :: z :: _ => f y.toNat z.toNat
  | _ => false
noncomputable def sq_i (e : Instr) (n o : Nat) (r : List UInt8) : Bool := match e with
  | .iload_n k => Nat.beq n 1 && Nat.beq o (k.val + 26)
  | .aload_n k => Nat.beq n 1 && Nat.beq o (k.val + 42)
  | .istore_n k => Nat.beq n 1 && Nat.beq o (k.val + 59)
  | .astore_n k => Nat.beq n 1 && Nat.beq o (k.val + 75)
  | .iconst c => Nat.beq n 1 && (Nat.ble 2 o && (Nat.ble o 8 && decide (c = (o : Int) - 3)))
  | .iaload => Nat.beq n 1 && Nat.beq o 46
  | .aaload => Nat.beq n 1 && Nat.beq o 50
  | .iastore => Nat.beq n 1 && Nat.beq o 79
  | .pop => Nat.beq n 1 && Nat.beq o 87
  | .dup => Nat.beq n 1 && Nat.beq o 89
  | .iadd => Nat.beq n 1 && Nat.beq o 96
  | .isub => Nat.beq n 1 && Nat.beq o 100
  | .imul => Nat.beq n 1 && Nat.beq o 104
  | .idiv => Nat.beq n 1 && Nat.beq o 108
  | .irem => Nat.beq n 1 && Nat.beq o 112
  | .ishl => Nat.beq n 1 && Nat.beq o 120
  | .ishr => Nat.beq n 1 && Nat.beq o 122
  | .iushr => Nat.beq n 1 && Nat.beq o 124
  | .iand => Nat.beq n 1 && Nat.beq o 126
  | .ior => Nat.beq n 1 && Nat.beq o 128
  | .ixor => Nat.beq n 1 && Nat.beq o 130
  | .ireturn => Nat.beq n 1 && Nat.beq o 172
  | .areturn => Nat.beq n 1 && Nat.beq o 176
  | .return_ => Nat.beq n 1 && Nat.beq o 177
  | .arraylength => Nat.beq n 1 && Nat.beq o 190
  | .ldc i => Nat.beq n 2 && (Nat.beq o 18 && sq_1 r (fun a => Nat.beq i a))
  | .iload i => Nat.beq n 2 && (Nat.beq o 21 && sq_1 r (fun a => Nat.beq i a))
  | .aload i => Nat.beq n 2 && (Nat.beq o 25 && sq_1 r (fun a => Nat.beq i a))
  | .istore i => Nat.beq n 2 && (Nat.beq o 54 && sq_1 r (fun a => Nat.beq i a))
  | .astore i => Nat.beq n 2 && (Nat.beq o 58 && sq_1 r (fun a => Nat.beq i a))
  | .getfield i => Nat.beq n 3 && (Nat.beq o 180 && sq_2 r (fun a => Nat.beq i a))
  | .putfield i => Nat.beq n 3 && (Nat.beq o 181 && sq_2 r (fun a => Nat.beq i a))
  | .invokevirtual i => Nat.beq n 3 && (Nat.beq o 182 && sq_2 r (fun a => Nat.beq i a))
  | .invokespecial i => Nat.beq n 3 && (Nat.beq o 183 && sq_2 r (fun a => Nat.beq i a))
  | .invokestatic i => Nat.beq n 3 && (Nat.beq o 184 && sq_2 r (fun a => Nat.beq i a))
  | .new i => Nat.beq n 3 && (Nat.beq o 187 && sq_2 r (fun a => Nat.beq i a))
  | .bipush c => Nat.beq n 2 && (Nat.beq o 16 && sq_1 r (fun a => decide (c = Reader.signed 8 a)))
  | .sipush c => Nat.beq n 3 && (Nat.beq o 17 && sq_2 r (fun a => decide (c = Reader.signed 16 a)))
  | .goto c => Nat.beq n 3 && (Nat.beq o 167 && sq_2 r (fun a => decide (c = Reader.signed 16 a)))
  | .ifCond .eq c => Nat.beq n 3 && (Nat.beq o 153 && sq_2 r (fun a => decide (c = Reader.signed 16 a)))
  | .ifCond .ne c => Nat.beq n 3 && (Nat.beq o 154 && sq_2 r (fun a => decide (c = Reader.signed 16 a)))
  | .ifCond .lt c => Nat.beq n 3 && (Nat.beq o 155 && sq_2 r (fun a => decide (c = Reader.signed 16 a)))
  | .ifCond .ge c => Nat.beq n 3 && (Nat.beq o 156 && sq_2 r (fun a => decide (c = Reader.signed 16 a)))
  | .ifCond .gt c => Nat.beq n 3 && (Nat.beq o 157 && sq_2 r (fun a => decide (c = Reader.signed 16 a)))
  | .ifCond .le c => Nat.beq n 3 && (Nat.beq o 158 && sq_2 r (fun a => decide (c = Reader.signed 16 a)))
  | .if_icmp .eq c => Nat.beq n 3 && (Nat.beq o 159 && sq_2 r (fun a => decide (c = Reader.signed 16 a)))
  | .if_icmp .ne c => Nat.beq n 3 && (Nat.beq o 160 && sq_2 r (fun a => decide (c = Reader.signed 16 a)))
  | .if_icmp .lt c => Nat.beq n 3 && (Nat.beq o 161 && sq_2 r (fun a => decide (c = Reader.signed 16 a)))
  | .if_icmp .ge c => Nat.beq n 3 && (Nat.beq o 162 && sq_2 r (fun a => decide (c = Reader.signed 16 a)))
  | .if_icmp .gt c => Nat.beq n 3 && (Nat.beq o 163 && sq_2 r (fun a => decide (c = Reader.signed 16 a)))
  | .if_icmp .le c => Nat.beq n 3 && (Nat.beq o 164 && sq_2 r (fun a => decide (c = Reader.signed 16 a)))
  | .iinc i c => Nat.beq n 3 && (Nat.beq o 132 && sq_11 r (fun a d => Nat.beq i a && decide (c = Reader.signed 8 d)))
  | .newarray .int => Nat.beq n 2 && (Nat.beq o 188 && sq_1 r (fun a => Nat.beq 10 a))
  | _ => false
theorem sq_a {n o a c : Nat} (h : (Nat.beq n a && Nat.beq o c) = true) : n = a ∧ o = c := by
  rw [Bool.and_eq_true] at h
  exact ⟨Nat.eq_of_beq_eq_true h.1, Nat.eq_of_beq_eq_true h.2⟩
theorem sq_b1 {n o a c : Nat} {r : List UInt8} {f : Nat → Bool} (h : (Nat.beq n a && (Nat.beq o c && sq_1 r f)) = true) : n = a ∧ o = c ∧ ∃ y r', r = y :: r' ∧ f y.toNat = true := by
  rw [Bool.and_eq_true, Bool.and_eq_true] at h
  obtain ⟨h1, h2, h3⟩ := h
  refine ⟨Nat.eq_of_beq_eq_true h1, Nat.eq_of_beq_eq_true h2, ?_⟩
  cases r with
  | nil => cases h3
  | cons y r => exact ⟨y, r, rfl, h3⟩
theorem sq_b2 {n o a c : Nat} {r : List UInt8} {f : Nat → Bool} (h : (Nat.beq n a && (Nat.beq o c && sq_2 r f)) = true) : n = a ∧ o = c ∧ ∃ y z r', r = y :: z :: r' ∧ f (y.toNat * 256 + z.toNat) = true := by
  rw [Bool.and_eq_true, Bool.and_eq_true] at h
  obtain ⟨h1, h2, h3⟩ := h
  refine ⟨Nat.eq_of_beq_eq_true h1, Nat.eq_of_beq_eq_true h2, ?_⟩
  cases r with
  | nil => cases h3
  | cons y r => cases r with
    | nil => cases h3
    | cons z r => exact ⟨y, z, r, rfl, h3⟩
theorem sq_b11 {n o a c : Nat} {r : List UInt8} {f : Nat → Nat → Bool} (h : (Nat.beq n a && (Nat.beq o c && sq_11 r f)) = true) : n = a ∧ o = c ∧ ∃ y z r', r = y :: z :: r' ∧ f y.toNat z.toNat = true := by
  rw [Bool.and_eq_true, Bool.and_eq_true] at h
  obtain ⟨h1, h2, h3⟩ := h
  refine ⟨Nat.eq_of_beq_eq_true h1, Nat.eq_of_beq_eq_true h2, ?_⟩
  cases r with
  | nil => cases h3
  | cons y r => cases r with
    | nil => cases h3
    | cons z r => exact ⟨y, z, r, rfl, h3⟩
theorem sq_tl {b : ByteArray} {p : Nat} {x : UInt8} {r : List UInt8} (h : b.data.toList.drop p = x :: r) : b.data.toList.drop (p + 1) = r := by
  have g := congrArg List.tail h
  rw [List.tail_drop] at g
  exact g
theorem sq_u1 {b : ByteArray} {p : Nat} {x : UInt8} {r : List UInt8} (h : b.data.toList.drop p = x :: r) : Reader.runAt (Reader.u1 : Decoder Nat) b p = .ok (x.toNat, p + 1) := by
  have hl := congrArg List.length h
  rw [List.length_drop, List.length_cons] at hl
  have hs : p < b.size := by
    show p < b.data.size
    rw [← Array.length_toList]
    omega
  have hs' : p < b.data.size := hs
  have hg : b[p] = x := by
    have h0 := congrArg (fun l => l[0]?) h
    simp only [List.getElem?_drop, Nat.add_zero, List.getElem?_cons_zero] at h0
    rw [Array.getElem?_toList] at h0
    have h1 : b.data[p]? = some b.data[p] := Array.getElem?_eq_getElem hs'
    rw [h1] at h0
    exact Option.some.inj h0
  have e : Reader.runAt (Reader.u1 : Decoder Nat) b p = Reader.runAt (if h : p < b.size then (do set (p + 1); pure b[p].toNat : Decoder Nat) else throw (HasTruncated.truncated p)) b p := rfl
  rw [e, dif_pos hs]
  show Except.ok (b[p].toNat, p + 1) = _
  rw [hg]
theorem sq_bd {α β : Type} {m : Decoder α} {f : α → Decoder β} {b : ByteArray} {p : Nat} {a : α} {s : Nat} (h : Reader.runAt m b p = .ok (a, s)) : Reader.runAt (m >>= f) b p = Reader.runAt (f a) b s := by
  first
    | (have e : Reader.runAt (m >>= f) b p = Except.bind (Reader.runAt m b p) (fun q => Reader.runAt (f q.1) b q.2) := rfl
       rw [e, h]
       rfl)
    | (unfold Reader.runAt at h ⊢
       simp only [ReaderT.run_bind, StateT.run_bind, h]
       rfl)
theorem sq_mp {α β : Type} {m : Decoder α} {f : α → β} {b : ByteArray} {p : Nat} {a : α} {s : Nat} (h : Reader.runAt m b p = .ok (a, s)) : Reader.runAt (f <$> m) b p = .ok (f a, s) := by
  rw [← bind_pure_comp, sq_bd h]
  rfl
theorem sq_u2 {b : ByteArray} {p : Nat} {y z : UInt8} {r : List UInt8} (h : b.data.toList.drop p = y :: z :: r) : Reader.runAt (Reader.u2 : Decoder Nat) b p = .ok (y.toNat * 256 + z.toNat, p + 2) := by
  have e : (Reader.u2 : Decoder Nat) = Reader.u1 >>= fun hi => Reader.u1 >>= fun lo => pure (hi * 256 + lo) := rfl
  rw [e, sq_bd (sq_u1 h), sq_bd (sq_u1 (sq_tl h))]
  rfl
theorem sq_s1 {b : ByteArray} {p : Nat} {y : UInt8} {r : List UInt8} (h : b.data.toList.drop p = y :: r) : Reader.runAt (Reader.s1 : Decoder Int) b p = .ok (Reader.signed 8 y.toNat, p + 1) := sq_mp (sq_u1 h)
theorem sq_s2 {b : ByteArray} {p : Nat} {y z : UInt8} {r : List UInt8} (h : b.data.toList.drop p = y :: z :: r) : Reader.runAt (Reader.s2 : Decoder Int) b p = .ok (Reader.signed 16 (y.toNat * 256 + z.toNat), p + 2) := sq_mp (sq_u2 h)
theorem sq_f0 {b : ByteArray} {pc o n : Nat} {x : UInt8} {r : List UInt8} {i : Instr} (K : Nat → Decoder Instr) (hK : Decoder.instr pc = Reader.u1 >>= K) (hd : b.data.toList.drop pc = x :: r) (ho : x.toNat = o) (hi : Reader.runAt (K o) b (pc + 1) = .ok (i, pc + n)) : decode b pc = .ok (i, n) := by
  have hb : Reader.runAt (Decoder.instr pc) b pc = .ok (i, pc + n) := by
    rw [hK, sq_bd (sq_u1 hd), ho]
    exact hi
  unfold decode
  rw [hb]
  show Except.ok (i, pc + n - pc) = _
  rw [Nat.add_sub_cancel_left]
theorem sq_f1 {b : ByteArray} {pc o : Nat} {x : UInt8} {r : List UInt8} {i : Instr} (K : Nat → Decoder Instr) (hK : Decoder.instr pc = Reader.u1 >>= K) (hd : b.data.toList.drop pc = x :: r) (ho : x.toNat = o) (hi : K o = (Pure.pure i : Decoder Instr)) : decode b pc = .ok (i, 1) :=
  sq_f0 K hK hd ho (by rw [hi]; rfl)
theorem sq_f2 {b : ByteArray} {pc o : Nat} {x y : UInt8} {r : List UInt8} {f : Nat → Instr} (K : Nat → Decoder Instr) (hK : Decoder.instr pc = Reader.u1 >>= K) (hd : b.data.toList.drop pc = x :: y :: r) (ho : x.toNat = o) (hi : K o = Reader.u1 >>= fun a => pure (f a)) : decode b pc = .ok (f y.toNat, 2) :=
  sq_f0 K hK hd ho (by rw [hi, sq_bd (sq_u1 (sq_tl hd))]; rfl)
theorem sq_f2s {b : ByteArray} {pc o : Nat} {x y : UInt8} {r : List UInt8} {f : Int → Instr} (K : Nat → Decoder Instr) (hK : Decoder.instr pc = Reader.u1 >>= K) (hd : b.data.toList.drop pc = x :: y :: r) (ho : x.toNat = o) (hi : K o = Reader.s1 >>= fun a => pure (f a)) : decode b pc = .ok (f (Reader.signed 8 y.toNat), 2) :=
  sq_f0 K hK hd ho (by rw [hi, sq_bd (sq_s1 (sq_tl hd))]; rfl)
theorem sq_f3 {b : ByteArray} {pc o : Nat} {x y z : UInt8} {r : List UInt8} {f : Nat → Instr} (K : Nat → Decoder Instr) (hK : Decoder.instr pc = Reader.u1 >>= K) (hd : b.data.toList.drop pc = x :: y :: z :: r) (ho : x.toNat = o) (hi : K o = Reader.u2 >>= fun a => pure (f a)) : decode b pc = .ok (f (y.toNat * 256 + z.toNat), 3) :=
  sq_f0 K hK hd ho (by rw [hi, sq_bd (sq_u2 (sq_tl hd))]; rfl)
theorem sq_f3s {b : ByteArray} {pc o : Nat} {x y z : UInt8} {r : List UInt8} {f : Int → Instr} (K : Nat → Decoder Instr) (hK : Decoder.instr pc = Reader.u1 >>= K) (hd : b.data.toList.drop pc = x :: y :: z :: r) (ho : x.toNat = o) (hi : K o = Reader.s2 >>= fun a => pure (f a)) : decode b pc = .ok (f (Reader.signed 16 (y.toNat * 256 + z.toNat)), 3) :=
  sq_f0 K hK hd ho (by rw [hi, sq_bd (sq_s2 (sq_tl hd))]; rfl)
theorem sq_fi {b : ByteArray} {pc o : Nat} {x y z : UInt8} {r : List UInt8} {f : Nat → Int → Instr} (K : Nat → Decoder Instr) (hK : Decoder.instr pc = Reader.u1 >>= K) (hd : b.data.toList.drop pc = x :: y :: z :: r) (ho : x.toNat = o) (hi : K o = Reader.u1 >>= fun a => Reader.s1 >>= fun c => pure (f a c)) : decode b pc = .ok (f y.toNat (Reader.signed 8 z.toNat), 3) :=
  sq_f0 K hK hd ho (by rw [hi, sq_bd (sq_u1 (sq_tl hd)), sq_bd (sq_s1 (sq_tl (sq_tl hd)))]; rfl)
theorem sq_fn {b : ByteArray} {pc o v : Nat} {x y : UInt8} {r : List UInt8} {i : Instr} (K : Nat → Decoder Instr) (hK : Decoder.instr pc = Reader.u1 >>= K) (hd : b.data.toList.drop pc = x :: y :: r) (ho : x.toNat = o) (K2 : Nat → Decoder Instr) (hi : K o = Reader.u1 >>= K2) (hy : y.toNat = v) (hv : K2 v = (Pure.pure i : Decoder Instr)) : decode b pc = .ok (i, 2) :=
  sq_f0 K hK hd ho (by rw [hi, sq_bd (sq_u1 (sq_tl hd)), hy, hv]; rfl)
set_option maxRecDepth 100000 in
theorem sq_ok {b : ByteArray} {pc n : Nat} {x : UInt8} {r : List UInt8} {e : Instr} (hd : b.data.toList.drop pc = x :: r) (h : sq_i e n x.toNat r = true) : decode b pc = .ok (e, n) := by
  generalize ho : x.toNat = o at h
  cases e with
  | iload_n k =>
    obtain ⟨h1, h2⟩ := sq_a h
    subst h1
    match k, h2 with
    | ⟨0, _⟩, h2 => exact sq_f1 _ rfl hd (ho.trans (show o = 26 from h2)) rfl
    | ⟨1, _⟩, h2 => exact sq_f1 _ rfl hd (ho.trans (show o = 27 from h2)) rfl
    | ⟨2, _⟩, h2 => exact sq_f1 _ rfl hd (ho.trans (show o = 28 from h2)) rfl
    | ⟨3, _⟩, h2 => exact sq_f1 _ rfl hd (ho.trans (show o = 29 from h2)) rfl
  | aload_n k =>
    obtain ⟨h1, h2⟩ := sq_a h
    subst h1
    match k, h2 with
    | ⟨0, _⟩, h2 => exact sq_f1 _ rfl hd (ho.trans (show o = 42 from h2)) rfl
    | ⟨1, _⟩, h2 => exact sq_f1 _ rfl hd (ho.trans (show o = 43 from h2)) rfl
    | ⟨2, _⟩, h2 => exact sq_f1 _ rfl hd (ho.trans (show o = 44 from h2)) rfl
    | ⟨3, _⟩, h2 => exact sq_f1 _ rfl hd (ho.trans (show o = 45 from h2)) rfl
  | istore_n k =>
    obtain ⟨h1, h2⟩ := sq_a h
    subst h1
    match k, h2 with
    | ⟨0, _⟩, h2 => exact sq_f1 _ rfl hd (ho.trans (show o = 59 from h2)) rfl
    | ⟨1, _⟩, h2 => exact sq_f1 _ rfl hd (ho.trans (show o = 60 from h2)) rfl
    | ⟨2, _⟩, h2 => exact sq_f1 _ rfl hd (ho.trans (show o = 61 from h2)) rfl
    | ⟨3, _⟩, h2 => exact sq_f1 _ rfl hd (ho.trans (show o = 62 from h2)) rfl
  | astore_n k =>
    obtain ⟨h1, h2⟩ := sq_a h
    subst h1
    match k, h2 with
    | ⟨0, _⟩, h2 => exact sq_f1 _ rfl hd (ho.trans (show o = 75 from h2)) rfl
    | ⟨1, _⟩, h2 => exact sq_f1 _ rfl hd (ho.trans (show o = 76 from h2)) rfl
    | ⟨2, _⟩, h2 => exact sq_f1 _ rfl hd (ho.trans (show o = 77 from h2)) rfl
    | ⟨3, _⟩, h2 => exact sq_f1 _ rfl hd (ho.trans (show o = 78 from h2)) rfl
  | iconst c =>
    have h' : (Nat.beq n 1 && (Nat.ble 2 o && (Nat.ble o 8 && decide (c = (o : Int) - 3)))) = true := h
    rw [Bool.and_eq_true, Bool.and_eq_true, Bool.and_eq_true] at h'
    obtain ⟨h1, h2, h3, h4⟩ := h'
    have g1 := Nat.eq_of_beq_eq_true h1
    have g2 := Nat.le_of_ble_eq_true h2
    have g3 := Nat.le_of_ble_eq_true h3
    have g4 := of_decide_eq_true h4
    subst g1
    rcases (by omega : (o = 2 ∧ c = -1) ∨ (o = 3 ∧ c = 0) ∨ (o = 4 ∧ c = 1) ∨ (o = 5 ∧ c = 2) ∨ (o = 6 ∧ c = 3) ∨ (o = 7 ∧ c = 4) ∨ (o = 8 ∧ c = 5)) with ⟨q1, q2⟩ | ⟨q1, q2⟩ | ⟨q1, q2⟩ | ⟨q1, q2⟩ | ⟨q1, q2⟩ | ⟨q1, q2⟩ | ⟨q1, q2⟩
    · subst q2; exact sq_f1 _ rfl hd (ho.trans q1) rfl
    · subst q2; exact sq_f1 _ rfl hd (ho.trans q1) rfl
    · subst q2; exact sq_f1 _ rfl hd (ho.trans q1) rfl
    · subst q2; exact sq_f1 _ rfl hd (ho.trans q1) rfl
    · subst q2; exact sq_f1 _ rfl hd (ho.trans q1) rfl
    · subst q2; exact sq_f1 _ rfl hd (ho.trans q1) rfl
    · subst q2; exact sq_f1 _ rfl hd (ho.trans q1) rfl
  | iaload =>
    obtain ⟨h1, h2⟩ := sq_a h
    subst h1
    exact sq_f1 _ rfl hd (ho.trans h2) rfl
  | aaload =>
    obtain ⟨h1, h2⟩ := sq_a h
    subst h1
    exact sq_f1 _ rfl hd (ho.trans h2) rfl
  | iastore =>
    obtain ⟨h1, h2⟩ := sq_a h
    subst h1
    exact sq_f1 _ rfl hd (ho.trans h2) rfl
  | pop =>
    obtain ⟨h1, h2⟩ := sq_a h
    subst h1
    exact sq_f1 _ rfl hd (ho.trans h2) rfl
  | dup =>
    obtain ⟨h1, h2⟩ := sq_a h
    subst h1
    exact sq_f1 _ rfl hd (ho.trans h2) rfl
  | iadd =>
    obtain ⟨h1, h2⟩ := sq_a h
    subst h1
    exact sq_f1 _ rfl hd (ho.trans h2) rfl
  | isub =>
    obtain ⟨h1, h2⟩ := sq_a h
    subst h1
    exact sq_f1 _ rfl hd (ho.trans h2) rfl
  | imul =>
    obtain ⟨h1, h2⟩ := sq_a h
    subst h1
    exact sq_f1 _ rfl hd (ho.trans h2) rfl
  | idiv =>
    obtain ⟨h1, h2⟩ := sq_a h
    subst h1
    exact sq_f1 _ rfl hd (ho.trans h2) rfl
  | irem =>
    obtain ⟨h1, h2⟩ := sq_a h
    subst h1
    exact sq_f1 _ rfl hd (ho.trans h2) rfl
  | ishl =>
    obtain ⟨h1, h2⟩ := sq_a h
    subst h1
    exact sq_f1 _ rfl hd (ho.trans h2) rfl
  | ishr =>
    obtain ⟨h1, h2⟩ := sq_a h
    subst h1
    exact sq_f1 _ rfl hd (ho.trans h2) rfl
  | iushr =>
    obtain ⟨h1, h2⟩ := sq_a h
    subst h1
    exact sq_f1 _ rfl hd (ho.trans h2) rfl
  | iand =>
    obtain ⟨h1, h2⟩ := sq_a h
    subst h1
    exact sq_f1 _ rfl hd (ho.trans h2) rfl
  | ior =>
    obtain ⟨h1, h2⟩ := sq_a h
    subst h1
    exact sq_f1 _ rfl hd (ho.trans h2) rfl
  | ixor =>
    obtain ⟨h1, h2⟩ := sq_a h
    subst h1
    exact sq_f1 _ rfl hd (ho.trans h2) rfl
  | ireturn =>
    obtain ⟨h1, h2⟩ := sq_a h
    subst h1
    exact sq_f1 _ rfl hd (ho.trans h2) rfl
  | areturn =>
    obtain ⟨h1, h2⟩ := sq_a h
    subst h1
    exact sq_f1 _ rfl hd (ho.trans h2) rfl
  | return_ =>
    obtain ⟨h1, h2⟩ := sq_a h
    subst h1
    exact sq_f1 _ rfl hd (ho.trans h2) rfl
  | arraylength =>
    obtain ⟨h1, h2⟩ := sq_a h
    subst h1
    exact sq_f1 _ rfl hd (ho.trans h2) rfl
  | ldc i =>
    obtain ⟨h1, h2, y, r', h3, h4⟩ := sq_b1 h
    have h5 := Nat.eq_of_beq_eq_true h4
    subst h1; subst h3; subst h5
    exact sq_f2 (f := fun a => .ldc a) _ rfl hd (ho.trans h2) rfl
  | iload i =>
    obtain ⟨h1, h2, y, r', h3, h4⟩ := sq_b1 h
    have h5 := Nat.eq_of_beq_eq_true h4
    subst h1; subst h3; subst h5
    exact sq_f2 (f := fun a => .iload a) _ rfl hd (ho.trans h2) rfl
  | aload i =>
    obtain ⟨h1, h2, y, r', h3, h4⟩ := sq_b1 h
    have h5 := Nat.eq_of_beq_eq_true h4
    subst h1; subst h3; subst h5
    exact sq_f2 (f := fun a => .aload a) _ rfl hd (ho.trans h2) rfl
  | istore i =>
    obtain ⟨h1, h2, y, r', h3, h4⟩ := sq_b1 h
    have h5 := Nat.eq_of_beq_eq_true h4
    subst h1; subst h3; subst h5
    exact sq_f2 (f := fun a => .istore a) _ rfl hd (ho.trans h2) rfl
  | astore i =>
    obtain ⟨h1, h2, y, r', h3, h4⟩ := sq_b1 h
    have h5 := Nat.eq_of_beq_eq_true h4
    subst h1; subst h3; subst h5
    exact sq_f2 (f := fun a => .astore a) _ rfl hd (ho.trans h2) rfl
  | getfield i =>
    obtain ⟨h1, h2, y, z, r', h3, h4⟩ := sq_b2 h
    have h5 := Nat.eq_of_beq_eq_true h4
    subst h1; subst h3; subst h5
    exact sq_f3 (f := fun a => .getfield a) _ rfl hd (ho.trans h2) rfl
  | putfield i =>
    obtain ⟨h1, h2, y, z, r', h3, h4⟩ := sq_b2 h
    have h5 := Nat.eq_of_beq_eq_true h4
    subst h1; subst h3; subst h5
    exact sq_f3 (f := fun a => .putfield a) _ rfl hd (ho.trans h2) rfl
  | invokevirtual i =>
    obtain ⟨h1, h2, y, z, r', h3, h4⟩ := sq_b2 h
    have h5 := Nat.eq_of_beq_eq_true h4
    subst h1; subst h3; subst h5
    exact sq_f3 (f := fun a => .invokevirtual a) _ rfl hd (ho.trans h2) rfl
  | invokespecial i =>
    obtain ⟨h1, h2, y, z, r', h3, h4⟩ := sq_b2 h
    have h5 := Nat.eq_of_beq_eq_true h4
    subst h1; subst h3; subst h5
    exact sq_f3 (f := fun a => .invokespecial a) _ rfl hd (ho.trans h2) rfl
  | invokestatic i =>
    obtain ⟨h1, h2, y, z, r', h3, h4⟩ := sq_b2 h
    have h5 := Nat.eq_of_beq_eq_true h4
    subst h1; subst h3; subst h5
    exact sq_f3 (f := fun a => .invokestatic a) _ rfl hd (ho.trans h2) rfl
  | new i =>
    obtain ⟨h1, h2, y, z, r', h3, h4⟩ := sq_b2 h
    have h5 := Nat.eq_of_beq_eq_true h4
    subst h1; subst h3; subst h5
    exact sq_f3 (f := fun a => .new a) _ rfl hd (ho.trans h2) rfl
  | bipush c =>
    obtain ⟨h1, h2, y, r', h3, h4⟩ := sq_b1 h
    have h5 := of_decide_eq_true h4
    subst h1; subst h3; subst h5
    exact sq_f2s (f := fun a => .bipush a) _ rfl hd (ho.trans h2) rfl
  | sipush c =>
    obtain ⟨h1, h2, y, z, r', h3, h4⟩ := sq_b2 h
    have h5 := of_decide_eq_true h4
    subst h1; subst h3; subst h5
    exact sq_f3s (f := fun a => .sipush a) _ rfl hd (ho.trans h2) rfl
  | goto c =>
    obtain ⟨h1, h2, y, z, r', h3, h4⟩ := sq_b2 h
    have h5 := of_decide_eq_true h4
    subst h1; subst h3; subst h5
    exact sq_f3s (f := fun a => .goto a) _ rfl hd (ho.trans h2) rfl
  | ifCond q c =>
    cases q with
    | eq =>
      obtain ⟨h1, h2, y, z, r', h3, h4⟩ := sq_b2 h
      have h5 := of_decide_eq_true h4
      subst h1; subst h3; subst h5
      exact sq_f3s (f := fun a => .ifCond .eq a) _ rfl hd (ho.trans h2) rfl
    | ne =>
      obtain ⟨h1, h2, y, z, r', h3, h4⟩ := sq_b2 h
      have h5 := of_decide_eq_true h4
      subst h1; subst h3; subst h5
      exact sq_f3s (f := fun a => .ifCond .ne a) _ rfl hd (ho.trans h2) rfl
    | lt =>
      obtain ⟨h1, h2, y, z, r', h3, h4⟩ := sq_b2 h
      have h5 := of_decide_eq_true h4
      subst h1; subst h3; subst h5
      exact sq_f3s (f := fun a => .ifCond .lt a) _ rfl hd (ho.trans h2) rfl
    | ge =>
      obtain ⟨h1, h2, y, z, r', h3, h4⟩ := sq_b2 h
      have h5 := of_decide_eq_true h4
      subst h1; subst h3; subst h5
      exact sq_f3s (f := fun a => .ifCond .ge a) _ rfl hd (ho.trans h2) rfl
    | gt =>
      obtain ⟨h1, h2, y, z, r', h3, h4⟩ := sq_b2 h
      have h5 := of_decide_eq_true h4
      subst h1; subst h3; subst h5
      exact sq_f3s (f := fun a => .ifCond .gt a) _ rfl hd (ho.trans h2) rfl
    | le =>
      obtain ⟨h1, h2, y, z, r', h3, h4⟩ := sq_b2 h
      have h5 := of_decide_eq_true h4
      subst h1; subst h3; subst h5
      exact sq_f3s (f := fun a => .ifCond .le a) _ rfl hd (ho.trans h2) rfl
  | if_icmp q c =>
    cases q with
    | eq =>
      obtain ⟨h1, h2, y, z, r', h3, h4⟩ := sq_b2 h
      have h5 := of_decide_eq_true h4
      subst h1; subst h3; subst h5
      exact sq_f3s (f := fun a => .if_icmp .eq a) _ rfl hd (ho.trans h2) rfl
    | ne =>
      obtain ⟨h1, h2, y, z, r', h3, h4⟩ := sq_b2 h
      have h5 := of_decide_eq_true h4
      subst h1; subst h3; subst h5
      exact sq_f3s (f := fun a => .if_icmp .ne a) _ rfl hd (ho.trans h2) rfl
    | lt =>
      obtain ⟨h1, h2, y, z, r', h3, h4⟩ := sq_b2 h
      have h5 := of_decide_eq_true h4
      subst h1; subst h3; subst h5
      exact sq_f3s (f := fun a => .if_icmp .lt a) _ rfl hd (ho.trans h2) rfl
    | ge =>
      obtain ⟨h1, h2, y, z, r', h3, h4⟩ := sq_b2 h
      have h5 := of_decide_eq_true h4
      subst h1; subst h3; subst h5
      exact sq_f3s (f := fun a => .if_icmp .ge a) _ rfl hd (ho.trans h2) rfl
    | gt =>
      obtain ⟨h1, h2, y, z, r', h3, h4⟩ := sq_b2 h
      have h5 := of_decide_eq_true h4
      subst h1; subst h3; subst h5
      exact sq_f3s (f := fun a => .if_icmp .gt a) _ rfl hd (ho.trans h2) rfl
    | le =>
      obtain ⟨h1, h2, y, z, r', h3, h4⟩ := sq_b2 h
      have h5 := of_decide_eq_true h4
      subst h1; subst h3; subst h5
      exact sq_f3s (f := fun a => .if_icmp .le a) _ rfl hd (ho.trans h2) rfl
  | iinc i c =>
    obtain ⟨h1, h2, y, z, r', h3, h4⟩ := sq_b11 h
    rw [Bool.and_eq_true] at h4
    have h5 := Nat.eq_of_beq_eq_true h4.1
    have h6 := of_decide_eq_true h4.2
    subst h1; subst h3; subst h5; subst h6
    exact sq_fi (f := fun a c => .iinc a c) _ rfl hd (ho.trans h2) rfl
  | newarray t =>
    cases t with
    | int =>
      obtain ⟨h1, h2, y, r', h3, h4⟩ := sq_b1 h
      have h5 := Nat.eq_of_beq_eq_true h4
      subst h1; subst h3
      exact sq_fn _ rfl hd (ho.trans h2) _ rfl h5.symm rfl
    | _ => exact Bool.noConfusion h
  | _ => exact Bool.noConfusion h
/-- as sx_okE, the links looked up in their lists of sixteen -/
noncomputable def sq_E (j pc : Nat) (e : sx_I) : Bool := match e with
  | (.getfield i, n, x, y, _) => Nat.beq n 3 && (Nat.ble (x + 1) 13 && (Nat.ble (y + 1) (sx_N x) && ((sx_flB.getD (sx_oc j) []).getD (i / 16) []).any (fun q => Nat.beq q.2.1 (sx_oc j) && (Nat.beq q.2.2.1 i && (Nat.beq q.2.2.2.1 x && Nat.beq q.2.2.2.2 y)))))
  | (.invokevirtual i, n, x, _, _) => Nat.beq n 3 && ((sx_mlB.getD (sx_oc j) []).getD (i / 16) []).any (fun q => Nat.beq q.2.1 (sx_oc j) && (Nat.beq q.2.2.1 i && Nat.beq q.2.2.2 x))
  | (.invokestatic i, n, x, _, _) => Nat.beq n 3 && ((sx_mlB.getD (sx_oc j) []).getD (i / 16) []).any (fun q => Nat.beq q.2.1 (sx_oc j) && (Nat.beq q.2.2.1 i && Nat.beq q.2.2.2 x))
  | e => sx_okE j pc e
theorem sq_any {α : Type} {L : List (List (List α))} {a c : Nat} {f : α → Bool} (h : ((L.getD a []).getD c []).any f = true) : L.flatten.flatten.any f = true := by
  obtain ⟨q, hq, hf⟩ := List.any_eq_true.mp h
  refine List.any_eq_true.mpr ⟨q, ?_, hf⟩
  rcases Nat.lt_or_ge a L.length with ha | ha
  · have e1 : L.getD a [] = L[a] := by rw [List.getD_eq_getElem?_getD, List.getElem?_eq_getElem ha]; rfl
    rw [e1] at hq
    rcases Nat.lt_or_ge c L[a].length with hc | hc
    · have e2 : L[a].getD c [] = L[a][c] := by rw [List.getD_eq_getElem?_getD, List.getElem?_eq_getElem hc]; rfl
      rw [e2] at hq
      exact List.mem_flatten.mpr ⟨L[a][c], List.mem_flatten.mpr ⟨L[a], List.getElem_mem ha, List.getElem_mem hc⟩, hq⟩
    · rw [List.getD_eq_getElem?_getD, List.getElem?_eq_none hc] at hq
      exact absurd hq List.not_mem_nil
  · have e1 : L.getD a [] = [] := by rw [List.getD_eq_getElem?_getD, List.getElem?_eq_none ha]; rfl
    rw [e1] at hq
    exact absurd hq List.not_mem_nil
theorem sq_Eok {j pc : Nat} {e : sx_I} (h : sq_E j pc e = true) : sx_okE j pc e = true := by
  obtain ⟨i, n, x, y, z⟩ := e
  cases i with
  | getfield i =>
    have h' : (Nat.beq n 3 && (Nat.ble (x + 1) 13 && (Nat.ble (y + 1) (sx_N x) && ((sx_flB.getD (sx_oc j) []).getD (i / 16) []).any (fun q => Nat.beq q.2.1 (sx_oc j) && (Nat.beq q.2.2.1 i && (Nat.beq q.2.2.2.1 x && Nat.beq q.2.2.2.2 y)))))) = true := h
    rw [Bool.and_eq_true, Bool.and_eq_true, Bool.and_eq_true] at h'
    show (Nat.beq n 3 && (Nat.ble (x + 1) 13 && (Nat.ble (y + 1) (sx_N x) && sx_fl.any (fun q => Nat.beq q.2.1 (sx_oc j) && (Nat.beq q.2.2.1 i && (Nat.beq q.2.2.2.1 x && Nat.beq q.2.2.2.2 y)))))) = true
    rw [Bool.and_eq_true, Bool.and_eq_true, Bool.and_eq_true]
    exact ⟨h'.1, h'.2.1, h'.2.2.1, sq_any h'.2.2.2⟩
  | invokevirtual i =>
    have h' : (Nat.beq n 3 && ((sx_mlB.getD (sx_oc j) []).getD (i / 16) []).any (fun q => Nat.beq q.2.1 (sx_oc j) && (Nat.beq q.2.2.1 i && Nat.beq q.2.2.2 x))) = true := h
    rw [Bool.and_eq_true] at h'
    show (Nat.beq n 3 && sx_ml.any (fun q => Nat.beq q.2.1 (sx_oc j) && (Nat.beq q.2.2.1 i && Nat.beq q.2.2.2 x))) = true
    rw [Bool.and_eq_true]
    exact ⟨h'.1, sq_any h'.2⟩
  | invokestatic i =>
    have h' : (Nat.beq n 3 && ((sx_mlB.getD (sx_oc j) []).getD (i / 16) []).any (fun q => Nat.beq q.2.1 (sx_oc j) && (Nat.beq q.2.2.1 i && Nat.beq q.2.2.2 x))) = true := h
    rw [Bool.and_eq_true] at h'
    show (Nat.beq n 3 && sx_ml.any (fun q => Nat.beq q.2.1 (sx_oc j) && (Nat.beq q.2.2.1 i && Nat.beq q.2.2.2 x))) = true
    rw [Bool.and_eq_true]
    exact ⟨h'.1, sq_any h'.2⟩
  | _ => exact h
noncomputable def sq_s (j pc : Nat) (x : UInt8) (r : List UInt8) (t : Option sx_I) : Bool := match t with
  | none => true
  | some e => sq_E j pc e && (sq_i e.1 e.2.1 x.toNat r || decide (decode (sx_b j) pc = .ok (e.1, e.2.1)))
noncomputable def sq_w (j : Nat) : List UInt8 → Nat → Bool
  | [], _ => true
  | x :: r, pc => sq_s j pc x r (sx_tab j pc) && sq_w j r (Nat.succ pc)
theorem sq_w_ok (j : Nat) : ∀ (l : List UInt8) (pc : Nat), sq_w j l pc = true → (sx_b j).data.toList.drop pc = l → ∀ (q : Nat) (e : sx_I), pc ≤ q → q < pc + l.length → sx_tab j q = some e → sx_okE j q e = true ∧ decode (sx_b j) q = .ok (e.1, e.2.1)
  | [], pc => fun _ _ q e h1 h2 _ => by
    exfalso
    rw [List.length_nil] at h2
    omega
  | x :: r, pc => fun h hd q e h1 h2 he => by
    have h' : (sq_s j pc x r (sx_tab j pc) && sq_w j r (Nat.succ pc)) = true := h
    rw [Bool.and_eq_true] at h'
    rw [List.length_cons] at h2
    rcases Nat.eq_or_lt_of_le h1 with g | g
    · subst g
      have h3 := h'.1
      rw [he] at h3
      have h4 : (sq_E j pc e && (sq_i e.1 e.2.1 x.toNat r || decide (decode (sx_b j) pc = .ok (e.1, e.2.1)))) = true := h3
      rw [Bool.and_eq_true, Bool.or_eq_true] at h4
      refine ⟨sq_Eok h4.1, ?_⟩
      rcases h4.2 with h5 | h5
      · exact sq_ok hd h5
      · exact of_decide_eq_true h5
    · exact sq_w_ok j r (pc + 1) h'.2 (sq_tl hd) q e g (by omega) he
theorem sq_ok_of (j : Nat) (hn : ∀ pc, sx_ln j ≤ pc → sx_tab j pc = none) (hl : (sx_b j).data.toList.length = sx_ln j) (h : sq_w j (sx_b j).data.toList 0 = true) : sx_ok j := by
  intro pc e he
  rcases Nat.lt_or_ge pc (sx_ln j) with g | g
  · exact sq_w_ok j _ 0 h rfl pc e (Nat.zero_le _) (by omega) he
  · rw [hn pc g] at he
    cases he
