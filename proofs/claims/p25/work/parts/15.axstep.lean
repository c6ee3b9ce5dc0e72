-- THE RUNNER: one step, and that it is right
abbrev ax_O : Type := Option (List ax_C)
noncomputable def ax_rg (f : Nat → ax_V) (lo hi : Nat) : Nat → ax_V := fun k => bif (Nat.ble lo k && Nat.ble k hi) then .inr none else f k
noncomputable def ax_cpy {α : Type} (f g : Nat → α) (sp dp n : Nat) : Nat → α := fun k => bif (Nat.ble dp k && Nat.ble (k + 1) (dp + n)) then f (sp + (k - dp)) else g k
noncomputable def ax_same (p v : ax_V) : Bool := decide (p = .inr none) || decide (p = v)
/-- a write; none where nothing is known there, or it is known so -/
noncomputable def ax_upc (f : Nat → Nat × (Nat → ax_V)) (a k : Nat) (v : ax_V) : Nat → Nat × (Nat → ax_V) := fun i => bif Nat.beq i a then (0, sx_u1 (f i).2 k v) else f i
noncomputable def ax_uac (f : Nat → Nat × (Nat → ax_V)) (a : Nat) (g : Nat → ax_V) : Nat → Nat × (Nat → ax_V) := fun i => bif Nat.beq i a then (0, g) else f i
noncomputable def ax_wr (f : Nat → Nat × (Nat → ax_V)) (a k : Nat) (v : ax_V) : Nat → Nat × (Nat → ax_V) := bif ax_same ((f a).2 k) v then f else ax_upc f a k v
noncomputable def ax_small (N : ax_N) (a : ax_V) : Bool := decide ((ax_iv N a).1 ≠ (ax_iv N a).2) && decide ((ax_iv N a).2 - (ax_iv N a).1 ≤ 16)
noncomputable def ax_isv (a : ax_V) : Bool := match a with
  | .inr (some _) => true
  | _ => false
noncomputable def ax_all (g : Nat → ax_V) (lo : Nat) : Nat → Bool
  | 0 => true
  | n + 1 => decide (g (lo + (n + 1)) = g lo) && ax_all g lo n
noncomputable def ax_cat : List ax_V → Nat
  | [] => 0
  | .inl (.long _) :: l => 2 + ax_cat l
  | .inl (.double _) :: l => 2 + ax_cat l
  | _ :: l => 1 + ax_cat l
noncomputable def ax_ent : List ax_V → ax_L
  | [] => []
  | v :: l => some v :: ax_ent l
noncomputable def ax_nl1 (a : ax_V) : Bool := match a with
  | .inl (.int _) => true
  | .inl (.ref _) => true
  | .inr _ => true
  | _ => false
noncomputable def ax_nl (as : List ax_V) : Bool := as.all ax_nl1
noncomputable def ax_nth : ax_L → Nat → Option ax_V
  | [], _ => none
  | a :: _, 0 => a
  | _ :: l, n + 1 => ax_nth l n
noncomputable def ax_ok1 (a : Option ax_V) : Bool := match a with
  | some (.inl (.long _)) => false
  | some (.inl (.double _)) => false
  | _ => true
noncomputable def ax_put : ax_L → Nat → ax_V → Option ax_L
  | [], _, _ => none
  | _ :: l, 0, v => some (some v :: l)
  | a :: l, n + 1, v => bif ax_ok1 a then (ax_put l n v).map (fun r => a :: r) else none
noncomputable def ax_i1 (st : List ax_V) (k : ax_V → List ax_V → ax_O) : ax_O := match st with
  | a :: r => bif ax_isI a then k a r else none
  | [] => none
noncomputable def ax_i2 (st : List ax_V) (k : ax_V → ax_V → List ax_V → ax_O) : ax_O := match st with
  | b :: a :: r => bif (ax_isI a && ax_isI b) then k a b r else none
  | _ => none
noncomputable def ax_r1 (st : List ax_V) (k : Nat → List ax_V → ax_O) : ax_O := match st with
  | .inl (.ref a) :: r => k a r
  | _ => none
noncomputable def ax_sk (q : Option (Nat × Nat)) (c : Nat) (k : Nat → ax_O) : ax_O := match q with
  | some kd => bif Nat.beq kd.1 c then k kd.2 else none
  | none => none
/-- an index: within the row -/
noncomputable def ax_ix (N : ax_N) (i : ax_V) (n : Nat) (k : Nat → Nat → ax_O) : ax_O := bif (decide (0 ≤ (ax_iv N i).1) && decide ((ax_iv N i).2 < (n : Int))) then k (ax_iv N i).1.toNat (ax_iv N i).2.toNat else none
noncomputable def ax_cT (cd : Jvm.ClassFile.Cond) (N : ax_N) (a b : ax_V) : List ax_N := match cd with
  | .eq => ax_eq N a b
  | .ne => ax_ne N a b
  | .lt => ax_lt N a b
  | .ge => ax_le N b a
  | .gt => ax_lt N b a
  | .le => ax_le N a b
noncomputable def ax_cF (cd : Jvm.ClassFile.Cond) (N : ax_N) (a b : ax_V) : List ax_N := match cd with
  | .eq => ax_ne N a b
  | .ne => ax_eq N a b
  | .lt => ax_le N b a
  | .ge => ax_lt N a b
  | .gt => ax_le N a b
  | .le => ax_lt N b a
noncomputable def ax_at (N : ax_N) (a : ax_V) (k : Int) : List ax_N := bif (decide ((ax_iv N a).1 ≤ k) && decide (k ≤ (ax_iv N a).2)) then [ax_nw N a k k] else []
noncomputable def ax_lk (mk : Nat → ax_N → ax_C) (N : ax_N) (v : ax_V) (pc : Nat) (dflt : Int) : List (Int × Int) → List ax_N → List ax_C
  | [], Ns => Ns.map (mk ((pc : Int) + dflt).toNat)
  | q :: r, Ns => (ax_at N v q.1).map (mk ((pc : Int) + q.2).toNat) ++ ax_lk mk N v pc dflt r (Ns.flatMap fun N' => ax_sp N' v q.1)
noncomputable def ax_tb (mk : Nat → ax_N → ax_C) (N : ax_N) (v : ax_V) (pc : Nat) : Int → List Int → List ax_C
  | _, [] => []
  | a, o :: r => (ax_at N v a).map (mk ((pc : Int) + o).toNat) ++ ax_tb mk N v pc (a + 1) r
/-- one by one: all numbers of a short interval -/
noncomputable def ax_cz (N : ax_N) (a : ax_V) : List ax_N := (List.range ((ax_iv N a).2 - (ax_iv N a).1 + 1).toNat).map fun (t : Nat) => ax_nw N a ((ax_iv N a).1 + (t : Int)) ((ax_iv N a).1 + (t : Int))
-- what is given beside the code: the script's length, which methods may be called, how many cells a constructor makes, contracts, the last check
abbrev ax_X : Type := Nat × (Nat → Bool) × (Nat → Nat × Nat) × (Nat → List ax_V → ax_M → ax_N → Option (List (Option ax_V × ax_M × ax_N))) × (Option ax_V → ax_M → ax_N → Bool)
noncomputable def ax_in (X : ax_X) (d kc ks j pc : Nat) (ls : ax_L) (rest : List ax_V) (fs : List ax_F) (M : ax_M) (N : ax_N) (x : Nat) (as : List ax_V) : ax_O :=
  bif Nat.ble (ax_cat rest) 8 then (match X.2.2.2.1 x as M N with
    | some os => bif Nat.ble 11 d then some (os.map fun q => ((d, kc, ks, j, pc + 3, ls, q.1.toList ++ rest), fs, q.2.1, q.2.2)) else none
    | none => bif (X.2.1 x && (ax_nl as && (Nat.ble as.length (sx_L x) && (Nat.ble (X.2.2.1 x).1 kc && (Nat.ble (X.2.2.1 x).2 ks && Nat.ble 1 d))))) then
        some [((d - 1, (X.2.2.1 x).1, (X.2.2.1 x).2, x, 0, ax_ent as ++ List.replicate (sx_L x - as.length) none, []), (d, kc - (X.2.2.1 x).1, ks - (X.2.2.1 x).2, j, pc, ls, rest) :: fs, M, N)] else none)
  else none
noncomputable def ax_ins (X : ax_X) (d kc ks j pc : Nat) (ls : ax_L) (st : List ax_V) (fs : List ax_F) (M : ax_M) (N : ax_N) (i : Instr) (x y : Nat) (z : Int32) : ax_O := match i with
  | .iconst _ => some [((d, kc, ks, j, pc + 1, ls, .inl (.int z) :: st), fs, M, N)]
  | .bipush _ => some [((d, kc, ks, j, pc + 2, ls, .inl (.int z) :: st), fs, M, N)]
  | .sipush _ => some [((d, kc, ks, j, pc + 3, ls, .inl (.int z) :: st), fs, M, N)]
  | .iadd => ax_i2 st fun a b r => some [((d, kc, ks, j, pc + 1, ls, ax_add N a b :: r), fs, M, N)]
  | .isub => ax_i2 st fun a b r => some [((d, kc, ks, j, pc + 1, ls, ax_sub N a b :: r), fs, M, N)]
  | .iand => ax_i2 st fun a b r => some [((d, kc, ks, j, pc + 1, ls, ax_and N a b :: r), fs, M, N)]
  | .ishl => ax_i2 st fun a b r => bif ax_small N b then some ((ax_cz N b).map fun N' => ((d, kc, ks, j, pc, ls, st), fs, M, N')) else some [((d, kc, ks, j, pc + 1, ls, ax_op (fun x y => x <<< (y &&& 31)) N a b :: r), fs, M, N)]
  | .ishr => ax_i2 st fun a b r => bif ax_small N b then some ((ax_cz N b).map fun N' => ((d, kc, ks, j, pc, ls, st), fs, M, N')) else some [((d, kc, ks, j, pc + 1, ls, ax_op (fun x y => x >>> (y &&& 31)) N a b :: r), fs, M, N)]
  | .iushr => ax_i2 st fun a b r => bif ax_small N b then some ((ax_cz N b).map fun N' => ((d, kc, ks, j, pc, ls, st), fs, M, N')) else some [((d, kc, ks, j, pc + 1, ls, ax_op (fun x y => (x.toUInt32 >>> (y &&& 31).toUInt32).toInt32) N a b :: r), fs, M, N)]
  | .ior => ax_i2 st fun a b r => some [((d, kc, ks, j, pc + 1, ls, ax_op (fun x y => x ||| y) N a b :: r), fs, M, N)]
  | .ixor => ax_i2 st fun a b r => some [((d, kc, ks, j, pc + 1, ls, ax_op (fun x y => x ^^^ y) N a b :: r), fs, M, N)]
  | .imul => ax_i2 st fun a b r => bif ax_small N a then some ((ax_cz N a).map fun N' => ((d, kc, ks, j, pc, ls, st), fs, M, N')) else bif ax_small N b then some ((ax_cz N b).map fun N' => ((d, kc, ks, j, pc, ls, st), fs, M, N')) else some [((d, kc, ks, j, pc + 1, ls, ax_op (fun x y => x * y) N a b :: r), fs, M, N)]
  | .idiv => ax_i2 st fun a b r => bif (decide (0 < (ax_iv N b).1) || decide ((ax_iv N b).2 < 0)) then (bif ax_small N a then some ((ax_cz N a).map fun N' => ((d, kc, ks, j, pc, ls, st), fs, M, N')) else some [((d, kc, ks, j, pc + 1, ls, ax_op (fun x y => x / y) N a b :: r), fs, M, N)]) else none
  | .irem => ax_i2 st fun a b r => bif (decide (0 < (ax_iv N b).1) || decide ((ax_iv N b).2 < 0)) then (bif ax_small N a then some ((ax_cz N a).map fun N' => ((d, kc, ks, j, pc, ls, st), fs, M, N')) else some [((d, kc, ks, j, pc + 1, ls, ax_op (fun x y => x - x / y * y) N a b :: r), fs, M, N)]) else none
  | .dup => match st with
      | a :: r => bif ax_ok1 (some a) then some [((d, kc, ks, j, pc + 1, ls, a :: a :: r), fs, M, N)] else none
      | [] => none
  | .dup2 => match st with
      | a :: b :: r => bif (ax_ok1 (some a) && ax_ok1 (some b)) then some [((d, kc, ks, j, pc + 1, ls, a :: b :: a :: b :: r), fs, M, N)] else none
      | _ => none
  | .pop => match st with
      | a :: r => bif ax_ok1 (some a) then some [((d, kc, ks, j, pc + 1, ls, r), fs, M, N)] else none
      | [] => none
  | .iload_n w => match ax_nth ls w.val with
      | some a => bif ax_isI a then some [((d, kc, ks, j, pc + 1, ls, a :: st), fs, M, N)] else none
      | none => none
  | .aload_n w => match ax_nth ls w.val with
      | some (.inl (.ref a)) => some [((d, kc, ks, j, pc + 1, ls, .inl (.ref a) :: st), fs, M, N)]
      | _ => none
  | .istore_n w => ax_i1 st fun a r => match ax_put ls w.val a with
      | some ls2 => some [((d, kc, ks, j, pc + 1, ls2, r), fs, M, N)]
      | none => none
  | .astore_n w => ax_r1 st fun a r => match ax_put ls w.val (.inl (.ref a)) with
      | some ls2 => some [((d, kc, ks, j, pc + 1, ls2, r), fs, M, N)]
      | none => none
  | .iload w => match ax_nth ls w with
      | some a => bif ax_isI a then some [((d, kc, ks, j, pc + 2, ls, a :: st), fs, M, N)] else none
      | none => none
  | .aload w => match ax_nth ls w with
      | some (.inl (.ref a)) => some [((d, kc, ks, j, pc + 2, ls, .inl (.ref a) :: st), fs, M, N)]
      | _ => none
  | .istore w => ax_i1 st fun a r => match ax_put ls w a with
      | some ls2 => some [((d, kc, ks, j, pc + 2, ls2, r), fs, M, N)]
      | none => none
  | .astore w => ax_r1 st fun a r => match ax_put ls w (.inl (.ref a)) with
      | some ls2 => some [((d, kc, ks, j, pc + 2, ls2, r), fs, M, N)]
      | none => none
  | .iinc w _ => match ax_nth ls w with
      | some a => bif ax_isI a then (match ax_put ls w (ax_add N a (.inl (.int z))) with
        | some ls2 => some [((d, kc, ks, j, pc + 3, ls2, st), fs, M, N)]
        | none => none) else none
      | none => none
  | .ifCond cd _ => ax_i1 st fun a r => some (((ax_cT cd N a (.inl (.int 0))).map fun N' => ((d, kc, ks, j, x, ls, r), fs, M, N')) ++ ((ax_cF cd N a (.inl (.int 0))).map fun N' => ((d, kc, ks, j, pc + 3, ls, r), fs, M, N')))
  | .if_icmp cd _ => ax_i2 st fun a b r => bif (ax_isv a && (ax_isv b && ax_small N a)) then some ((ax_cz N a).map fun N' => ((d, kc, ks, j, pc, ls, st), fs, M, N')) else some (((ax_cT cd N a b).map fun N' => ((d, kc, ks, j, x, ls, r), fs, M, N')) ++ ((ax_cF cd N a b).map fun N' => ((d, kc, ks, j, pc + 3, ls, r), fs, M, N')))
  | .goto _ => some [((d, kc, ks, j, x, ls, st), fs, M, N)]
  | .tableswitch dflt lo hi offs => ax_i1 st fun a r => bif (decide (0 ≤ (pc : Int) + dflt) && ((offs.toList.all fun o => decide (0 ≤ (pc : Int) + o)) && decide (offs.size = (hi - lo + 1).toNat))) then some (((bif decide ((ax_iv N a).1 < lo) then [ax_nw N a (-2147483648) (lo - 1)] else []).map fun N' => ((d, kc, ks, j, ((pc : Int) + dflt).toNat, ls, r), fs, M, N')) ++ (((bif decide (hi < (ax_iv N a).2) then [ax_nw N a (hi + 1) 2147483647] else []).map fun N' => ((d, kc, ks, j, ((pc : Int) + dflt).toNat, ls, r), fs, M, N')) ++ ax_tb (fun t N' => ((d, kc, ks, j, t, ls, r), fs, M, N')) N a pc lo offs.toList)) else none
  | .lookupswitch dflt ps => ax_i1 st fun a r => bif (decide (0 ≤ (pc : Int) + dflt) && (ps.toList.all fun o => decide (0 ≤ (pc : Int) + o.2))) then some (ax_lk (fun t N' => ((d, kc, ks, j, t, ls, r), fs, M, N')) N a pc dflt ps.toList [N]) else none
  | .ldc _ => bif Nat.beq x 0 then some [((d, kc, ks, j, pc + 2, ls, .inl (.int z) :: st), fs, M, N)] else some [((d, kc, ks, j, pc + 2, ls, .inl (.ref (1000000000 + x)) :: st), fs, M, N)]
  | .ldc_w _ => some [((d, kc, ks, j, pc + 3, ls, .inl (.int z) :: st), fs, M, N)]
  | .getfield _ => ax_r1 st fun a r => ax_sk (M.2.1 a) x fun n0 => bif Nat.ble (y + 1) n0 then (bif sx_isI x y then some [((d, kc, ks, j, pc + 3, ls, (M.2.2.1 a).2 y :: r), fs, M, N)] else (match M.2.2.2 a y with
      | some q => some [((d, kc, ks, j, pc + 3, ls, .inl (.ref q) :: r), fs, M, N)]
      | none => none)) else none
  | .putfield _ => bif (Nat.ble (x + 1) 13 && Nat.ble (y + 1) (sx_N x)) then (match st with
      | v :: .inl (.ref a) :: r => ax_sk (M.2.1 a) x fun n0 => bif Nat.ble (y + 1) n0 then (bif sx_isI x y then (bif (ax_isI v && (!(sx_isZ x y) || (decide (0 ≤ (ax_iv N v).1) && decide ((ax_iv N v).2 ≤ 1)))) then some [((d, kc, ks, j, pc + 3, ls, r), fs, (M.1, M.2.1, ax_wr M.2.2.1 a y v, M.2.2.2), N)] else none) else (match v with
        | .inl (.ref q) => some [((d, kc, ks, j, pc + 3, ls, r), fs, (M.1, M.2.1, M.2.2.1, sx_up M.2.2.2 a y (some q)), N)]
        | _ => none)) else none
      | _ => none) else none
  | .iaload => match st with
      | i :: .inl (.ref a) :: r => bif ax_isI i then (bif Nat.beq a 1000000000 then ax_ix N i X.1 (fun lo hi => bif Nat.beq lo hi then some [((d, kc, ks, j, pc + 1, ls, .inr (some (lo, 0)) :: r), fs, M, N)] else none) else ax_sk (M.2.1 a) 13 fun n0 => ax_ix N i n0 fun lo hi => bif (!(ax_all ((M.2.2.1 a).2) lo (hi - lo)) && ax_small N i) then some ((ax_cz N i).map fun N' => ((d, kc, ks, j, pc, ls, i :: .inl (.ref a) :: r), fs, M, N')) else some [((d, kc, ks, j, pc + 1, ls, (bif ax_all ((M.2.2.1 a).2) lo (hi - lo) then (M.2.2.1 a).2 lo else .inr none) :: r), fs, M, N)]) else none
      | _ => none
  | .iastore => match st with
      | v :: i :: .inl (.ref a) :: r => bif (ax_isI i && ax_isI v) then ax_sk (M.2.1 a) 13 (fun n0 => ax_ix N i n0 fun lo hi => bif Nat.beq lo hi then some [((d, kc, ks, j, pc + 1, ls, r), fs, (M.1, M.2.1, ax_wr M.2.2.1 a lo v, M.2.2.2), N)] else some [((d, kc, ks, j, pc + 1, ls, r), fs, (M.1, M.2.1, ax_uac M.2.2.1 a (ax_rg ((M.2.2.1 a).2) lo hi), M.2.2.2), N)]) else none
      | _ => none
  | .aaload => match st with
      | i :: .inl (.ref a) :: r => bif ax_isI i then ax_sk (M.2.1 a) 14 (fun n0 => ax_ix N i n0 fun lo hi => bif Nat.beq lo hi then (match M.2.2.2 a lo with
        | some q => some [((d, kc, ks, j, pc + 1, ls, .inl (.ref q) :: r), fs, M, N)]
        | none => none) else bif Nat.ble (hi - lo) 8 then some ((ax_cz N i).map fun N' => ((d, kc, ks, j, pc, ls, i :: .inl (.ref a) :: r), fs, M, N')) else none) else none
      | _ => none
  | .aastore => match st with
      | .inl (.ref v) :: i :: .inl (.ref a) :: r => bif ax_isI i then ax_sk (M.2.1 a) 14 (fun n0 => ax_sk (M.2.1 v) 10 fun _ => ax_ix N i n0 fun lo hi => bif Nat.beq lo hi then some [((d, kc, ks, j, pc + 1, ls, r), fs, (M.1, M.2.1, M.2.2.1, sx_up M.2.2.2 a lo (some v)), N)] else none) else none
      | _ => none
  | .arraylength => ax_r1 st fun a r => bif Nat.beq a 1000000000 then (bif Nat.beq X.1 0 then none else some [((d, kc, ks, j, pc + 1, ls, .inl (.int (Int32.ofNat X.1)) :: r), fs, M, N)]) else ax_sk (M.2.1 a) 13 fun n0 => some [((d, kc, ks, j, pc + 1, ls, .inl (.int (Int32.ofNat n0)) :: r), fs, M, N)]
  | .newarray ty => bif (decide (ty = .int) && (Nat.ble (M.1 + 1) 100000 && Nat.ble 1 kc)) then (match st with
      | .inl (.int w) :: r => bif (decide (¬ w < 0) && (Nat.ble w.toNatClampNeg 100000 && Nat.ble w.toNatClampNeg ks)) then some [((d, kc - 1, ks - w.toNatClampNeg, j, pc + 2, ls, .inl (.ref M.1) :: r), fs, (M.1 + 1, sx_u1 M.2.1 M.1 (some (13, w.toNatClampNeg)), ax_uac M.2.2.1 M.1 (fun _ => .inl (.int 0)), sx_ua M.2.2.2 M.1 (fun _ => none)), N)] else none
      | _ => none) else none
  | .anewarray _ => bif (Nat.ble (M.1 + 1) 100000 && Nat.ble 1 kc) then (match st with
      | .inl (.int w) :: r => bif (decide (¬ w < 0) && (Nat.ble w.toNatClampNeg 100000 && Nat.ble w.toNatClampNeg ks)) then some [((d, kc - 1, ks - w.toNatClampNeg, j, pc + 3, ls, .inl (.ref M.1) :: r), fs, (M.1 + 1, sx_u1 M.2.1 M.1 (some (14, w.toNatClampNeg)), ax_uac M.2.2.1 M.1 (fun _ => .inl (.int 0)), sx_ua M.2.2.2 M.1 (fun _ => none)), N)] else none
      | _ => none) else none
  | .new _ => bif (Nat.ble (M.1 + 1) 100000 && (Nat.ble 1 kc && Nat.ble (sx_N x) ks)) then some [((d, kc - 1, ks - sx_N x, j, pc + 3, ls, .inl (.ref M.1) :: st), fs, (M.1 + 1, sx_u1 M.2.1 M.1 (some (x, sx_N x)), ax_uac M.2.2.1 M.1 (fun _ => .inl (.int 0)), sx_ua M.2.2.2 M.1 (fun _ => none)), N)] else none
  | .invokevirtual _ => bif (Nat.beq y (sx_na x) && (Nat.beq (sx_kd x) 1 && (Nat.ble (x + 1) 9996 && Nat.ble (sx_oc x + 1) 13))) then ax_r1 (st.drop y) (fun a r => ax_sk (M.2.1 a) (sx_oc x) fun _ => ax_in X d kc ks j pc ls r fs M N x (.inl (.ref a) :: (st.take y).reverse)) else none
  | .invokespecial _ => bif Nat.beq x 9999 then ax_r1 st (fun a r => bif (Nat.ble (ax_cat r) 8 && Nat.ble 1 d) then some [((d, kc, ks, j, pc + 3, ls, r), fs, M, N)] else none) else bif (Nat.beq y (sx_na x) && (Nat.beq (sx_kd x) 2 && Nat.ble (x + 1) 9996)) then ax_r1 (st.drop y) (fun a r => ax_sk (M.2.1 a) (sx_oc x) fun _ => ax_in X d kc ks j pc ls r fs M N x (.inl (.ref a) :: (st.take y).reverse)) else none
  | .invokestatic _ => bif Nat.beq x 9996 then ax_i2 st (fun a b r => bif (Nat.ble (ax_cat r) 8 && Nat.ble 1 d) then some [((d, kc, ks, j, pc + 3, ls, ax_op (fun x y => if x < y then y else x) N a b :: r), fs, M, N)] else none) else bif Nat.beq x 9997 then ax_i2 st (fun a b r => bif (Nat.ble (ax_cat r) 8 && Nat.ble 1 d) then some [((d, kc, ks, j, pc + 3, ls, ax_op (fun x y => if y < x then y else x) N a b :: r), fs, M, N)] else none) else bif Nat.beq x 9998 then (match st with
      | .inl (.int w) :: .inl (.int dp) :: .inl (.ref a) :: .inl (.int sp) :: .inl (.ref a0) :: r => ax_sk (M.2.1 a0) 13 fun n0 => ax_sk (M.2.1 a) 13 fun n1 => bif ((Nat.ble (ax_cat r) 8 && Nat.ble 1 d) && (decide (¬ sp < 0) && (decide (¬ dp < 0) && (decide (¬ w < 0) && (Nat.ble (sp.toNatClampNeg + w.toNatClampNeg) n0 && Nat.ble (dp.toNatClampNeg + w.toNatClampNeg) n1))))) then some [((d, kc, ks, j, pc + 3, ls, r), fs, (M.1, M.2.1, ax_uac M.2.2.1 a (ax_cpy ((M.2.2.1 a0).2) ((M.2.2.1 a).2) sp.toNatClampNeg dp.toNatClampNeg w.toNatClampNeg), M.2.2.2), N)] else none
      | _ => none) else bif (Nat.beq y (sx_na x) && (Nat.beq (sx_kd x) 0 && (Nat.ble (x + 1) 9996 && Nat.ble y st.length))) then ax_in X d kc ks j pc ls (st.drop y) fs M N x (st.take y).reverse else none
  | .ireturn => match st with
      | [a] => bif (ax_isI a && (decide (sx_rt j = some .int) || (decide (sx_rt j = some .boolean) && (decide (0 ≤ (ax_iv N a).1) && decide ((ax_iv N a).2 ≤ 1))))) then (match fs with
        | [] => bif X.2.2.2.2 (some a) M N then some [] else none
        | G :: fs2 => some [((G.1, G.2.1, G.2.2.1, G.2.2.2.1, G.2.2.2.2.1 + 3, G.2.2.2.2.2.1, a :: G.2.2.2.2.2.2), fs2, M, N)]) else none
      | _ => none
  | .return_ => match st with
      | [] => bif decide (sx_rt j = none) then (match fs with
        | [] => bif X.2.2.2.2 none M N then some [] else none
        | G :: fs2 => some [((G.1, G.2.1, G.2.2.1, G.2.2.2.1, G.2.2.2.2.1 + 3, G.2.2.2.2.2.1, G.2.2.2.2.2.2), fs2, M, N)]) else none
      | _ => none
  | _ => none
noncomputable def ax_step (X : ax_X) (c : ax_C) : ax_O := match c with
  | ((d, kc, ks, j, pc, ls, st), fs, M, N) => (match sx_tab j pc with
    | some (i, _, x, y, z) => ax_ins X d kc ks j pc ls st fs M N i x y z
    | none => none)
noncomputable def ax_run (X : ax_X) : Nat → List ax_C → Bool
  | _, [] => true
  | 0, _ :: _ => false
  | n + 1, c :: cs => match ax_step X c with
    | some l => ax_run X n (l ++ cs)
    | none => false
