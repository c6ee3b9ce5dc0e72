-- THE LAW: what it tells, whichever side runs it. Codes with the kinds of what lies on the stack (true: a truth, 0 or 1)
noncomputable def zw1 (x : Int × Int) (τ τ1 : List Bool) : Prop := ((x.1 = 0 ∨ x.1 = 1) ∧ (τ.length : Int) < 40 ∧ τ1 = false :: τ) ∨ ((x.1 = 2 ∨ x.1 = 3 ∨ x.1 = 4) ∧ ∃ σ : List Bool, τ = false :: false :: σ ∧ τ1 = false :: σ) ∨ (x.1 = 5 ∧ ¬ x.2 = 0 ∧ ∃ σ : List Bool, τ = false :: σ ∧ τ1 = τ) ∨ ((x.1 = 6 ∨ x.1 = 7 ∨ x.1 = 8) ∧ ∃ σ : List Bool, τ = false :: false :: σ ∧ τ1 = true :: σ) ∨ (x.1 = 9 ∧ ∃ σ : List Bool, τ = true :: σ ∧ τ1 = τ) ∨ ((x.1 = 10 ∨ x.1 = 11) ∧ ∃ σ : List Bool, τ = true :: true :: σ ∧ τ1 = true :: σ)
noncomputable def zwty : List (Int × Int) → List Bool → List Bool → Prop
  | [], τ, τ' => τ = τ'
  | x :: L, τ, τ' => ∃ τ1 : List Bool, zw1 x τ τ1 ∧ zwty L τ1 τ'
theorem zwty_a : ∀ {L M : List (Int × Int)} {τ τ1 τ2 : List Bool}, zwty L τ τ1 → zwty M τ1 τ2 → zwty (L ++ M) τ τ2
  | [], _, _, _, _, h, k => by
    have e : _ = _ := h
    rw [e]
    exact k
  | x :: L, M, τ, τ1, τ2, h, k => by
    obtain ⟨σ, h1, h2⟩ := h
    exact ⟨σ, h1, zwty_a h2 k⟩
theorem zwty_1 {x : Int × Int} {τ τ1 : List Bool} (h : zw1 x τ τ1) : zwty [x] τ τ1 := ⟨τ1, h, rfl⟩
section
variable {T : zyT} {t : Int} {τ : List Bool}
theorem zwty_un (h : (zUn T t).2.1 = 0) (hl : (τ.length : Int) < 40) : zwty (zUn T t).1 τ (false :: τ) := by
  by_cases a : T.1 t = 1
  · rw [zUn_1 a]
    exact zwty_1 (Or.inl ⟨Or.inl rfl, hl, rfl⟩)
  · by_cases b : T.1 t = 2 ∧ 7 ≤ T.2.1 t
    · rw [zUn_2 b.1 b.2]
      exact zwty_1 (Or.inl ⟨Or.inr rfl, hl, rfl⟩)
    · rw [zUn_0 a b] at h
      exact absurd h (show ¬ (1 : Int) = 0 by decide)
theorem zwty_pt (h : (zPt T t).2.1 = 0) : zwty (zPt T t).1 (false :: τ) (false :: τ) := by
  by_cases a : T.1 t = 1
  · by_cases b : T.2.1 t = 0
    · rw [zPt_2 a b] at h
      exact absurd h (show ¬ (2 : Int) = 0 by decide)
    · rw [zPt_1 a b]
      exact zwty_1 (Or.inr (Or.inr (Or.inl ⟨rfl, b, τ, rfl, rfl⟩)))
  · rw [zPt_0 a] at h
    exact absurd h (show ¬ (1 : Int) = 0 by decide)
noncomputable def zwsg (l : Int) (τ : List Bool) : List Bool := if l = -1 then false :: τ else false :: false :: τ
theorem zwsg_0 : zwsg (-1) τ = false :: τ := if_pos rfl
theorem zwsg_2 : zwsg 2 τ = false :: false :: τ := if_neg (by decide)
theorem zwsg_3 : zwsg 3 τ = false :: false :: τ := if_neg (by decide)
theorem zwsg_l {l : Int} : ((zwsg l τ).length : Int) ≤ (τ.length : Int) + 2 := by
  unfold zwsg
  split
  · rw [List.length_cons]; omega
  · rw [List.length_cons, List.length_cons]; omega
theorem zwsg_c {l : Int} : ∃ σ : List Bool, zwsg l τ = false :: σ := by
  unfold zwsg
  split
  · exact ⟨_, rfl⟩
  · exact ⟨_, rfl⟩
theorem zwty_lat {l : Int} (h : l = -1 ∨ l = 2 ∨ l = 3) : zwty (zLat l) (zwsg l τ) (false :: τ) := by
  unfold zLat zwsg
  by_cases e : l = -1
  · rw [if_pos e, if_pos e]
    exact rfl
  · rw [if_neg e, if_neg e]
    exact zwty_1 (Or.inr (Or.inl ⟨by show l = 2 ∨ l = 3 ∨ l = 4; omega, τ, rfl, rfl⟩))
theorem zwty_fl (n : Nat) : ∀ (l t : Int) (τ : List Bool), (l = -1 ∨ l = 2 ∨ l = 3) → (τ.length : Int) + 3 ≤ 40 → (zFl T n l t).2.1 = 0 → zwty (zFl T n l t).1 (zwsg l τ) (false :: τ) := by
  induction n with
  | zero =>
    intro l t τ hl hd h
    have h9 : (9 : Int) = 0 := h
    exact absurd h9 (by decide)
  | succ n ih =>
    intro l t τ hl hd h
    have hg := zwsg_l (l := l) (τ := τ)
    obtain ⟨σ, es⟩ := zwsg_c (l := l) (τ := τ)
    by_cases h1 : zSg T 42 t
    · rw [zFl_m h1] at h ⊢
      by_cases c : (zUn T (t + 1)).2.1 = 0
      · rw [zbd_y c] at h ⊢
        refine zwty_a (zwty_un c (by omega)) (zwty_a (zwty_1 ?_) (ih l _ τ hl hd h))
        rw [es]
        exact Or.inr (Or.inl ⟨Or.inr (Or.inr rfl), σ, rfl, rfl⟩)
      · rw [zbd_n c] at h
        exact absurd h c
    · by_cases h2 : zSg T 47 t
      · rw [zFl_d h2] at h ⊢
        by_cases c : (zPt T (t + 1)).2.1 = 0
        · rw [zbd_y c] at h ⊢
          refine zwty_a (?_ : zwty _ _ (zwsg l τ)) (ih l _ τ hl hd h)
          rw [es]
          exact zwty_pt c
        · rw [zbd_n c] at h
          exact absurd h c
      · by_cases h3 : zSg T 43 t
        · rw [zFl_p h3] at h ⊢
          by_cases c : (zUn T (t + 1)).2.1 = 0
          · rw [zbd_y c] at h ⊢
            have r := ih 2 (zUn T (t + 1)).2.2 τ (Or.inr (Or.inl rfl)) hd h
            rw [zwsg_2] at r
            exact zwty_a (zwty_lat hl) (zwty_a (zwty_un c (by rw [List.length_cons]; omega)) r)
          · rw [zbd_n c] at h
            exact absurd h c
        · by_cases h4 : zSg T 45 t
          · rw [zFl_s h4] at h ⊢
            by_cases c : (zUn T (t + 1)).2.1 = 0
            · rw [zbd_y c] at h ⊢
              have r := ih 3 (zUn T (t + 1)).2.2 τ (Or.inr (Or.inr rfl)) hd h
              rw [zwsg_3] at r
              exact zwty_a (zwty_lat hl) (zwty_a (zwty_un c (by rw [List.length_cons]; omega)) r)
            · rw [zbd_n c] at h
              exact absurd h c
          · rw [zFl_e h1 h2 h3 h4]
            exact zwty_lat hl
theorem zwty_su (h : (zSu T t).2.1 = 0) (hd : (τ.length : Int) + 3 ≤ 40) : zwty (zSu T t).1 τ (false :: τ) := by
  unfold zSu at h ⊢
  by_cases c : (zUn T t).2.1 = 0
  · rw [zbd_y c] at h ⊢
    have r := zwty_fl 402 (-1) (zUn T t).2.2 τ (Or.inl rfl) hd h
    rw [zwsg_0] at r
    exact zwty_a (zwty_un c (by omega)) r
  · rw [zbd_n c] at h
    exact absurd h c
theorem zwty_cp (h : (zCp T t).2.1 = 0) (hd : (τ.length : Int) + 4 ≤ 40) : zwty (zCp T t).1 τ (true :: τ) := by
  unfold zCp at h ⊢
  by_cases c : (zSu T t).2.1 = 0
  · rw [zbd_y c] at h ⊢
    by_cases o : zop T (zSu T t).2.2 = -1
    · rw [if_pos o] at h
      exact absurd h (show ¬ (1 : Int) = 0 by decide)
    · rw [if_neg o] at h ⊢
      have ho : zop T (zSu T t).2.2 = 6 ∨ zop T (zSu T t).2.2 = 7 ∨ zop T (zSu T t).2.2 = 8 := by
        unfold zop at o ⊢
        split
        · exact Or.inl rfl
        · split
          · exact Or.inr (Or.inl rfl)
          · split
            · exact Or.inr (Or.inr rfl)
            · rename_i a b d
              rw [if_neg a, if_neg b, if_neg d] at o
              exact absurd rfl o
      by_cases d : (zSu T ((zSu T t).2.2 + 1)).2.1 = 0
      · rw [zbd_y d]
        refine zwty_a (zwty_su c (by omega)) (zwty_a (zwty_su d (by rw [List.length_cons]; omega)) (zwty_1 ?_))
        exact Or.inr (Or.inr (Or.inr (Or.inl ⟨ho, τ, rfl, rfl⟩)))
      · have h' : (zbd (zSu T ((zSu T t).2.2 + 1)) (fun w => ([(zop T (zSu T t).2.2, 0)], 0, w))).2.1 = 0 := h
        rw [zbd_n d] at h'
        exact absurd h' d
  · rw [zbd_n c] at h
    exact absurd h c
end
/-- truths -/
noncomputable def ztr : Nat → List Bool
  | 0 => []
  | n + 1 => true :: ztr n
theorem ztr_l : ∀ n : Nat, (ztr n).length = n
  | 0 => rfl
  | n + 1 => by
    show (ztr n).length + 1 = n + 1
    rw [ztr_l n]
/-- how many and, or wait -/
noncomputable def znb : List Int → Nat
  | [] => 0
  | x :: t => znb t + (if x = 5 ∨ x = 4 then 1 else 0)
theorem znb_l : ∀ P : List Int, znb P ≤ P.length
  | [] => Nat.le_refl _
  | x :: t => by
    have i := znb_l t
    show znb t + (if x = 5 ∨ x = 4 then 1 else 0) ≤ t.length + 1
    split <;> omega
theorem znb_sn : ∀ P : List Int, znb (zsnP P) = znb P
  | [] => rfl
  | x :: t => by
    by_cases h : x = 6
    · subst h
      rw [zsnP_y.1, znb_sn t]
      show _ = znb t + (if (6 : Int) = 5 ∨ (6 : Int) = 4 then 1 else 0)
      rw [if_neg (by decide)]
      rfl
    · rw [(zsnP_n h).1]
theorem zwty_sn : ∀ (P : List Int) (k : Nat), zwty (zsnL P) (ztr (k + 1)) (ztr (k + 1))
  | [], _ => rfl
  | x :: t, k => by
    by_cases h : x = 6
    · subst h
      rw [zsnP_y.2]
      exact ⟨_, Or.inr (Or.inr (Or.inr (Or.inr (Or.inl ⟨rfl, ztr k, rfl, rfl⟩)))), zwty_sn t k⟩
    · rw [(zsnP_n h).2]
      exact rfl
theorem zwty_sb (l : Int) : ∀ P : List Int, zwty (zsbL l P) (ztr (znb P + 1)) (ztr (znb (zsbP l P) + 1))
  | [] => rfl
  | x :: t => by
    by_cases h : x = 5 ∨ (x = 4 ∧ l = 4)
    · rw [(zsbP_y h).1, (zsbP_y h).2]
      have e : znb (x :: t) = znb t + 1 := by
        show znb t + (if x = 5 ∨ x = 4 then 1 else 0) = _
        rw [if_pos (by omega)]
      rw [e]
      refine ⟨ztr (znb t + 1), Or.inr (Or.inr (Or.inr (Or.inr (Or.inr ⟨?_, ztr (znb t), rfl, rfl⟩)))), zwty_sb l t⟩
      by_cases q : x = 5
      · rw [if_pos q]; exact Or.inl rfl
      · rw [if_neg q]; exact Or.inr rfl
    · rw [(zsbP_n h).1, (zsbP_n h).2]
      exact rfl
theorem zsn_ok : ∀ {P : List Int}, zl_ok 6 5 4 0 P → zl_ok 6 5 4 0 (zsnP P) ∧ zl_of 6 0 (zsnP P) ≤ zl_of 6 0 P
  | [], _ => ⟨trivial, Int.le_refl _⟩
  | x :: t, ok => by
    by_cases h : x = 6
    · subst h
      have i := zsn_ok ok.1
      rw [zsnP_y.1]
      refine ⟨i.1, ?_⟩
      show _ ≤ zl_of 6 0 t + (if (6 : Int) = 6 ∨ (6 : Int) = 0 then 1 else 0)
      have := i.2
      split <;> omega
    · rw [(zsnP_n h).1]
      exact ⟨ok, Int.le_refl _⟩
theorem zsb_of6 (l : Int) : ∀ P : List Int, zl_of 6 0 (zsbP l P) ≤ zl_of 6 0 P
  | [] => Int.le_refl _
  | x :: t => by
    by_cases h : x = 5 ∨ (x = 4 ∧ l = 4)
    · rw [(zsbP_y h).1]
      have i := zsb_of6 l t
      show _ ≤ zl_of 6 0 t + (if x = 6 ∨ x = 0 then 1 else 0)
      split <;> omega
    · rw [(zsbP_n h).1]
      exact Int.le_refl _
theorem zwty_cd {T : zyT} : ∀ (n : Nat) (d : Int) (P : List Int) (t : Int), (d = 1 ∨ d = 0) → zl_ok 6 5 4 0 P → zl_of 6 0 P ≤ 8 → (d = 0 → zl_top P ≠ 6) → (zCd T n d P t).2.1 = 0 → zwty (zCd T n d P t).1 (ztr (znb P + (if d = 1 then 0 else 1))) [true]
  | 0, _, _, _, _, _, _, _, h => absurd h (show ¬ (9 : Int) = 0 by decide)
  | n + 1, d, P, t, hd, ok, h8, ht, h => by
    rcases hd with rfl | rfl
    · rw [if_pos rfl]
      by_cases ho : zOp T t
      · by_cases c8 : 8 ≤ zl_of 6 0 P
        · rw [zCd_8 ho c8] at h
          exact absurd h (show ¬ (3 : Int) = 0 by decide)
        · rw [zCd_o ho c8] at h ⊢
          have hx : (if T.1 t = 2 then (6 : Int) else 0) = 6 ∨ (if T.1 t = 2 then (6 : Int) else 0) = 0 := by
            split
            · exact Or.inl rfl
            · exact Or.inr rfl
          have r := zwty_cd n 1 ((if T.1 t = 2 then (6 : Int) else 0) :: P) (t + 1) (Or.inl rfl) ⟨ok, by omega⟩ (by
            show zl_of 6 0 P + (if (if T.1 t = 2 then (6 : Int) else 0) = 6 ∨ (if T.1 t = 2 then (6 : Int) else 0) = 0 then 1 else 0) ≤ 8
            rw [if_pos hx]
            omega) (fun q => absurd q (by decide)) h
          have e : znb ((if T.1 t = 2 then (6 : Int) else 0) :: P) = znb P := by
            show znb P + (if (if T.1 t = 2 then (6 : Int) else 0) = 5 ∨ (if T.1 t = 2 then (6 : Int) else 0) = 4 then 1 else 0) = _
            rw [if_neg (by omega)]
            rfl
          rw [e, if_pos rfl] at r
          exact r
      · rw [zCd_c ho] at h ⊢
        by_cases c : (zCp T t).2.1 = 0
        · rw [zbd_y c] at h ⊢
          have o := zsn_ok ok
          have r := zwty_cd n 0 (zsnP P) (zCp T t).2.2 (Or.inr rfl) o.1 (by omega) (fun _ => zsn_t P) h
          rw [znb_sn, if_neg (by decide)] at r
          have ln := zl_len (n := 6) (a := 5) (o := 4) (b := 0) (by decide) (by decide) (by decide) P ok
          have nb := znb_l P
          have dl : ((ztr (znb P + 0)).length : Int) + 4 ≤ 40 := by
            rw [ztr_l]
            have : (if zl_top P = 5 then (2 : Int) else if zl_top P = 4 then 1 else 0) ≤ 2 := by
              split
              · decide
              · split <;> decide
            omega
          exact zwty_a (zwty_cp c dl) (zwty_a (zwty_sn P (znb P)) r)
        · rw [zbd_n c] at h
          exact absurd h c
    · rw [if_neg (show ¬ (0 : Int) = 1 by decide)]
      have t6 := ht rfl
      by_cases ha : T.1 t = 2 ∧ (T.2.1 t = 5 ∨ T.2.1 t = 4)
      · rw [zCd_a ha] at h ⊢
        have tp := zsb_top (l := T.2.1 t) (by omega) ok t6
        have s6 := zsb_of6 (T.2.1 t) P
        have r := zwty_cd n 1 (T.2.1 t :: zsbP (T.2.1 t) P) (t + 1) (Or.inl rfl) ⟨zsb_ok ok, by
          rcases ha.2 with e | e
          · exact Or.inr (Or.inr (Or.inl ⟨e, tp.1, tp.2.1⟩))
          · exact Or.inr (Or.inr (Or.inr ⟨e, tp.1, tp.2.1, tp.2.2 e⟩))⟩ (by
          show zl_of 6 0 (zsbP (T.2.1 t) P) + (if T.2.1 t = 6 ∨ T.2.1 t = 0 then 1 else 0) ≤ 8
          rw [if_neg (by omega)]
          omega) (fun q => absurd q (by decide)) h
        have e : znb (T.2.1 t :: zsbP (T.2.1 t) P) = znb (zsbP (T.2.1 t) P) + 1 := by
          show znb (zsbP (T.2.1 t) P) + (if T.2.1 t = 5 ∨ T.2.1 t = 4 then 1 else 0) = _
          rw [if_pos ha.2]
        rw [e, if_pos rfl] at r
        exact zwty_a (zwty_sb _ P) r
      · by_cases c : zl_of 0 0 P = 0
        · rw [zCd_e ha c]
          have r := zwty_sb 4 P
          have tp := zsb_top (l := 4) (Or.inl rfl) ok t6
          have o := zsb_ok (l := 4) ok
          have e0 := zsb_of 4 P
          have e : zsbP 4 P = [] := by
            cases q : zsbP 4 P with
            | nil => rfl
            | cons x y =>
              rw [q] at tp o e0
              have hx : x ≠ 6 ∧ x ≠ 5 ∧ x ≠ 4 := ⟨tp.1, tp.2.1, tp.2.2 rfl⟩
              have y0 := zl_of0 0 0 y
              have e0' : zl_of 0 0 y + (if x = 0 ∨ x = 0 then 1 else 0) = zl_of 0 0 P := e0
              rcases o.2 with z | z | z | z
              · exact absurd z hx.1
              · rw [if_pos (Or.inl z)] at e0'
                exfalso; omega
              · exact absurd z.1 hx.2.1
              · exact absurd z.1 hx.2.2
          rw [e] at r
          exact r
        · by_cases s : zSg T 41 t
          · rw [zCd_p c s] at h ⊢
            have c1 : 1 ≤ zl_of 0 0 P := by have := zl_of0 0 0 P; omega
            obtain ⟨y, ey⟩ := zsb_0 ok t6 c1
            have o := zsb_ok (l := 4) ok
            have s6 := zsb_of6 4 P
            have r1 := zwty_sb 4 P
            rw [ey] at h o s6 r1 ⊢
            have oy := zsn_ok o.1
            have s6' : zl_of 6 0 y + (if (0 : Int) = 6 ∨ (0 : Int) = 0 then 1 else 0) ≤ zl_of 6 0 P := s6
            rw [if_pos (Or.inr rfl)] at s6'
            have r := zwty_cd n 0 (zsnP y) (t + 1) (Or.inr rfl) oy.1 (by omega) (fun _ => zsn_t y) h
            rw [znb_sn, if_neg (by decide)] at r
            have e : znb (0 :: y) = znb y := by
              show znb y + (if (0 : Int) = 5 ∨ (0 : Int) = 4 then 1 else 0) = _
              rw [if_neg (by decide)]
              rfl
            rw [e] at r1
            exact zwty_a (zwty_a r1 (zwty_sn y (znb y))) r
          · rw [zCd_1 ha c s] at h
            exact absurd h (show ¬ (1 : Int) = 0 by decide)
theorem zwty_cnd {T : zyT} {t : Int} (h : (zCnd T t).2.1 = 0) : zwty (zCnd T t).1 [] [true] := zwty_cd 402 1 [] t (Or.inl rfl) trivial (by decide) (fun q => absurd q (by decide)) h
