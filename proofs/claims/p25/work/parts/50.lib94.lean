-- THE LAW tells both the same
theorem zfk_of {o a : Int → Int} : ∀ {L : List (Int × Int)} {s : Int}, zEl o a (zex L) s → (∀ i : Int, s ≤ i → i < s + ((zex L).length : Int) → o i = 1 → 0 ≤ a i ∧ a i ≤ 8) → zfk L
  | [], _, _, _ => trivial
  | x :: L, s, h, b => by
    have e : zex (x :: L) = (if x.1 = 5 then [(0, x.2), (5, 0)] else [x]) ++ zex L := rfl
    rw [e] at h b
    obtain ⟨h1, h2⟩ := zEl_s h
    rw [List.length_append] at b
    refine ⟨fun q => ?_, zfk_of h2 (fun i i0 i1 => b i (by omega) (by omega))⟩
    have n5 : ¬ x.1 = 5 := by omega
    rw [if_neg n5] at h1 b
    have l1 : (([x] : List (Int × Int)).length : Int) = 1 := rfl
    obtain ⟨⟨p1, p2⟩, -⟩ := h1
    have r := b s (Int.le_refl _) (by omega) (by omega)
    omega
theorem zgl_of {o a K F W B : Int → Int} : ∀ {Ls : List zLi} {k s e : Int}, zLs o a K F W B (Ls.map zxl) k s e → zgt Ls → (∀ l i : Int, k ≤ l → l < k + (Ls.length : Int) → F l ≤ i → i < B l → o i = 1 → 0 ≤ a i ∧ a i ≤ 8) → zgl Ls
  | [], _, _, _, _, _, _ => trivial
  | x :: Ls, k, s, e, h, t, b => by
    obtain ⟨⟨h1, h2, h3, h4, h5⟩, h6⟩ := h
    obtain ⟨⟨t1, t2⟩, t3⟩ := t
    rw [List.length_cons] at b
    have h5' : zEl o a (zex x.2.1 ++ zex x.2.2) s := h5
    have h4' : B k = s + ((zex x.2.1).length : Int) + ((zex x.2.2).length : Int) := h4
    obtain ⟨p1, p2⟩ := zEl_s h5'
    have bk := fun i => b k i (Int.le_refl _) (by omega)
    rw [h2, h4'] at bk
    exact ⟨⟨t1, zfk_of p1 (fun i i0 i1 => bk i i0 (by omega)), t2, zfk_of p2 (fun i i0 i1 => bk i (by omega) i1)⟩, zgl_of h6 t3 (fun l i l0 l1 => b l i (by omega) (by omega))⟩
theorem zj_law1 {many : Int} {lf lh lt op arg : Int → Int} (h : zj_law many lf lh lt op arg) {l i : Int} (l0 : 0 ≤ l) (l1 : l < many) (i0 : lf l ≤ i) (i1 : i < lt l) (e : op i = 1) : 0 ≤ arg i ∧ arg i ≤ 8 := by
  obtain ⟨⟨b1, b2, b3, b4⟩, s1, s2⟩ := h l l0 l1
  by_cases c : i < lh l
  · have q := s1 (i - lf l).toNat (by omega)
    have ei : lf l + (((i - lf l).toNat : Nat) : Int) = i := by omega
    have q2 := q.2.1
    rw [ei] at q2
    exact q2 e
  · have q := s2 (i - lh l).toNat (by omega)
    have ei : lh l + (((i - lh l).toNat : Nat) : Int) = i := by omega
    have q2 := q.2.1
    rw [ei] at q2
    exact q2 e
theorem zfct_eq {A B C A' B' C' f : Int → Int} {p w : Int} (a : A p = A' p) (b : B p = B' p) (c : C p = C' p) : zfct A B C f p w = zfct A' B' C' f p w := by
  unfold zfct
  rw [a, b, c]
theorem zLcm_eq {g : zi_M} {r : Nat} {kd p w : Int} {f : Int → Int} (I : zk_I g) (R : zLW g) (a : g (r + 1) p = g 218 p) (b : g (r + 2) p = g 219 p) (c : g (r + 3) p = g 220 p) : zLc g r kd p w f = zLm g kd p w f := by
  obtain ⟨Ls, t, ⟨c1, c2⟩, r1, e, r2, r3⟩ := R
  have gl : zgl Ls := zgl_of r3 t (fun l i l0 l1 i0 i1 o => zj_law1 I.2.law l0 (by omega) i0 i1 o)
  unfold zLc zLm
  rw [zfct_eq a b c, ← c2, ← r1]
  exact ztl_eq Ls rfl c1 r3 gl
