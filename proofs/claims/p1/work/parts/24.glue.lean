-- what the runs speak of; and splitting a run by a word of the script
abbrev a0_B (E : sx_E) (ρ : Nat → Int) : Prop := ∀ k, k < sx_Ln E → ρ k = (sx_xs E k).toInt
abbrev a0_Q (v : Option Value) (_ : sx_M) : Prop := v = some (.int 1)
theorem a0_XO {E : sx_E} {L : Nat} (hL : sx_Ln E = L) : ax_XO E (a0_B E) a0_Q (a0_X L fun _ _ _ _ => none) := by
  refine ⟨hL, fun ρ h k hk => h k (by rw [hL]; exact hk), ax_jo_ok, (fun x as M N os ho => by cases ho), fun a M N ρ v m hp hB ha hm hN => ?_⟩
  have e : a = some (.inl (.int 1)) := by simpa using hp
  subst e
  match v, ha with
  | some w, ha => have e2 : w = .int 1 := ha; rw [e2]
theorem a0_nost {E : sx_E} {B : (Nat → Int) → Prop} {Q : Option Value → sx_M → Prop} : ∀ c : ax_C, (fun _ => false) c = true → ax_G E B Q c := fun c h => by cases h
/-- the pieces of an interval -/
def ax_pcs (hi : Int) : Int → List Int → List (Int × Int)
  | lo, [] => [(lo, hi)]
  | lo, k :: r => (lo, k) :: ax_pcs hi (k + 1) r
theorem ax_pcs_in {hi x : Int} : ∀ (l : List Int) (lo : Int), lo ≤ x → x ≤ hi → ∃ p ∈ ax_pcs hi lo l, p.1 ≤ x ∧ x ≤ p.2
  | [], lo, h1, h2 => ⟨(lo, hi), List.mem_singleton.mpr rfl, h1, h2⟩
  | k :: r, lo, h1, h2 => by
    rcases Int.lt_or_le k x with g | g
    · obtain ⟨p, hp, h⟩ := ax_pcs_in r (k + 1) (by omega) h2
      exact ⟨p, List.mem_cons_of_mem _ hp, h⟩
    · exact ⟨(lo, k), List.mem_cons_self, h1, g⟩
theorem ax_G.cuts {E : sx_E} {B : (Nat → Int) → Prop} {Q : Option Value → sx_M → Prop} {F : ax_F} {fs : List ax_F} {M : ax_M} {N : ax_N} (v : Nat) (l : List Int) {q : Int × Int} (hv : N[v]? = some q) (h : ∀ p ∈ ax_pcs q.2 q.1 l, ax_G E B Q (F, fs, M, N.set v p)) : ax_G E B Q (F, fs, M, N) := by
  intro ρ ls st gs m hB h1 h2 h3 h4 h5
  obtain ⟨p, hp, hx⟩ := ax_pcs_in l q.1 (h5 v q hv).1 (h5 v q hv).2
  refine h p hp ρ ls st gs m hB h1 h2 h3 h4 fun u z hz => ?_
  change (N.set v p)[u]? = some z at hz
  rw [List.getElem?_set] at hz
  split at hz
  · rename_i e
    subst e
    split at hz
    · cases hz
      exact hx
    · cases hz
  · exact h5 u z hz
theorem a0_bst {E : sx_E} {B : (Nat → Int) → Prop} : ax_bst B [] := fun ρ ρ' h hB => by rw [show ρ' = ρ from funext fun u => h u fun q hq => by cases hq]; exact hB
