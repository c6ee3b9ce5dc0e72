-- what can be set, what can be done
noncomputable def zPs (S T l1 l2 l3 : Int) : Prop := (l1 = 0 ∧ 0 ≤ l3 ∧ l3 ≤ 9) ∨ (l1 = 1 ∧ 0 ≤ l2 ∧ l2 < S ∧ 0 ≤ l3 ∧ l3 ≤ 99) ∨ (l1 = 2 ∧ 0 ≤ l2 ∧ l2 < S ∧ 0 ≤ l3 ∧ l3 ≤ 999) ∨ (l1 = 3 ∧ 0 ≤ l2 ∧ l2 < T ∧ 0 ≤ l3 ∧ l3 ≤ 65535)
noncomputable def zPa (S T l1 l2 l3 : Int) : Prop := (l1 = 0 ∧ 0 ≤ l2 ∧ l2 < T ∧ 0 ≤ l3 ∧ l3 < S) ∨ (l1 = 1 ∧ 0 ≤ l2 ∧ l2 < T) ∨ (l1 = 6 ∧ 0 ≤ l2 ∧ l2 < T ∧ 0 ≤ l3 ∧ l3 ≤ 15) ∨ (l1 = 2 ∧ 0 ≤ l2 ∧ l2 ≤ 5 ∧ 0 ≤ l3 ∧ l3 < S) ∨ (l1 = 7 ∧ 0 ≤ l2 ∧ l2 ≤ 5) ∨ (3 ≤ l1 ∧ l1 ≤ 5 ∧ 0 ≤ l2 ∧ l2 < S)
theorem zPs_n {l : Int} {P X : Prop} (h : l = 0 → ¬ P) (h0 : l = 0) (hp : P) : X := absurd hp (h h0)
theorem zPs_y {l : Int} {P X : Prop} (h : ¬ l = 0 → P) (h0 : ¬ l = 0) (hp : ¬ P) : X := absurd (h h0) hp
theorem zP_1 {a b c d l1 l2 l3 v : Int} {P : Int → Int → Int → Int → Int → Prop} {X : Prop} (h : P a b l1 l2 l3 → ¬ v = 0) (h0 : v = 0) (e1 : a = c) (e2 : b = d) (hp : P c d l1 l2 l3) : X := by
  rw [e1, e2] at h
  exact absurd h0 (h hp)
theorem zP_2 {a b c d l1 l2 l3 v : Int} {P : Int → Int → Int → Int → Int → Prop} {X : Prop} (h : ¬ P a b l1 l2 l3 → v = 0) (h0 : ¬ v = 0) (e1 : a = c) (e2 : b = d) (hp : ¬ P c d l1 l2 l3) : X := by
  rw [e1, e2] at h
  exact absurd (h hp) h0
theorem zPs_of {a b c d l1 l2 l3 v : Int} (h : ¬ zPs a b l1 l2 l3 → v = 0) (h0 : ¬ v = 0) (e1 : a = c) (e2 : b = d) : zPs c d l1 l2 l3 := Classical.byContradiction (fun hp => by
  rw [e1, e2] at h
  exact h0 (h hp))
theorem zP_eq2 {a b c d l1 l2 l3 v w : Int} {P : Int → Int → Int → Int → Int → Prop} (h1 : P a b l1 l2 l3 → v = 1) (h2 : ¬ P a b l1 l2 l3 → v = 0) (k1 : P c d l1 l2 l3 → w = 1) (k2 : ¬ P c d l1 l2 l3 → w = 0) (e1 : a = c) (e2 : b = d) : w = v := by
  rw [e1, e2] at h1 h2
  by_cases q : P c d l1 l2 l3
  · rw [k1 q, h1 q]
  · rw [k2 q, h2 q]
