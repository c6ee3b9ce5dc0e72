-- what can be set, what can be done
noncomputable def zPs (S T l1 l2 l3 : Int) : Prop := (l1 = 0 ∧ 0 ≤ l3 ∧ l3 ≤ 9) ∨ (l1 = 1 ∧ 0 ≤ l2 ∧ l2 < S ∧ 0 ≤ l3 ∧ l3 ≤ 99) ∨ (l1 = 2 ∧ 0 ≤ l2 ∧ l2 < S ∧ 0 ≤ l3 ∧ l3 ≤ 999) ∨ (l1 = 3 ∧ 0 ≤ l2 ∧ l2 < T ∧ 0 ≤ l3 ∧ l3 ≤ 65535)
noncomputable def zCw (S T d : Int) : Int := if d = 0 ∨ d = 1 ∨ d = 6 then T else if d = 2 ∨ d = 7 then 6 else if 3 ≤ d ∧ d ≤ 5 then S else 0
noncomputable def zCt (S d : Int) : Int := if d = 0 ∨ d = 2 then S else if d = 6 then 16 else -1
theorem zCw_f (S T d : Int) : (d = 0 → zCw S T d = T) ∧ (d = 1 → zCw S T d = T) ∧ (d = 6 → zCw S T d = T) ∧ (d = 2 → zCw S T d = 6) ∧ (d = 7 → zCw S T d = 6) ∧ (3 ≤ d ∧ d ≤ 5 → zCw S T d = S) ∧ (d < 0 ∨ 7 < d → zCw S T d = 0) := by
  unfold zCw
  refine ⟨fun h => ?_, fun h => ?_, fun h => ?_, fun h => ?_, fun h => ?_, fun h => ?_, fun h => ?_⟩
  · rw [if_pos (by omega)]
  · rw [if_pos (by omega)]
  · rw [if_pos (by omega)]
  · rw [if_neg (by omega), if_pos (by omega)]
  · rw [if_neg (by omega), if_pos (by omega)]
  · rw [if_neg (by omega), if_neg (by omega), if_pos (by omega)]
  · rw [if_neg (by omega), if_neg (by omega), if_neg (by omega)]
theorem zCt_f (S d : Int) : (d = 0 → zCt S d = S) ∧ (d = 2 → zCt S d = S) ∧ (d = 6 → zCt S d = 16) ∧ (¬ d = 0 → ¬ d = 2 → ¬ d = 6 → zCt S d = -1) := by
  unfold zCt
  refine ⟨fun h => ?_, fun h => ?_, fun h => ?_, fun h1 h2 h3 => ?_⟩
  · rw [if_pos (by omega)]
  · rw [if_pos (by omega)]
  · rw [if_neg (by omega), if_pos h]
  · rw [if_neg (by omega), if_neg h3]
noncomputable def zPa (S T l1 l2 l3 : Int) : Prop := (0 ≤ l2 ∧ l2 < zCw S T l1) ∧ (zCt S l1 = -1 ∨ (0 ≤ l3 ∧ l3 < zCt S l1))
theorem zPa_n1 {S T l1 l2 l3 : Int} (h : l2 < 0) : ¬ zPa S T l1 l2 l3 := fun q => by have := q.1.1; omega
theorem zPa_n2 {S T l1 l2 l3 v : Int} (e : v = zCw S T l1) (h : v ≤ l2) : ¬ zPa S T l1 l2 l3 := fun q => by have := q.1.2; omega
theorem zPa_n3 {S T l1 l2 l3 v : Int} (e : v = zCt S l1) (n : ¬ v = -1) (h : l3 < 0) : ¬ zPa S T l1 l2 l3 := fun q => by rcases q.2 with w | w <;> omega
theorem zPa_n4 {S T l1 l2 l3 v : Int} (e : v = zCt S l1) (n : ¬ v = -1) (h : v ≤ l3) : ¬ zPa S T l1 l2 l3 := fun q => by rcases q.2 with w | w <;> omega
theorem zPa_y1 {S T l1 l2 l3 v u : Int} (e : v = zCw S T l1) (e2 : u = zCt S l1) (h0 : 0 ≤ l2) (h1 : l2 < v) (h : u = -1) : zPa S T l1 l2 l3 := ⟨⟨h0, by omega⟩, Or.inl (by omega)⟩
theorem zPa_y2 {S T l1 l2 l3 v u : Int} (e : v = zCw S T l1) (e2 : u = zCt S l1) (h0 : 0 ≤ l2) (h1 : l2 < v) (h2 : 0 ≤ l3) (h : l3 < u) : zPa S T l1 l2 l3 := ⟨⟨h0, by omega⟩, Or.inr ⟨h2, by omega⟩⟩
theorem zPa_0 {S T l1 l2 l3 : Int} (h : l1 = 0) (hS : 0 ≤ S) : zPa S T l1 l2 l3 ↔ ((0 ≤ l2 ∧ l2 < T) ∧ 0 ≤ l3 ∧ l3 < S) := by
  have hw := (zCw_f S T l1).1 h
  have ht := (zCt_f S l1).1 h
  unfold zPa
  rw [hw, ht]
  constructor <;> intro q <;> omega
theorem zPa_1 {S T l1 l2 l3 : Int} (h : l1 = 1) : zPa S T l1 l2 l3 ↔ (0 ≤ l2 ∧ l2 < T) := by
  have hw := (zCw_f S T l1).2.1 h
  have ht := (zCt_f S l1).2.2.2 (by omega) (by omega) (by omega)
  unfold zPa
  rw [hw, ht]
  constructor <;> intro q <;> omega
theorem zPa_6 {S T l1 l2 l3 : Int} (h : l1 = 6) : zPa S T l1 l2 l3 ↔ ((0 ≤ l2 ∧ l2 < T) ∧ 0 ≤ l3 ∧ l3 < 16) := by
  have hw := (zCw_f S T l1).2.2.1 h
  have ht := (zCt_f S l1).2.2.1 h
  unfold zPa
  rw [hw, ht]
  constructor <;> intro q <;> omega
theorem zPa_2 {S T l1 l2 l3 : Int} (h : l1 = 2) (hS : 0 ≤ S) : zPa S T l1 l2 l3 ↔ ((0 ≤ l2 ∧ l2 < 6) ∧ 0 ≤ l3 ∧ l3 < S) := by
  have hw := (zCw_f S T l1).2.2.2.1 h
  have ht := (zCt_f S l1).2.1 h
  unfold zPa
  rw [hw, ht]
  constructor <;> intro q <;> omega
theorem zPa_7 {S T l1 l2 l3 : Int} (h : l1 = 7) : zPa S T l1 l2 l3 ↔ (0 ≤ l2 ∧ l2 < 6) := by
  have hw := (zCw_f S T l1).2.2.2.2.1 h
  have ht := (zCt_f S l1).2.2.2 (by omega) (by omega) (by omega)
  unfold zPa
  rw [hw, ht]
  constructor <;> intro q <;> omega
theorem zPa_3 {S T l1 l2 l3 : Int} (h : 3 ≤ l1 ∧ l1 ≤ 5) : zPa S T l1 l2 l3 ↔ (0 ≤ l2 ∧ l2 < S) := by
  have hw := (zCw_f S T l1).2.2.2.2.2.1 h
  have ht := (zCt_f S l1).2.2.2 (by omega) (by omega) (by omega)
  unfold zPa
  rw [hw, ht]
  constructor <;> intro q <;> omega
theorem zPa_o {S T l1 l2 l3 : Int} (h : l1 < 0 ∨ 7 < l1) : zPa S T l1 l2 l3 ↔ False := by
  have hw := (zCw_f S T l1).2.2.2.2.2.2 h
  unfold zPa
  rw [hw]
  constructor
  · intro q; omega
  · intro q; exact q.elim
theorem zPs_n {l : Int} {P X : Prop} (h : l = 0 → ¬ P) (h0 : l = 0) (hp : P) : X := absurd hp (h h0)
theorem zPs_y {l : Int} {P X : Prop} (h : ¬ l = 0 → P) (h0 : ¬ l = 0) (hp : ¬ P) : X := absurd (h h0) hp
theorem zP_1 {a b c d l1 l2 l3 v : Int} {P : Int → Int → Int → Int → Int → Prop} {X : Prop} (h : P a b l1 l2 l3 → ¬ v = 0) (h0 : v = 0) (e1 : a = c) (e2 : b = d) (hp : P c d l1 l2 l3) : X := by
  rw [e1, e2] at h
  exact absurd h0 (h hp)
theorem zP_2 {a b c d l1 l2 l3 v : Int} {P : Int → Int → Int → Int → Int → Prop} {X : Prop} (h : ¬ P a b l1 l2 l3 → v = 0) (h0 : ¬ v = 0) (e1 : a = c) (e2 : b = d) (hp : ¬ P c d l1 l2 l3) : X := by
  rw [e1, e2] at h
  exact absurd (h hp) h0
theorem zPs_of {a b c d l1 l2 l3 v : Int} (h : ¬ zPs a b l1 l2 l3 → v = 0) (h0 : ¬ v = 0) (e1 : a = c) (e2 : b = d) : zPs c d l1 l2 l3 := Classical.byContradiction (fun hp => by
  rw [e1, e2] at h
  exact h0 (h hp))
theorem zP_eq2 {a b c d l1 l2 l3 v w : Int} {P : Int → Int → Int → Int → Int → Prop} (h1 : P a b l1 l2 l3 → v = 1) (h2 : ¬ P a b l1 l2 l3 → v = 0) (k1 : P c d l1 l2 l3 → w = 1) (k2 : ¬ P c d l1 l2 l3 → w = 0) (e1 : a = c) (e2 : b = d) : w = v := by
  rw [e1, e2] at h1 h2
  by_cases q : P c d l1 l2 l3
  · rw [k1 q, h1 q]
  · rw [k2 q, h2 q]
