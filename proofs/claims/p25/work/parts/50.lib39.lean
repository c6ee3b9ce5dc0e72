-- deeds on the view of a world
theorem zWV_8 {r : Nat} {g : zi_M} {k : Int} (a : 236 ≤ k) (b : k < 244) : zWV r g k = g (r + 8) (k - 236) := by
  unfold zWV
  rw [if_neg (by omega), if_pos b]
theorem zWV_9 {r : Nat} {g : zi_M} {k : Int} (a : 244 ≤ k) : zWV r g k = g (r + 9) (k - 244) + 1 := by
  unfold zWV
  rw [if_neg (by omega), if_neg (by omega)]
theorem zWV_0 {r : Nat} {g : zi_M} : zWV r g 0 = g r 17 := by
  unfold zWV
  rw [if_pos rfl]
theorem zAc_C {S T d w x : Int} {r : Nat} {g g' : zi_M} (T8 : T ≤ 8) (S10 : S ≤ 10) (v : zPa S T d w x) (h : zCo r g g' d w x) (e17 : g' r 17 = g r 17) : ∀ k : Int, zDC T k → zWV r g' k = zAc (zWV r g) d w x k := by
  intro k hk
  obtain ⟨-, h8, h9, -, -⟩ := h
  have w0 := v.1
  unfold zCw at w0
  unfold zDC at hk
  by_cases d0 : d = 0
  · rw [if_pos (Or.inl d0)] at w0
    rw [if_neg (by omega)] at h8
    rw [if_pos d0] at h9
    unfold zAc
    rw [if_pos d0]
    by_cases e : k = 244 + w
    · rw [e, zup_e, zWV_9 (by omega), h9, show 244 + w - 244 = w by omega, zup_e]
    · rw [zup_n e]
      rcases hk with q | q | q
      · rw [q, zWV_0, zWV_0, e17]
      · rw [zWV_8 q.1 (by omega), zWV_8 q.1 (by omega), h8]
      · rw [zWV_9 q.1, zWV_9 q.1, h9, zup_n (by omega)]
  · by_cases d1 : d = 1
    · rw [if_pos (Or.inr (Or.inl d1))] at w0
      rw [if_neg (by omega)] at h8
      rw [if_neg d0, if_pos d1] at h9
      unfold zAc
      rw [if_neg d0, if_pos d1]
      by_cases e : k = 244 + w
      · rw [e, zup_e, zWV_9 (by omega), h9, show 244 + w - 244 = w by omega, zup_e]
        rfl
      · rw [zup_n e]
        rcases hk with q | q | q
        · rw [q, zWV_0, zWV_0, e17]
        · rw [zWV_8 q.1 (by omega), zWV_8 q.1 (by omega), h8]
        · rw [zWV_9 q.1, zWV_9 q.1, h9, zup_n (by omega)]
    · rw [if_neg d0, if_neg d1] at h9
      by_cases d6 : d = 6
      · rw [if_pos (Or.inr (Or.inr d6))] at w0
        rw [if_pos d6] at h8
        unfold zAc
        rw [if_neg d0, if_neg d1, if_neg (by omega), if_neg (by omega), if_neg (by omega), if_neg (by omega), if_pos d6]
        by_cases e : k = 236 + w
        · rw [e, zup_e, zWV_8 (by omega) (by omega), zWV_8 (by omega) (by omega), h8, show 236 + w - 236 = w by omega, zup_e]
        · rw [zup_n e]
          rcases hk with q | q | q
          · rw [q, zWV_0, zWV_0, e17]
          · rw [zWV_8 q.1 (by omega), zWV_8 q.1 (by omega), h8, zup_n (by omega)]
          · rw [zWV_9 q.1, zWV_9 q.1, h9]
      · rw [if_neg d6] at h8
        rw [zWV_e e17 (fun i => by rw [h8]) (fun i => by rw [h9]) k]
        rw [if_neg (by omega)] at w0
        unfold zAc
        rw [if_neg d0, if_neg d1]
        by_cases d2 : d = 2
        · rw [if_pos (Or.inl d2)] at w0
          rw [if_pos d2, zup_n (by omega)]
        · rw [if_neg d2]
          by_cases d7 : d = 7
          · rw [if_pos (Or.inr d7)] at w0
            rw [if_neg (by omega), if_neg (by omega), if_neg (by omega), if_neg d6, if_pos d7, zup_n (by omega)]
          · rw [if_neg (by omega)] at w0
            by_cases d3 : d = 3
            · rw [if_pos (by omega)] at w0
              rw [if_pos d3, zup_n (by omega)]
            · rw [if_neg d3]
              by_cases d4 : d = 4
              · rw [if_pos (by omega)] at w0
                rw [if_pos d4, zup_n (by omega)]
              · rw [if_neg d4]
                by_cases d5 : d = 5
                · rw [if_pos (by omega)] at w0
                  rw [if_pos d5, zup_n (by omega)]
                · rw [if_neg d5, if_neg d6, if_neg d7]
/-- a deed on rows that are alike where it matters -/
theorem zAc_k {S T d w x : Int} {f h : Int → Int} (T8 : T ≤ 8) (S10 : S ≤ 10) (v : zPa S T d w x) (e : ∀ k : Int, zDC T k → f k = h k) : ∀ k : Int, zDC T k → zAc f d w x k = zAc h d w x k := by
  intro k hk
  have w0 := v.1
  unfold zCw at w0
  have ek := e k hk
  have u : ∀ i a b : Int, (k = i → a = b) → zup f i a k = zup h i b k := fun i a b q => by
    by_cases c : k = i
    · rw [c, zup_e, zup_e]; exact q c
    · rw [zup_n c, zup_n c]; exact ek
  unfold zAc
  by_cases d0 : d = 0
  · rw [if_pos d0, if_pos d0]; exact u _ _ _ (fun _ => rfl)
  · rw [if_neg d0, if_neg d0]
    by_cases d1 : d = 1
    · rw [if_pos d1, if_pos d1]; exact u _ _ _ (fun _ => rfl)
    · rw [if_neg d1, if_neg d1]
      by_cases d2 : d = 2
      · rw [if_pos d2, if_pos d2]; exact u _ _ _ (fun _ => rfl)
      · rw [if_neg d2, if_neg d2]
        by_cases d3 : d = 3
        · rw [if_pos d3, if_pos d3]; exact u _ _ _ (fun _ => rfl)
        · rw [if_neg d3, if_neg d3]
          by_cases d4 : d = 4
          · rw [if_pos d4, if_pos d4]; exact u _ _ _ (fun _ => rfl)
          · rw [if_neg d4, if_neg d4]
            by_cases d5 : d = 5
            · rw [if_pos d5, if_pos d5]; exact u _ _ _ (fun _ => rfl)
            · rw [if_neg d5, if_neg d5]
              by_cases d6 : d = 6
              · rw [if_pos d6, if_pos d6]
                rw [if_pos (Or.inr (Or.inr d6))] at w0
                exact u _ _ _ (fun _ => by rw [e (236 + w) (Or.inr (Or.inl ⟨by omega, by omega⟩))])
              · rw [if_neg d6, if_neg d6]
                by_cases d7 : d = 7
                · rw [if_pos d7, if_pos d7]; exact u _ _ _ (fun _ => rfl)
                · rw [if_neg d7, if_neg d7]; exact ek
