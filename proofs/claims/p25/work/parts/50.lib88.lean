-- A TEXT: the same answer, the same fault
theorem zqT_pre {l : Int} {g g1 : zi_M} (R : g 190 = g 222) (T : g 0 8 = g 214 13) (p : 0 ≤ l → l ≤ 3 → zySs (1000000001 + l.toNat) (g 190) (g 0 8) g1) (e : ∀ i : Int, g1 222 i = g 222 i) (e13 : g1 214 13 = g 214 13) : l = 0 → zySs 1000000001 (g1 222) (g1 214 13) g1 := fun a => by
  rw [show g1 222 = g 222 from funext e, e13, ← R, ← T]
  have q := p (by omega) (by omega)
  rw [a] at q
  exact q
theorem zqT_w {v1 v2 : Int} {g g1 g2 : zi_M} (a : zySw g g1 v1) (c : zyMw g1 g2 v2) : v1 = v2 ∧ g1 191 5 = g2 214 33 ∧ g1 191 6 = g2 214 34 := by
  obtain ⟨s, s1, s2, s3⟩ := a
  obtain ⟨t, t1, t2, t3⟩ := c
  have e := zyI_u s1 t1
  subst e
  by_cases z : zyW (zyM g1) s = -1
  · obtain ⟨p1, p2, p3, p4, p5, -⟩ := s2 z
    obtain ⟨q1, q2, q3, q4, q5, -⟩ := t2 z
    exact ⟨by omega, by rw [p4, q4], by rw [p5, q5]⟩
  · obtain ⟨p1, p2, -⟩ := s3 z
    obtain ⟨q1, q2, q3, -⟩ := t3 z
    exact ⟨by rw [p1, q1], by rw [q2]; exact p2.1, by rw [q3]; exact p2.2⟩
theorem zqT_g {sp v1 v2 : Int} {g g1 g2 : zi_M} (a : zySg sp g g1 v1) (e6 : g1 214 6 = sp) (c : zyMg g1 g2 v2) : v1 = v2 ∧ g1 191 5 = g2 214 33 ∧ g1 191 6 = g2 214 34 := by
  obtain ⟨-, s, s1, s2, s3⟩ := a
  obtain ⟨t, t1, t2, t3⟩ := c
  rw [e6] at t1 t2 t3
  have e := zyI_u s1 t1
  subst e
  by_cases z : zyH (zyM g1) sp s = -1
  · obtain ⟨p1, p2, p3, p4, p5⟩ := s2 z
    obtain ⟨q1, q2, q3, q4, q5⟩ := t2 z
    exact ⟨by omega, by rw [p4, q4], by rw [p5, q5]⟩
  · obtain ⟨p1, p2, -⟩ := s3 z
    obtain ⟨q1, q2, q3, -⟩ := t3 z
    exact ⟨by rw [p1, q1], by rw [q2]; exact p2.1, by rw [q3]; exact p2.2⟩
theorem zqT_p {sp si v1 v2 : Int} {g g1 g2 : zi_M} (a : zySp sp si g g1 v1) (e6 : g1 214 6 = sp) (e7 : g1 214 7 = si) (c : zyMp g1 g2 v2) : v1 = v2 ∧ g1 191 5 = g2 214 33 ∧ g1 191 6 = g2 214 34 := by
  obtain ⟨n, o, s1, s2, s3⟩ := a
  obtain ⟨m, p, t1, t2, t3⟩ := c
  rw [e6, e7] at t1 t2 t3
  obtain ⟨e4, e5⟩ := zyPi_u s1 t1
  subst e4 e5
  by_cases z : zyPg (zyM g1) sp si n (zyPP (zyM g1) n) o = -1
  · obtain ⟨p1, p2, p3, p4, p5, -⟩ := s2 z
    obtain ⟨q1, q2, q3, q4, q5, -⟩ := t2 z
    exact ⟨by rw [p1, q1], by rw [p4, q4], by rw [p5, q5]⟩
  · obtain ⟨p1, p2, -⟩ := s3 z
    obtain ⟨q1, q2, q3, -⟩ := t3 z
    exact ⟨by rw [p1, q1], by rw [q2]; exact p2.1, by rw [q3]; exact p2.2⟩
theorem zqT_l {v1 v2 : Int} {g1 g2 : zi_M} (a : zqVc v1 g1) (c : zqVr (zyM g1) v2 g2) : v1 = v2 ∧ g1 191 5 = g2 214 33 ∧ g1 191 6 = g2 214 34 := ⟨a.1.trans c.1.symm, a.2.1.trans c.2.1.symm, a.2.2.trans c.2.2.symm⟩
theorem zqT_eq {l sp si v1 v2 : Int} {g g1 g2 : zi_M} (e6 : g1 214 6 = sp) (e7 : g1 214 7 = si) (a0 : l = 0 → zqVc v1 g1) (a1 : l = 1 → zySg sp g g1 v1) (a2 : l = 2 → zySw g g1 v1) (a3 : l = 3 → zySp sp si g g1 v1) (a4 : l < 0 ∨ 3 < l → v1 = -1 ∧ g1 191 5 = 0 ∧ g1 191 6 = -1)
    (c0 : l = 0 → zqVr (zyM g1) v2 g2) (c1 : l = 1 → zyMg g1 g2 v2) (c2 : l = 2 → zyMw g1 g2 v2) (c3 : l = 3 → zyMp g1 g2 v2) (c4 : l < 0 ∨ 3 < l → v2 = -1 ∧ g2 214 33 = 0 ∧ g2 214 34 = -1) (f : ∀ i : Int, g2 191 i = g1 191 i) : v1 = v2 ∧ g2 191 5 = g2 214 33 ∧ g2 191 6 = g2 214 34 := by
  rw [f 5, f 6]
  by_cases h0 : l = 0
  · exact zqT_l (a0 h0) (c0 h0)
  by_cases h1 : l = 1
  · exact zqT_g (a1 h1) e6 (c1 h1)
  by_cases h2 : l = 2
  · exact zqT_w (a2 h2) (c2 h2)
  by_cases h3 : l = 3
  · exact zqT_p (a3 h3) e6 e7 (c3 h3)
  have a := a4 (by omega)
  have c := c4 (by omega)
  exact ⟨a.1.trans c.1.symm, a.2.1.trans c.2.1.symm, a.2.2.trans c.2.2.symm⟩
