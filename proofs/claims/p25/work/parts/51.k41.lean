-- by program (wip/gen/mkz.py)
-- SpoutNews.keeps(I)I
theorem k_S_keeps {l1 : Int} {g : zi_M} {Q : Int → zi_M → Prop} (I : zk_I g) (p1 : (-2147483648) ≤ l1 ∧ l1 ≤ 2147483647) (hQ : ∀ (v : Int) (g' : zi_M), zk_I g' → zk_fr fr_S_keeps g g' → ((-1) ≤ v ∧ v ≤ 16) → (zkP g → l1 = -1 → ∃ k : Nat, v = (k : Int) ∧ zEnd (zrw (g 42)) (zrw (g 43)) k) → (zkP g → 0 ≤ l1 → l1 ≤ 3 → ∃ k : Nat, zEnd (zrw (g 42)) (zrw (g 43)) k ∧ (0 ≤ v ∧ v ≤ 3) ∧ (zru (zrw (g 42)) (zrw (g 43)) k).1 v = l1 + 1) → (l1 < -1 ∨ 3 < l1 → v = -1) → Q v g') : w_S_keeps l1 g Q := by
  unfold w_S_keeps
  refine ⟨p1, fun h => hQ _ _ I (zk_f0 _) ⟨by decide, by decide⟩ (fun _ h => by omega) (fun _ h h' => by omega) (fun _ => rfl), fun h1 => ⟨fun h4 => ?_, fun h => hQ _ _ I (zk_f0 _) ⟨by decide, by decide⟩ (fun _ h => by omega) (fun _ h h' => by omega) (fun _ => rfl)⟩⟩
  refine k_Thought_makeOffers I (fun g3 I3 F3 h3 => ?_)
  have b1 : 0 ≤ g3 180 11 ∧ g3 180 11 ≤ 16 := I3.1 180 11
  have b2 : -1 ≤ g3 186 l1 ∧ g3 186 l1 ≤ 3 := I3.1 186 l1
  refine ⟨fun ne => ⟨⟨by omega, by omega⟩, hQ _ _ I3 F3 ⟨by omega, by omega⟩ (fun _ h => absurd h ne) (fun P h h' => ?_) (fun h => by omega)⟩, fun e => hQ _ _ I3 F3 ⟨by omega, by omega⟩ (fun P _ => ?_) (fun _ h h' => by omega) (fun h => by omega)⟩
  · obtain ⟨k, k1, k2, k3⟩ := h3 P
    have w := k3 l1 h h'
    exact ⟨k, k2, w.1, w.2⟩
  · obtain ⟨k, k1, k2, k3⟩ := h3 P
    exact ⟨k, k1, k2⟩

-- SpoutNewsModel.freeMason()I
theorem k_M_freeMason_l11 {g : zi_M} {l1 : Int} {K : Int → zi_M → Prop} {Q : Int → zi_M → Prop} (I : zk_I g) (p1 : 0 ≤ l1 ∧ l1 ≤ 3) (hK0 : (∀ s, 0 ≤ s → s ≤ 3 → ¬ g 245 s = l1 + 1) → K 0 g) (hK1 : (∃ s, 0 ≤ s ∧ s ≤ 3 ∧ g 245 s = l1 + 1) → K 1 g) :
    ∀ (n : Nat) (l2 l3 : Int), 0 ≤ l3 → l3 ≤ 4 → (l2 = 0 ∧ (∀ s, 0 ≤ s → s < l3 → ¬ g 245 s = l1 + 1) ∨ l2 = 1 ∧ (∃ s, 0 ≤ s ∧ s ≤ 3 ∧ g 245 s = l1 + 1)) → 4 - l3 < (n : Int) → w_M_freeMason_l11 l1 K Q n l2 l3 g
  | 0, l2, l3, h0, h1, hs, hm => by exfalso; omega
  | n + 1, l2, l3, h0, h1, hs, hm => by
    unfold w_M_freeMason_l11
    refine ⟨⟨by omega, by omega⟩, fun h4 => ?_, fun h4 => ⟨⟨by omega, by omega⟩, zk_rng I _ _, ⟨by omega, by omega⟩, fun ne => ?_, fun e => ?_⟩⟩
    · rcases hs with ⟨e, h⟩ | ⟨e, h⟩
      · rw [e]; exact hK0 (fun s s0 s1 => h s s0 (by omega))
      · rw [e]; exact hK1 h
    · refine k_M_freeMason_l11 I p1 hK0 hK1 n l2 (l3 + 1) (by omega) (by omega) ?_ (by omega)
      rcases hs with ⟨e, h⟩ | ⟨e, h⟩
      · refine Or.inl ⟨e, fun s s0 s1 => ?_⟩
        by_cases q : s = l3
        · rw [q]; exact ne
        · exact h s s0 (by omega)
      · exact Or.inr ⟨e, h⟩
    · exact k_M_freeMason_l11 I p1 hK0 hK1 n 1 (l3 + 1) (by omega) (by omega) (Or.inr ⟨rfl, l3, h0, by omega, e⟩) (by omega)
theorem k_M_freeMason_l2 {g : zi_M} {K40 : Int → zi_M → Prop} {K48 : zi_M → Prop} {Q : Int → zi_M → Prop} (I : zk_I g) (hK40 : ∀ m, 0 ≤ m → m ≤ 3 → (∀ s, 0 ≤ s → s ≤ 3 → ¬ g 245 s = m + 1) → (∀ j, 0 ≤ j → j < m → ∃ s, 0 ≤ s ∧ s ≤ 3 ∧ g 245 s = j + 1) → K40 m g) (hK48 : (∀ m, 0 ≤ m → m ≤ 3 → ∃ s, 0 ≤ s ∧ s ≤ 3 ∧ g 245 s = m + 1) → K48 g) :
    ∀ (n : Nat) (l1 : Int), 0 ≤ l1 → l1 ≤ 4 → (∀ m, 0 ≤ m → m < l1 → ∃ s, 0 ≤ s ∧ s ≤ 3 ∧ g 245 s = m + 1) → 4 - l1 < (n : Int) → w_M_freeMason_l2 K40 K48 Q n l1 g
  | 0, l1, h0, h1, hs, hm => by exfalso; omega
  | n + 1, l1, h0, h1, hs, hm => by
    unfold w_M_freeMason_l2
    refine ⟨⟨by omega, by omega⟩, fun h4 => hK48 (fun m m0 m1 => hs m m0 (by omega)), fun h4 => ⟨5, ?_⟩⟩
    refine k_M_freeMason_l11 I ⟨h0, by omega⟩ (fun h => ⟨⟨by decide, by decide⟩, fun ne => absurd rfl ne, fun _ => hK40 l1 h0 (by omega) h hs⟩) (fun h => ⟨⟨by decide, by decide⟩, fun _ => ?_, fun e => absurd e (by decide)⟩) 5 0 0 (by decide) (by decide) (Or.inl ⟨rfl, fun s s0 s1 => by omega⟩) (by decide)
    refine k_M_freeMason_l2 I hK40 hK48 n (l1 + 1) (by omega) (by omega) (fun m m0 m1 => ?_) (by omega)
    by_cases q : m = l1
    · rw [q]; exact h
    · exact hs m m0 (by omega)
theorem k_M_freeMason {g : zi_M} {Q : Int → zi_M → Prop} (I : zk_I g) (hQ : ∀ v : Int, ((-1) ≤ v ∧ v ≤ 3) → (v = zfm (g 245)) → Q v g) : w_M_freeMason g Q := by
  unfold w_M_freeMason
  exact ⟨5, k_M_freeMason_l2 I (fun m m0 m1 h hb => hQ m ⟨by omega, m1⟩ (zfm_is ⟨m0, m1⟩ h (fun j j0 j1 z => by obtain ⟨s, s0, s1, e⟩ := hb j j0 j1; exact z s s0 s1 e)).symm) (fun h => hQ (-1) ⟨by decide, by decide⟩ (zfm_no (fun m m0 m1 z => by obtain ⟨s, s0, s1, e⟩ := h m m0 m1; exact z s s0 s1 e)).symm) 5 0 (by decide) (by decide) (fun m m0 m1 => by omega) (by decide)⟩

-- SpoutNewsModel.dearOf(II)I
set_option maxRecDepth 100000 in
set_option maxHeartbeats 4000000 in
theorem k_M_dearOf {l1 : Int} {l2 : Int} {g : zi_M} {Q : Int → zi_M → Prop} (I : zk_I g) (p1 : 0 ≤ l1 ∧ l1 ≤ 7) (p2 : 0 ≤ l2 ∧ l2 ≤ 3) (hQ : ∀ v : Int, (v = (g 244 ((4 * l1) + l2)) + l2) → Q v g) : w_M_dearOf l1 l2 g Q := by
  unfold w_M_dearOf
  refine ⟨⟨by omega, by omega⟩, ?_⟩
  have m_1 := zk_mason I (i := ((4 * l1) + l2))
  exact hQ _ (by intros; omega)
-- SpoutNewsModel.placeIn(II)I
theorem k_M_placeIn_l2 {g : zi_M} {l1 l2 : Int} {K : Int → zi_M → Prop} {Q : Int → zi_M → Prop} (I : zk_I g) (p1 : 0 ≤ l1 ∧ l1 ≤ 7) (p2 : 0 ≤ l2 ∧ l2 ≤ 3) {k : Int} (k0 : k ≤ 3) (hk : g 244 (4 * l1 + k) + k = l2) (hK : ∀ v, 0 ≤ v → v ≤ 3 → v = zpl (zrx (g 244) l1) l2 → K v g) :
    ∀ (n : Nat) (l3 : Int), 0 ≤ l3 → l3 ≤ k → (∀ j : Int, 0 ≤ j → j < l3 → ¬ zrx (g 244) l1 j = l2) → k - l3 < (n : Int) → w_M_placeIn_l2 l1 l2 K Q n l3 g
  | 0, l3, h0, h1, hs, hm => by exfalso; omega
  | n + 1, l3, h0, h1, hs, hm => by
    unfold w_M_placeIn_l2
    have r := zk_rng I 244 (4 * l1 + l3)
    have lm := (zk_mason I (i := 4 * l1 + l3)).2 (by omega)
    refine k_M_dearOf I p1 ⟨h0, by omega⟩ (fun v hv => ⟨⟨by omega, by omega⟩, ⟨by omega, by omega⟩, fun e => hK _ h0 (by omega) (zpl_x hs (hv.symm.trans e) ⟨h0, by omega⟩), fun ne => ?_⟩)
    by_cases e : l3 = k
    · rw [e] at hv
      exact absurd (hv.trans hk) ne
    · exact k_M_placeIn_l2 I p1 p2 k0 hk hK n (l3 + 1) (by omega) (by omega) (zno_st hs (fun w => ne (hv.trans w))) (by omega)
theorem k_M_placeIn {l1 : Int} {l2 : Int} {g : zi_M} {Q : Int → zi_M → Prop} (I : zk_I g) (p1 : 0 ≤ l1 ∧ l1 ≤ 7) (p2 : 0 ≤ l2 ∧ l2 ≤ 3) (hQ : ∀ v : Int, (0 ≤ v ∧ v ≤ 3) → (v = zpl (zrx (g 244) l1) l2) → Q v g) : w_M_placeIn l1 l2 g Q := by
  unfold w_M_placeIn
  have row := zpm_x (f := g 244) (I.2.rows l1 p1.1 (by omega))
  obtain ⟨k, k0, k1, hk⟩ := zpm_on row p2
  exact ⟨4, k_M_placeIn_l2 I p1 p2 k1 hk (fun v h0 h1 e => hQ v ⟨h0, h1⟩ e) 4 0 (by decide) k0 (fun j j0 j1 => by exfalso; omega) (by omega)⟩

-- SpoutNewsModel.offers()I
theorem k_M_offers_l2 {g0 : zi_M} {K : zi_M → Prop} {Q : Int → zi_M → Prop} (hK : ∀ g, zk_I g → zk_fr fr_M_offers g0 g → (∀ i, 0 ≤ i → i < 4 → g 245 i = 0 ∧ g 246 i = 0) → K g) :
    ∀ (n : Nat) (l1 : Int) (g : zi_M), 0 ≤ l1 → l1 ≤ 4 → zk_I g → zk_fr fr_M_offers g0 g → (∀ i, 0 ≤ i → i < l1 → g 245 i = 0 ∧ g 246 i = 0) → 4 - l1 < (n : Int) → w_M_offers_l2 K Q n l1 g
  | 0, l1, g, h0, h1, I, F, hs, hm => by exfalso; omega
  | n + 1, l1, g, h0, h1, I, F, hs, hm => by
    unfold w_M_offers_l2
    refine ⟨⟨by omega, by omega⟩, fun h4 => hK g I F (fun i i0 i1 => hs i i0 (by omega)), fun h4 => ⟨⟨by omega, by omega⟩, ?_⟩⟩
    intro g3 e3 g4 e4
    have I3 : zk_I g3 := by rw [e3]; exact zk_upd (L := 0) (H := 4) rfl rfl I ⟨by decide, by decide⟩
    have I4 : zk_I g4 := by rw [e4]; exact zk_upd (L := 0) (H := 4) rfl rfl I3 ⟨by decide, by decide⟩
    refine k_M_offers_l2 hK n (l1 + 1) g4 (by omega) (by omega) I4 (by rw [e4, e3]; exact zk_fu (zk_fu F (Or.inl rfl)) (Or.inr rfl)) (fun i i0 i1 => ?_) (by omega)
    by_cases q : i = l1
    · rw [q]; exact ⟨by rw [e4, zi_u_ne (by decide), e3, zi_u_eq], by rw [e4, zi_u_eq]⟩
    · rw [e4, zi_u_ne (by decide), e3, zi_u_ni q, zi_u_ni q, zi_u_ne (by decide)]
      exact hs i i0 (by omega)
theorem k_M_offers_l29 {g0 : zi_M} {K : Int → zi_M → Prop} {Q : Int → zi_M → Prop} (I0 : zk_I g0) (hK : ∀ (k : Nat) (g : zi_M), zk_I g → zk_fr fr_M_offers g0 g → zEnd (zrx (g0 244)) (zRx (g0 244)) k → k ≤ 16 → (∀ s : Int, 0 ≤ s → s ≤ 3 → g 245 s = (zru (zrx (g0 244)) (zRx (g0 244)) k).1 s) → K (k : Int) g) :
    ∀ (n k : Nat) (g : zi_M), zk_I g → zk_fr fr_M_offers g0 g → zgo (zrx (g0 244)) (zRx (g0 244)) k → (∀ s : Int, 0 ≤ s → s ≤ 3 → g 245 s = (zru (zrx (g0 244)) (zRx (g0 244)) k).1 s) → (∀ s : Int, 0 ≤ s → s ≤ 3 → g 246 s = (zru (zrx (g0 244)) (zRx (g0 244)) k).2 s) → 16 - (k : Int) < (n : Int) → w_M_offers_l29 K Q n (k : Int) g := by
  have hD := zpD_x I0
  intro n
  induction n with
  | zero =>
    intro k g I F hg r1 r2 hm
    have hi := zki_run hD k hg
    have a0 := hi.2.1 0 (by decide) (by decide)
    have a1 := hi.2.1 1 (by decide) (by decide)
    have a2 := hi.2.1 2 (by decide) (by decide)
    have a3 := hi.2.1 3 (by decide) (by decide)
    have a4 := hi.2.2.1
    exfalso; omega
  | succ n ih =>
    intro k g I F hg r1 r2 hm
    have hi := zki_run hD k hg
    have k16 : k ≤ 16 := by
      have a0 := hi.2.1 0 (by decide) (by decide)
      have a1 := hi.2.1 1 (by decide) (by decide)
      have a2 := hi.2.1 2 (by decide) (by decide)
      have a3 := hi.2.1 3 (by decide) (by decide)
      have a4 := hi.2.2.1
      omega
    have e244 : g 244 = g0 244 := funext (fun i => F 244 i (by unfold fr_M_offers; omega))
    have hrun : zru (zrx (g0 244)) (zRx (g0 244)) (k + 1) = (zsK (zrx (g0 244)) (zRx (g0 244)) (zru (zrx (g0 244)) (zRx (g0 244)) k).1 (zru (zrx (g0 244)) (zRx (g0 244)) k).2, zsO (zru (zrx (g0 244)) (zRx (g0 244)) k).1 (zru (zrx (g0 244)) (zRx (g0 244)) k).2) := rfl
    have hfm : zfm (g 245) = zfm (zru (zrx (g0 244)) (zRx (g0 244)) k).1 := zfm_c r1
    have hend := hK k g I F
    have hnext : ¬ zfm (zru (zrx (g0 244)) (zRx (g0 244)) k).1 = -1 → zgo (zrx (g0 244)) (zRx (g0 244)) (k + 1) := fun z j hj => by
      by_cases q : j = k
      · rw [q]; exact z
      · exact hg j (by omega)
    have ih1 := fun g => ih (k + 1) g
    rw [hrun] at ih1
    generalize hKk : (zru (zrx (g0 244)) (zRx (g0 244)) k).1 = Kk at *
    generalize hOk : (zru (zrx (g0 244)) (zRx (g0 244)) k).2 = Ok at *
    unfold w_M_offers_l29
    refine k_M_freeMason I (fun v7 hv7 e7 => ⟨⟨by omega, by omega⟩, fun e => hend ⟨hg, by rw [hKk, ← hfm, ← e7]; exact e⟩ k16 r1, fun n7 => ?_⟩)
    refine k_M_freeMason I (fun m hv11 e11 => ?_)
    have em : zfm Kk = m := by rw [← hfm, ← e11]
    have nm : ¬ m = -1 := by rw [e11, ← e7]; exact n7
    rcases zfm_all Kk with q | q
    · exact absurd (em.symm.trans q.1) nm
    obtain ⟨m0, fr, -⟩ := q
    rw [em] at m0 fr
    have o3 := zki_3 hD hi m0 fr
    have om := hi.2.1 m m0.1 m0.2
    have rm := r2 m m0.1 m0.2
    have sb := zpm_r (hD m m0.1 m0.2) (k := Ok m) ⟨om.1, o3⟩
    refine ⟨⟨m0.1, by omega⟩, ?_⟩
    refine k_M_dearOf I ⟨m0.1, by omega⟩ ⟨by omega, by omega⟩ (fun s hs => ?_)
    have es : s = zrx (g0 244) m (Ok m) := by rw [hs, rm, e244]; rfl
    rw [← es] at sb
    intro g18 e18
    have I18 : zk_I g18 := by rw [e18]; exact zk_upd (L := 0) (H := 4) rfl rfl I ⟨by omega, by omega⟩
    have F18 : zk_fr fr_M_offers g0 g18 := by rw [e18]; exact zk_fu F (Or.inr rfl)
    have f245 : ∀ i, g18 245 i = g 245 i := fun i => by rw [e18]; exact zi_u_ne (by decide)
    have f244 : g18 244 = g0 244 := funext (fun i => F18 244 i (by unfold fr_M_offers; omega))
    have rO : ∀ i : Int, 0 ≤ i → i ≤ 3 → g18 246 i = zsO Kk Ok i := fun i i0 i1 => by
      unfold zsO
      rw [em]
      by_cases q : i = m
      · rw [q, zup_e, e18, zi_u_eq, rm]
      · rw [zup_n q, e18, zi_u_ni q]; exact r2 i i0 i1
    have ks : g18 245 s = Kk s := by rw [f245]; exact r1 s sb.1 sb.2
    have kb := hi.1 s sb.1 sb.2
    have hz : zsK (zrx (g0 244)) (zRx (g0 244)) Kk Ok = if Kk s = 0 ∨ zpl (zRx (g0 244) s) m < zpl (zRx (g0 244) s) (Kk s - 1) then zup Kk s (m + 1) else Kk := by
      unfold zsK
      rw [em, ← es]
    have hgo := hnext (by rw [em]; exact nm)
    have k1 : ((k + 1 : Nat) : Int) = (k : Int) + 1 := by omega
    have take : (Kk s = 0 ∨ zpl (zRx (g0 244) s) m < zpl (zRx (g0 244) s) (Kk s - 1)) → ∀ g21, g21 = zi_u g18 245 s (m + 1) → w_M_offers_l29 K Q n ((k : Int) + 1) g21 := by
      intro hc g21 e21
      have := ih1 g21 (by rw [e21]; exact zk_upd (L := 0) (H := 4) rfl rfl I18 ⟨by omega, by omega⟩) (by rw [e21]; exact zk_fu F18 (Or.inl rfl)) hgo (fun i i0 i1 => by
        show g21 245 i = zsK (zrx (g0 244)) (zRx (g0 244)) Kk Ok i
        rw [hz, if_pos hc]
        by_cases q : i = s
        · rw [q, zup_e, e21, zi_u_eq]
        · rw [zup_n q, e21, zi_u_ni q, f245]; exact r1 i i0 i1) (fun i i0 i1 => by
        show g21 246 i = zsO Kk Ok i
        rw [e21, zi_u_ne (by decide)]; exact rO i i0 i1) (by omega)
      rw [k1] at this
      exact this
    have leave : ¬ (Kk s = 0 ∨ zpl (zRx (g0 244) s) m < zpl (zRx (g0 244) s) (Kk s - 1)) → w_M_offers_l29 K Q n ((k : Int) + 1) g18 := by
      intro hc
      have := ih1 g18 I18 F18 hgo (fun i i0 i1 => by
        show g18 245 i = zsK (zrx (g0 244)) (zRx (g0 244)) Kk Ok i
        rw [hz, if_neg hc, f245]; exact r1 i i0 i1) (fun i i0 i1 => rO i i0 i1) (by omega)
      rw [k1] at this
      exact this
    refine ⟨⟨sb.1, by omega⟩, zk_rng I18 _ _, fun z => take (Or.inl (by omega)), fun nz => ?_⟩
    refine k_M_placeIn I18 ⟨by omega, by omega⟩ m0 (fun v22 h22 e22 => ?_)
    refine k_M_placeIn I18 ⟨by omega, by omega⟩ ⟨by omega, by omega⟩ (fun v25 h25 e25 => ?_)
    rw [f244] at e22
    rw [f244, ks] at e25
    refine ⟨⟨by omega, by omega⟩, ⟨by omega, by omega⟩, fun hc => leave ?_, fun hc => take (Or.inr ?_)⟩
    · intro z
      rcases z with z | z
      · omega
      · have h1 : zpl (zRx (g0 244) s) m = v22 := e22.symm
        have h2 : zpl (zRx (g0 244) s) (Kk s - 1) = v25 := e25.symm
        omega
    · have h1 : zpl (zRx (g0 244) s) m = v22 := e22.symm
      have h2 : zpl (zRx (g0 244) s) (Kk s - 1) = v25 := e25.symm
      omega
theorem k_M_offers {g : zi_M} {Q : Int → zi_M → Prop} (I : zk_I g) (hQ : ∀ (v : Int) (g' : zi_M), zk_I g' → zk_fr fr_M_offers g g' → (0 ≤ v ∧ v ≤ 16) → (∃ k : Nat, v = (k : Int) ∧ zEnd (zrx (g 244)) (zRx (g 244)) k ∧ ∀ s : Int, 0 ≤ s → s ≤ 3 → g' 245 s = (zru (zrx (g 244)) (zRx (g 244)) k).1 s) → Q v g') : w_M_offers g Q := by
  unfold w_M_offers
  refine ⟨5, k_M_offers_l2 (g0 := g) (fun g6 I6 F6 hz => ⟨17, ?_⟩) 5 0 g (by decide) (by decide) I (zk_f0 _) (fun i i0 i1 => by omega) (by decide)⟩
  exact k_M_offers_l29 (g0 := g) I (fun k g' I' F' h h16 hr => hQ (k : Int) g' I' F' ⟨by omega, by omega⟩ ⟨k, rfl, h, hr⟩) 17 0 g6 I6 F6 (fun j hj => by omega) (fun s s0 s1 => (hz s s0 (by omega)).1) (fun s s0 s1 => (hz s s0 (by omega)).2) (by decide)

-- SpoutNewsModel.keeps(I)I
theorem k_M_keeps_l31 {g : zi_M} {l1 : Int} {K : Int → zi_M → Prop} {Q : Int → zi_M → Prop} (I : zk_I g) (p1 : 0 ≤ l1 ∧ l1 ≤ 3) {s : Int} (s1 : s ≤ 3) (hs : g 245 s = l1 + 1) (hK : ∀ v, 0 ≤ v → v ≤ 3 → g 245 v = l1 + 1 → K v g) :
    ∀ (n : Nat) (l3 : Int), 0 ≤ l3 → l3 ≤ s → s - l3 < (n : Int) → w_M_keeps_l31 l1 K Q n l3 g
  | 0, l3, h0, h1, hm => by exfalso; omega
  | n + 1, l3, h0, h1, hm => by
    unfold w_M_keeps_l31
    refine ⟨⟨h0, by omega⟩, zk_rng I _ _, ⟨by omega, by omega⟩, fun e => hK l3 h0 (by omega) e, fun ne => ?_⟩
    by_cases e : l3 = s
    · rw [e] at ne; exact absurd hs ne
    · exact k_M_keeps_l31 I p1 s1 hs hK n (l3 + 1) (by omega) (by omega) (by omega)
theorem k_M_keeps {l1 : Int} {g : zi_M} {Q : Int → zi_M → Prop} (I : zk_I g) (p1 : (-2147483648) ≤ l1 ∧ l1 ≤ 2147483647) (hQ : ∀ (v : Int) (g' : zi_M), zk_I g' → zk_fr fr_M_keeps g g' → ((-1) ≤ v) → (l1 = -1 → ∃ k : Nat, v = (k : Int) ∧ zEnd (zrx (g 244)) (zRx (g 244)) k) → (0 ≤ l1 → l1 ≤ 3 → ∃ k : Nat, zEnd (zrx (g 244)) (zRx (g 244)) k ∧ (0 ≤ v ∧ v ≤ 3) ∧ (zru (zrx (g 244)) (zRx (g 244)) k).1 v = l1 + 1) → (l1 < -1 ∨ 3 < l1 → v = -1) → Q v g') : w_M_keeps l1 g Q := by
  unfold w_M_keeps
  intro g1 e1
  have I1 : zk_I g1 := by rw [e1]; exact zk_upd (L := -2147483648) (H := 2147483647) rfl rfl I ⟨by decide, by decide⟩
  have F1 : zk_fr fr_M_keeps g g1 := by rw [e1]; exact zk_fu (zk_f0 _) (Or.inr (Or.inr ⟨rfl, rfl⟩))
  have e244 : g1 244 = g 244 := funext (fun i => by rw [e1]; exact zi_u_ne (by decide))
  refine k_M_isIn I1 p1 ⟨by decide, by decide⟩ ⟨by decide, by decide⟩ (fun v2 a1 a2 a3 => ⟨fun n2 => ?_, fun _ => hQ _ _ I1 F1 (by decide) (fun h => by omega) (fun h h' => by omega) (fun _ => rfl)⟩)
  refine k_M_offers I1 (fun v5 g6 I6 F6 hv5 h => ?_)
  rw [e244] at h
  obtain ⟨k, k1, k2, k3⟩ := h
  have F6' : zk_fr fr_M_keeps g g6 := zk_ft F1 F6 (fun a i h => h.elim Or.inl (fun h => Or.inr (Or.inl h)))
  refine ⟨p1, fun nm => ?_, fun em => hQ _ _ I6 F6' (by omega) (fun _ => ⟨k, k1, k2⟩) (fun h h' => by omega) (fun h => by omega)⟩
  obtain ⟨s, s0, s1, hs⟩ := zfr_no (m := l1) (fun z => by
    rcases zfm_all (zru (zrx (g 244)) (zRx (g 244)) k).1 with q | q
    · exact q.2 l1 (by omega) (by omega) z
    · have := k2.2
      omega)
  rw [← k3 s s0 s1] at hs
  exact ⟨4, k_M_keeps_l31 I6 ⟨by omega, by omega⟩ s1 hs (fun v v0 v1 ev => hQ _ _ I6 F6' (by omega) (fun h => absurd h nm) (fun _ _ => ⟨k, k2, ⟨v0, v1⟩, by rw [← k3 v v0 v1]; exact ev⟩) (fun h => by omega)) 4 0 (by decide) s0 (by omega)⟩

-- SpoutNews$Thought.likely(III)I
theorem k_Thought_likely {l0 l1 l2 : Int} {g : zi_M} {Q : Int → zi_M → Prop} (I : zk_I g) (p0 : 0 ≤ l0 ∧ l0 ≤ 1000) (p1 : 0 ≤ l1 ∧ l1 ≤ 20) (p2 : 0 ≤ l2 ∧ l2 ≤ 20) (hQ : ∀ v : Int, (-2147483648 ≤ v ∧ v ≤ 2147483647) → v = sm_S l0 l1 l2 → Q v g) : w_Thought_likely l0 l1 l2 g Q := by
  have h := sm_S_in (p := l0) (n := l1) (m := l2) p0
  exact ⟨p0, p1, p2, hQ _ ⟨by omega, by omega⟩ rfl⟩

-- SpoutNews.surmise(III)I
theorem k_S_surmise {l1 : Int} {l2 : Int} {l3 : Int} {g : zi_M} {Q : Int → zi_M → Prop} (I : zk_I g) (p1 : (-2147483648) ≤ l1 ∧ l1 ≤ 2147483647) (p2 : (-2147483648) ≤ l2 ∧ l2 ≤ 2147483647) (p3 : (-2147483648) ≤ l3 ∧ l3 ≤ 2147483647) (hQ : ∀ v : Int, ((-2147483648) ≤ v ∧ v ≤ 2147483647) → (zsu l1 l2 l3 v) → Q v g) : w_S_surmise l1 l2 l3 g Q := by
  have no : ¬ ((0 ≤ l1 ∧ l1 ≤ 1000) ∧ (0 ≤ l2 ∧ l2 ≤ 20) ∧ (0 ≤ l3 ∧ l3 ≤ 20)) → Q (-1) g := fun n => hQ _ (by decide) ⟨fun q => absurd q n, fun _ => rfl⟩
  unfold w_S_surmise
  refine ⟨p1, fun h => no (fun q => by omega), fun h1 => ⟨fun h => no (fun q => by omega), fun h2 => ⟨p2, fun h => no (fun q => by omega), fun h3 => ⟨fun h => no (fun q => by omega), fun h4 => ⟨p3, fun h => no (fun q => by omega), fun h5 => ⟨fun h6 => ?_, fun h => no (fun q => by omega)⟩⟩⟩⟩⟩⟩
  exact k_Thought_likely I ⟨by omega, by omega⟩ ⟨by omega, by omega⟩ ⟨by omega, by omega⟩ (fun v hv e => hQ v hv ⟨fun _ => e, fun n => absurd ⟨⟨by omega, by omega⟩, ⟨by omega, by omega⟩, ⟨by omega, by omega⟩⟩ n⟩)

-- SpoutNewsModel.shareOf(II)I
theorem zs_div {a b : Int} (hb : 0 < b) : 10 * (a / b) + (a % b * 10) / b = (a * 10) / b ∧ (a % b * 10) % b = (a * 10) % b := by
  have h := Int.emod_add_mul_ediv a b
  have e : a * 10 = a % b * 10 + b * (10 * (a / b)) := by
    have h2 : (a % b + b * (a / b)) * 10 = a * 10 := by rw [h]
    rw [Int.add_mul] at h2
    rw [← h2, Int.mul_assoc, Int.mul_comm (a / b) 10]
  rw [e, Int.add_mul_ediv_left _ _ (by omega), Int.add_mul_emod_self_left]
  exact ⟨by omega, rfl⟩
theorem k_M_shareOf_l12 {g : zi_M} {O l2 : Int} {K : Int → zi_M → Prop} {Q : Int → zi_M → Prop} (hO : 0 ≤ O) (q2 : 1 ≤ l2 ∧ l2 ≤ 6000000) (hK : ∀ v, v = O * 1000000 / l2 → K v g) :
    ∀ (n : Nat) (l3 l4 l5 : Int) (k : Nat), l5 = k → k ≤ 6 → l3 = O * 10 ^ k / l2 → l4 = O * 10 ^ k % l2 → 6 - l5 < (n : Int) → w_M_shareOf_l12 l2 K Q n l3 l4 l5 g
  | 0, l3, l4, l5, k, h0, h1, h2, h3, hm => by exfalso; omega
  | n + 1, l3, l4, l5, k, h0, h1, h2, h3, hm => by
    have b0 : 0 ≤ l4 := by rw [h3]; exact Int.emod_nonneg _ (by omega)
    have b1 : l4 < l2 := by rw [h3]; exact Int.emod_lt_of_pos _ (by omega)
    unfold w_M_shareOf_l12
    refine ⟨⟨by omega, by omega⟩, fun h6 => hK l3 ?_, fun h6 => ⟨⟨by omega, by omega⟩, ⟨by omega, by omega⟩, by omega, by omega, ?_⟩⟩
    · have e : k = 6 := by omega
      rw [h2, e]
      rfl
    · have z := zs_div (a := O * 10 ^ k) (b := l2) (by omega)
      have p : O * 10 ^ (k + 1) = O * 10 ^ k * 10 := by rw [Int.pow_succ, Int.mul_assoc]
      refine k_M_shareOf_l12 hO q2 hK n _ _ (l5 + 1) (k + 1) (by omega) (by omega) ?_ ?_ (by omega)
      · rw [Int.tdiv_eq_ediv_of_nonneg (by omega), p, ← z.1, h2, h3]
      · rw [Int.tmod_eq_emod_of_nonneg (by omega), p, ← z.2, h3]
theorem k_M_shareOf {l1 : Int} {l2 : Int} {g : zi_M} {Q : Int → zi_M → Prop} (I : zk_I g) (p1 : 0 ≤ l1 ∧ l1 ≤ 6000000) (p2 : 1 ≤ l2 ∧ l2 ≤ 6000000) (px0 : l1 ≤ l2) (hQ : ∀ v : Int, (0 ≤ v ∧ v ≤ 1000000) → (v = l1 * 1000000 / l2) → Q v g) : w_M_shareOf l1 l2 g Q := by
  unfold w_M_shareOf
  refine ⟨⟨by omega, by omega⟩, ⟨by omega, by omega⟩, by omega, by omega, 7, ?_⟩
  refine k_M_shareOf_l12 (O := l1) p1.1 p2 (fun v e => hQ v ?_ e) 7 _ _ 0 0 rfl (by decide) (by rw [Int.tdiv_eq_ediv_of_nonneg p1.1, Int.pow_zero, Int.mul_one]) (by rw [Int.tmod_eq_emod_of_nonneg p1.1, Int.pow_zero, Int.mul_one]) (by decide)
  rw [e]
  refine ⟨Int.ediv_nonneg (by omega) (by omega), ?_⟩
  exact Int.ediv_le_of_le_mul (by omega) (by omega)

-- SpoutNewsModel.surmised(III)I
theorem k_M_surmised {l1 : Int} {l2 : Int} {l3 : Int} {g : zi_M} {Q : Int → zi_M → Prop} (I : zk_I g) (p1 : 0 ≤ l1 ∧ l1 ≤ 1000000) (p2 : 4 ≤ l2 ∧ l2 ≤ 6) (p3 : 4 ≤ l3 ∧ l3 ≤ 6) (px0 : (l2 = 6 ∧ l3 = 4) ∨ (l2 = 4 ∧ l3 = 6)) (hQ : ∀ v : Int, (0 ≤ v ∧ v ≤ 1000000) → (v = sm_F l2 l3 l1) → Q v g) : w_M_surmised l1 l2 l3 g Q := by
  unfold w_M_surmised
  rcases px0 with ⟨e2, e3⟩ | ⟨e2, e3⟩
  · rw [e2, e3]
    exact k_M_shareOf I ⟨by omega, by omega⟩ ⟨by omega, by omega⟩ (by omega) (fun v hv e => hQ v hv (by rw [e, e2, e3]; rfl))
  · rw [e2, e3]
    exact k_M_shareOf I ⟨by omega, by omega⟩ ⟨by omega, by omega⟩ (by omega) (fun v hv e => hQ v hv (by rw [e, e2, e3]; rfl))

-- SpoutNewsModel.surmise(III)I
theorem k_M_surmise_l51 {g : zi_M} {l2 : Int} {K : Int → zi_M → Prop} {Q : Int → zi_M → Prop} (I : zk_I g) (q2 : 0 ≤ l2 ∧ l2 ≤ 20) {X : Int} (hK : ∀ v, 0 ≤ v → v ≤ 1000000 → v = sm_it 6 4 l2.toNat X → K v g) :
    ∀ (n : Nat) (l4 l5 : Int) (k : Nat), l5 + k = l2 → 0 ≤ l5 → 0 ≤ l4 → l4 ≤ 1000000 → sm_it 6 4 k l4 = sm_it 6 4 l2.toNat X → k < n → w_M_surmise_l51 l2 K Q n l4 l5 g
  | 0, l4, l5, k, h0, h1, h2, h3, h4, hm => absurd hm (Nat.not_lt_zero _)
  | n + 1, l4, l5, k, h0, h1, h2, h3, h4, hm => by
    unfold w_M_surmise_l51
    refine ⟨⟨by omega, by omega⟩, ⟨by omega, by omega⟩, fun h => hK l4 h2 h3 ?_, fun h => ?_⟩
    · have e : k = 0 := by omega
      rw [e] at h4
      exact h4
    · refine k_M_surmised I ⟨h2, h3⟩ ⟨by decide, by decide⟩ ⟨by decide, by decide⟩ (Or.inl ⟨rfl, rfl⟩) (fun v hv e => ?_)
      cases k with
      | zero => exfalso; omega
      | succ k => exact k_M_surmise_l51 I q2 hK n v (l5 + 1) k (by omega) (by omega) hv.1 hv.2 (by rw [e, ← h4]; rfl) (by omega)
theorem k_M_surmise_l77 {g : zi_M} {l3 : Int} {K : Int → zi_M → Prop} {Q : Int → zi_M → Prop} (I : zk_I g) (q2 : 0 ≤ l3 ∧ l3 ≤ 20) {X : Int} (hK : ∀ v, 0 ≤ v → v ≤ 1000000 → v = sm_it 4 6 l3.toNat X → K v g) :
    ∀ (n : Nat) (l4 l5 : Int) (k : Nat), l5 + k = l3 → 0 ≤ l5 → 0 ≤ l4 → l4 ≤ 1000000 → sm_it 4 6 k l4 = sm_it 4 6 l3.toNat X → k < n → w_M_surmise_l77 l3 K Q n l4 l5 g
  | 0, l4, l5, k, h0, h1, h2, h3, h4, hm => absurd hm (Nat.not_lt_zero _)
  | n + 1, l4, l5, k, h0, h1, h2, h3, h4, hm => by
    unfold w_M_surmise_l77
    refine ⟨⟨by omega, by omega⟩, ⟨by omega, by omega⟩, fun h => hK l4 h2 h3 ?_, fun h => ?_⟩
    · have e : k = 0 := by omega
      rw [e] at h4
      exact h4
    · refine k_M_surmised I ⟨h2, h3⟩ ⟨by decide, by decide⟩ ⟨by decide, by decide⟩ (Or.inr ⟨rfl, rfl⟩) (fun v hv e => ?_)
      cases k with
      | zero => exfalso; omega
      | succ k => exact k_M_surmise_l77 I q2 hK n v (l5 + 1) k (by omega) (by omega) hv.1 hv.2 (by rw [e, ← h4]; rfl) (by omega)
theorem k_M_surmise {l1 : Int} {l2 : Int} {l3 : Int} {g : zi_M} {Q : Int → zi_M → Prop} (I : zk_I g) (p1 : (-2147483648) ≤ l1 ∧ l1 ≤ 2147483647) (p2 : (-2147483648) ≤ l2 ∧ l2 ≤ 2147483647) (p3 : (-2147483648) ≤ l3 ∧ l3 ≤ 2147483647) (hQ : ∀ (v : Int) (g' : zi_M), zk_I g' → zk_fr fr_M_surmise g g' → ((-2147483648000) ≤ v ∧ v ≤ 2147483647000) → (zsu l1 l2 l3 v) → Q v g') : w_M_surmise l1 l2 l3 g Q := by
  unfold w_M_surmise
  intro g1 e1
  have I1 : zk_I g1 := by rw [e1]; exact zk_upd (L := -2147483648) (H := 2147483647) rfl rfl I ⟨by decide, by decide⟩
  have F1 : zk_fr fr_M_surmise g g1 := by rw [e1]; exact zk_fu (zk_f0 _) ⟨rfl, rfl⟩
  have no : ¬ ((0 ≤ l1 ∧ l1 ≤ 1000) ∧ (0 ≤ l2 ∧ l2 ≤ 20) ∧ (0 ≤ l3 ∧ l3 ≤ 20)) → Q (-1) g1 := fun n => hQ _ _ I1 F1 (by decide) ⟨fun q => absurd q n, fun _ => rfl⟩
  refine k_M_isIn I1 p1 ⟨by decide, by decide⟩ ⟨by decide, by decide⟩ (fun v2 a1 a2 a3 => ⟨fun e => no (fun q => by omega), fun n2 => ?_⟩)
  refine k_M_isIn I1 p2 ⟨by decide, by decide⟩ ⟨by decide, by decide⟩ (fun v5 b1 b2 b3 => ⟨fun e => no (fun q => by omega), fun n5 => ?_⟩)
  refine k_M_isIn I1 p3 ⟨by decide, by decide⟩ ⟨by decide, by decide⟩ (fun v8 c1 c2 c3 => ⟨fun n8 => ?_, fun e => no (fun q => by omega)⟩)
  have q1 : 0 ≤ l1 ∧ l1 ≤ 1000 := by omega
  have q2 : 0 ≤ l2 ∧ l2 ≤ 20 := by omega
  have q3 : 0 ≤ l3 ∧ l3 ≤ 20 := by omega
  refine ⟨l2.toNat + 1, k_M_surmise_l51 I1 q2 (X := 1000 * l1) (fun v v0 v1 e => ⟨l3.toNat + 1, ?_⟩) (l2.toNat + 1) (1000 * l1) 0 l2.toNat (by omega) (by decide) (by omega) (by omega) rfl (Nat.lt_succ_self _)⟩
  refine k_M_surmise_l77 I1 q3 (X := v) (fun w w0 w1 ew => hQ w g1 I1 F1 (by omega) ⟨fun _ => ?_, fun n => absurd ⟨q1, q2, q3⟩ n⟩) (l3.toNat + 1) v 0 l3.toNat (by omega) (by decide) v0 v1 rfl (Nat.lt_succ_self _)
  rw [ew, e]
  rfl

