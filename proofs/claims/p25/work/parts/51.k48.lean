-- by program (wip/gen/mkz.py)
-- SpoutNewsModel.keepsOne(I)I
-- SpoutNewsModel.keepsMany()V
-- SpoutNewsModel.keepsTold()V
-- SpoutNewsModel.keepsLaw()V
-- SpoutNewsModel.image(Z)Z
theorem k_M_image_l35 {g0 : zi_M} {k : Int} (hk : g0 214 61 = k) {K : zi_M → Prop} {Q : Int → zi_M → Prop} (hK : ∀ g, zI k 264 g0 g → K g) :
    ∀ (n : Nat) (l : Int) (g : zi_M), 0 ≤ l → l ≤ 264 → zI k (0 + 1 * l) g0 g → 264 - l < (n : Int) → w_M_image_l35 K Q n l g
  | 0, l, g, h0, h1, h, hm => by exfalso; omega
  | n + 1, l, g, h0, h1, h, hm => by
    unfold w_M_image_l35
    refine ⟨⟨by omega, by omega⟩, fun q => hK g (by rw [show (264 : Int) = 0 + 1 * l by omega]; exact h), fun q => ⟨⟨by omega, by omega⟩, ?_⟩⟩
    refine zI.s h ⟨by omega, by omega⟩ hk (by rw [show (0 + 1 * l : Int) = l by omega]; exact zab_215 ⟨by omega, by omega⟩) ?_ (fun g1 h1 => ?_)
    · exact zk_rb h.b _ _
    exact k_M_image_l35 hk hK n (l + 1) g1 (by omega) (by omega) (by rw [show (0 + 1 * (l + 1) : Int) = 0 + 1 * l + 1 by omega]; exact h1) (by omega)
theorem k_M_keepsTold_l2 {g0 : zi_M} {k : Int} (hk : g0 214 61 = k) {K : zi_M → Prop} {Q : Int → zi_M → Prop} (hK : ∀ g, zI k 323 g0 g → K g) :
    ∀ (n : Nat) (l : Int) (g : zi_M), 0 ≤ l → l ≤ 10 → zI k (273 + 5 * l) g0 g → 10 - l < (n : Int) → w_M_keepsTold_l2 K Q n l g
  | 0, l, g, h0, h1, h, hm => by exfalso; omega
  | n + 1, l, g, h0, h1, h, hm => by
    unfold w_M_keepsTold_l2
    refine ⟨⟨by omega, by omega⟩, fun q => hK g (by rw [show (323 : Int) = 273 + 5 * l by omega]; exact h), fun q => ⟨⟨by omega, by omega⟩, ?_⟩⟩
    refine zI.s h ⟨by omega, by omega⟩ hk (by rw [show (273 + 5 * l : Int) = 273 + 5 * l by omega]; exact zab_218 ⟨by omega, by omega⟩) ?_ (fun g1 h1 => ?_)
    · exact zk_rb h.b _ _
    refine zI.s h1 ⟨by omega, by omega⟩ hk (by rw [show (273 + 5 * l + 1 : Int) = 274 + 5 * l by omega]; exact zab_219 ⟨by omega, by omega⟩) ?_ (fun g2 h2 => ?_)
    · exact zk_rb h1.b _ _
    refine zI.s h2 ⟨by omega, by omega⟩ hk (by rw [show (273 + 5 * l + 1 + 1 : Int) = 275 + 5 * l by omega]; exact zab_220 ⟨by omega, by omega⟩) ?_ (fun g3 h3 => ?_)
    · exact zk_rb h2.b _ _
    refine ⟨⟨by omega, by omega⟩, ?_⟩
    refine zI.s h3 ⟨by omega, by omega⟩ hk (by rw [show (273 + 5 * l + 1 + 1 + 1 : Int) = 276 + 5 * l by omega]; exact zab_232 ⟨by omega, by omega⟩) ?_ (fun g4 h4 => ?_)
    · exact zk_rb h3.b _ _
    refine zI.s h4 ⟨by omega, by omega⟩ hk (by rw [show (273 + 5 * l + 1 + 1 + 1 + 1 : Int) = 277 + 5 * l by omega]; exact zab_242 ⟨by omega, by omega⟩) ?_ (fun g5 h5 => ?_)
    · exact zk_rb h4.b _ _
    exact k_M_keepsTold_l2 hk hK n (l + 1) g5 (by omega) (by omega) (by rw [show (273 + 5 * (l + 1) : Int) = 273 + 5 * l + 1 + 1 + 1 + 1 + 1 by omega]; exact h5) (by omega)
theorem k_M_keepsTold_l96 {g0 : zi_M} {k : Int} (hk : g0 214 61 = k) {K : zi_M → Prop} {Q : Int → zi_M → Prop} (hK : ∀ g, zI k 331 g0 g → K g) :
    ∀ (n : Nat) (l : Int) (g : zi_M), 0 ≤ l → l ≤ 8 → zI k (323 + 1 * l) g0 g → 8 - l < (n : Int) → w_M_keepsTold_l96 K Q n l g
  | 0, l, g, h0, h1, h, hm => by exfalso; omega
  | n + 1, l, g, h0, h1, h, hm => by
    unfold w_M_keepsTold_l96
    refine ⟨⟨by omega, by omega⟩, fun q => hK g (by rw [show (331 : Int) = 323 + 1 * l by omega]; exact h), fun q => ⟨⟨by omega, by omega⟩, ?_⟩⟩
    refine zI.s h ⟨by omega, by omega⟩ hk (by rw [show (323 + 1 * l : Int) = 323 + l by omega]; exact zab_239 ⟨by omega, by omega⟩) ?_ (fun g1 h1 => ?_)
    · exact zk_rb h.b _ _
    exact k_M_keepsTold_l96 hk hK n (l + 1) g1 (by omega) (by omega) (by rw [show (323 + 1 * (l + 1) : Int) = 323 + 1 * l + 1 by omega]; exact h1) (by omega)
theorem k_M_keepsTold_l126 {g0 : zi_M} {k : Int} (hk : g0 214 61 = k) {K : zi_M → Prop} {Q : Int → zi_M → Prop} (hK : ∀ g, zI k 355 g0 g → K g) :
    ∀ (n : Nat) (l : Int) (g : zi_M), 0 ≤ l → l ≤ 12 → zI k (331 + 2 * l) g0 g → 12 - l < (n : Int) → w_M_keepsTold_l126 K Q n l g
  | 0, l, g, h0, h1, h, hm => by exfalso; omega
  | n + 1, l, g, h0, h1, h, hm => by
    unfold w_M_keepsTold_l126
    refine ⟨⟨by omega, by omega⟩, fun q => hK g (by rw [show (355 : Int) = 331 + 2 * l by omega]; exact h), fun q => ⟨⟨by omega, by omega⟩, ?_⟩⟩
    refine zI.s h ⟨by omega, by omega⟩ hk (by rw [show (331 + 2 * l : Int) = 331 + 2 * l by omega]; exact zab_240 ⟨by omega, by omega⟩) ?_ (fun g1 h1 => ?_)
    · exact zk_rb h.b _ _
    refine zI.s h1 ⟨by omega, by omega⟩ hk (by rw [show (331 + 2 * l + 1 : Int) = 332 + 2 * l by omega]; exact zab_248 ⟨by omega, by omega⟩) ?_ (fun g2 h2 => ?_)
    · exact zk_rb h1.b _ _
    exact k_M_keepsTold_l126 hk hK n (l + 1) g2 (by omega) (by omega) (by rw [show (331 + 2 * (l + 1) : Int) = 331 + 2 * l + 1 + 1 by omega]; exact h2) (by omega)
theorem k_M_keepsTold_l172 {g0 : zi_M} {k : Int} (hk : g0 214 61 = k) {K : zi_M → Prop} {Q : Int → zi_M → Prop} (hK : ∀ g, zI k 371 g0 g → K g) :
    ∀ (n : Nat) (l : Int) (g : zi_M), 0 ≤ l → l ≤ 16 → zI k (355 + 1 * l) g0 g → 16 - l < (n : Int) → w_M_keepsTold_l172 K Q n l g
  | 0, l, g, h0, h1, h, hm => by exfalso; omega
  | n + 1, l, g, h0, h1, h, hm => by
    unfold w_M_keepsTold_l172
    refine ⟨⟨by omega, by omega⟩, fun q => hK g (by rw [show (371 : Int) = 355 + 1 * l by omega]; exact h), fun q => ⟨⟨by omega, by omega⟩, ?_⟩⟩
    refine zI.s h ⟨by omega, by omega⟩ hk (by rw [show (355 + 1 * l : Int) = 355 + l by omega]; exact zab_243 ⟨by omega, by omega⟩) ?_ (fun g1 h1 => ?_)
    · exact zk_rb h.b _ _
    exact k_M_keepsTold_l172 hk hK n (l + 1) g1 (by omega) (by omega) (by rw [show (355 + 1 * (l + 1) : Int) = 355 + 1 * l + 1 by omega]; exact h1) (by omega)
theorem k_M_keepsTold_l202 {g0 : zi_M} {k : Int} (hk : g0 214 61 = k) {K : zi_M → Prop} {Q : Int → zi_M → Prop} (hK : ∀ g, zI k 403 g0 g → K g) :
    ∀ (n : Nat) (l : Int) (g : zi_M), 0 ≤ l → l ≤ 32 → zI k (371 + 1 * l) g0 g → 32 - l < (n : Int) → w_M_keepsTold_l202 K Q n l g
  | 0, l, g, h0, h1, h, hm => by exfalso; omega
  | n + 1, l, g, h0, h1, h, hm => by
    unfold w_M_keepsTold_l202
    refine ⟨⟨by omega, by omega⟩, fun q => hK g (by rw [show (403 : Int) = 371 + 1 * l by omega]; exact h), fun q => ⟨⟨by omega, by omega⟩, ?_⟩⟩
    refine zI.s h ⟨by omega, by omega⟩ hk (by rw [show (371 + 1 * l : Int) = 371 + l by omega]; exact zab_244 ⟨by omega, by omega⟩) ?_ (fun g1 h1 => ?_)
    · exact zk_rb h.b _ _
    exact k_M_keepsTold_l202 hk hK n (l + 1) g1 (by omega) (by omega) (by rw [show (371 + 1 * (l + 1) : Int) = 371 + 1 * l + 1 by omega]; exact h1) (by omega)
theorem k_M_keepsTold_l232 {g0 : zi_M} {k : Int} (hk : g0 214 61 = k) {K : zi_M → Prop} {Q : Int → zi_M → Prop} (hK : ∀ g, zI k 443 g0 g → K g) :
    ∀ (n : Nat) (l : Int) (g : zi_M), 0 ≤ l → l ≤ 40 → zI k (403 + 1 * l) g0 g → 40 - l < (n : Int) → w_M_keepsTold_l232 K Q n l g
  | 0, l, g, h0, h1, h, hm => by exfalso; omega
  | n + 1, l, g, h0, h1, h, hm => by
    unfold w_M_keepsTold_l232
    refine ⟨⟨by omega, by omega⟩, fun q => hK g (by rw [show (443 : Int) = 403 + 1 * l by omega]; exact h), fun q => ⟨⟨by omega, by omega⟩, ?_⟩⟩
    refine zI.s h ⟨by omega, by omega⟩ hk (by rw [show (403 + 1 * l : Int) = 403 + l by omega]; exact zab_247 ⟨by omega, by omega⟩) ?_ (fun g1 h1 => ?_)
    · exact zk_rb h.b _ _
    exact k_M_keepsTold_l232 hk hK n (l + 1) g1 (by omega) (by omega) (by rw [show (403 + 1 * (l + 1) : Int) = 403 + 1 * l + 1 by omega]; exact h1) (by omega)
theorem k_M_keepsTold_l262 {g0 : zi_M} {k : Int} (hk : g0 214 61 = k) {K : zi_M → Prop} {Q : Int → zi_M → Prop} (hK : ∀ g, zI k 475 g0 g → K g) :
    ∀ (n : Nat) (l : Int) (g : zi_M), 0 ≤ l → l ≤ 32 → zI k (443 + 1 * l) g0 g → 32 - l < (n : Int) → w_M_keepsTold_l262 K Q n l g
  | 0, l, g, h0, h1, h, hm => by exfalso; omega
  | n + 1, l, g, h0, h1, h, hm => by
    unfold w_M_keepsTold_l262
    refine ⟨⟨by omega, by omega⟩, fun q => hK g (by rw [show (475 : Int) = 443 + 1 * l by omega]; exact h), fun q => ⟨⟨by omega, by omega⟩, ?_⟩⟩
    refine zI.s h ⟨by omega, by omega⟩ hk (by rw [show (443 + 1 * l : Int) = 443 + l by omega]; exact zab_233 ⟨by omega, by omega⟩) ?_ (fun g1 h1 => ?_)
    · exact zk_rb h.b _ _
    exact k_M_keepsTold_l262 hk hK n (l + 1) g1 (by omega) (by omega) (by rw [show (443 + 1 * (l + 1) : Int) = 443 + 1 * l + 1 by omega]; exact h1) (by omega)
theorem k_M_keepsTold_l292 {g0 : zi_M} {k : Int} (hk : g0 214 61 = k) {K : zi_M → Prop} {Q : Int → zi_M → Prop} (hK : ∀ g, zI k 539 g0 g → K g) :
    ∀ (n : Nat) (l : Int) (g : zi_M), 0 ≤ l → l ≤ 64 → zI k (475 + 1 * l) g0 g → 64 - l < (n : Int) → w_M_keepsTold_l292 K Q n l g
  | 0, l, g, h0, h1, h, hm => by exfalso; omega
  | n + 1, l, g, h0, h1, h, hm => by
    unfold w_M_keepsTold_l292
    refine ⟨⟨by omega, by omega⟩, fun q => hK g (by rw [show (539 : Int) = 475 + 1 * l by omega]; exact h), fun q => ⟨⟨by omega, by omega⟩, ?_⟩⟩
    refine zI.s h ⟨by omega, by omega⟩ hk (by rw [show (475 + 1 * l : Int) = 475 + l by omega]; exact zab_234 ⟨by omega, by omega⟩) ?_ (fun g1 h1 => ?_)
    · exact zk_rb h.b _ _
    exact k_M_keepsTold_l292 hk hK n (l + 1) g1 (by omega) (by omega) (by rw [show (475 + 1 * (l + 1) : Int) = 475 + 1 * l + 1 by omega]; exact h1) (by omega)
theorem k_M_image_l74 {g0 : zi_M} {k : Int} (hk : g0 214 61 = k) {K : zi_M → Prop} {Q : Int → zi_M → Prop} (hK : ∀ g, zI k 1139 g0 g → K g) :
    ∀ (n : Nat) (l : Int) (g : zi_M), 0 ≤ l → l ≤ 600 → zI k (539 + 1 * l) g0 g → 600 - l < (n : Int) → w_M_image_l74 K Q n l g
  | 0, l, g, h0, h1, h, hm => by exfalso; omega
  | n + 1, l, g, h0, h1, h, hm => by
    unfold w_M_image_l74
    refine ⟨⟨by omega, by omega⟩, fun q => hK g (by rw [show (1139 : Int) = 539 + 1 * l by omega]; exact h), fun q => ⟨⟨by omega, by omega⟩, ?_⟩⟩
    refine zI.s h ⟨by omega, by omega⟩ hk (by rw [show (539 + 1 * l : Int) = 539 + l by omega]; exact zab_221 ⟨by omega, by omega⟩) ?_ (fun g1 h1 => ?_)
    · exact zk_rb h.b _ _
    exact k_M_image_l74 hk hK n (l + 1) g1 (by omega) (by omega) (by rw [show (539 + 1 * (l + 1) : Int) = 539 + 1 * l + 1 by omega]; exact h1) (by omega)
theorem k_M_keepsLaw_l18 {g0 : zi_M} {k : Int} (hk : g0 214 61 = k) {K : zi_M → Prop} {Q : Int → zi_M → Prop} (hK : ∀ g, zI k 1204 g0 g → K g) :
    ∀ (n : Nat) (l : Int) (g : zi_M), 0 ≤ l → l ≤ 16 → zI k (1140 + 4 * l) g0 g → 16 - l < (n : Int) → w_M_keepsLaw_l18 K Q n l g
  | 0, l, g, h0, h1, h, hm => by exfalso; omega
  | n + 1, l, g, h0, h1, h, hm => by
    unfold w_M_keepsLaw_l18
    refine ⟨⟨by omega, by omega⟩, fun q => hK g (by rw [show (1204 : Int) = 1140 + 4 * l by omega]; exact h), fun q => ⟨⟨by omega, by omega⟩, ?_⟩⟩
    refine zI.s h ⟨by omega, by omega⟩ hk (by rw [show (1140 + 4 * l : Int) = 1140 + 4 * l by omega]; exact zab_225 ⟨by omega, by omega⟩) ?_ (fun g1 h1 => ?_)
    · exact zk_rb h.b _ _
    refine zI.s h1 ⟨by omega, by omega⟩ hk (by rw [show (1140 + 4 * l + 1 : Int) = 1141 + 4 * l by omega]; exact zab_226 ⟨by omega, by omega⟩) ?_ (fun g2 h2 => ?_)
    · exact zk_rb h1.b _ _
    refine zI.s h2 ⟨by omega, by omega⟩ hk (by rw [show (1140 + 4 * l + 1 + 1 : Int) = 1142 + 4 * l by omega]; exact zab_227 ⟨by omega, by omega⟩) ?_ (fun g3 h3 => ?_)
    · exact zk_rb h2.b _ _
    refine zI.s h3 ⟨by omega, by omega⟩ hk (by rw [show (1140 + 4 * l + 1 + 1 + 1 : Int) = 1143 + 4 * l by omega]; exact zab_228 ⟨by omega, by omega⟩) ?_ (fun g4 h4 => ?_)
    · exact zk_rb h3.b _ _
    exact k_M_keepsLaw_l18 hk hK n (l + 1) g4 (by omega) (by omega) (by rw [show (1140 + 4 * (l + 1) : Int) = 1140 + 4 * l + 1 + 1 + 1 + 1 by omega]; exact h4) (by omega)
theorem k_M_keepsLaw_l96 {g0 : zi_M} {k : Int} (hk : g0 214 61 = k) {K : zi_M → Prop} {Q : Int → zi_M → Prop} (hK : ∀ g, zI k 2004 g0 g → K g) :
    ∀ (n : Nat) (l : Int) (g : zi_M), 0 ≤ l → l ≤ 400 → zI k (1204 + 2 * l) g0 g → 400 - l < (n : Int) → w_M_keepsLaw_l96 K Q n l g
  | 0, l, g, h0, h1, h, hm => by exfalso; omega
  | n + 1, l, g, h0, h1, h, hm => by
    unfold w_M_keepsLaw_l96
    refine ⟨⟨by omega, by omega⟩, fun q => hK g (by rw [show (2004 : Int) = 1204 + 2 * l by omega]; exact h), fun q => ⟨⟨by omega, by omega⟩, ?_⟩⟩
    refine zI.s h ⟨by omega, by omega⟩ hk (by rw [show (1204 + 2 * l : Int) = 1204 + 2 * l by omega]; exact zab_229 ⟨by omega, by omega⟩) ?_ (fun g1 h1 => ?_)
    · exact zk_rb h.b _ _
    refine zI.s h1 ⟨by omega, by omega⟩ hk (by rw [show (1204 + 2 * l + 1 : Int) = 1205 + 2 * l by omega]; exact zab_230 ⟨by omega, by omega⟩) ?_ (fun g2 h2 => ?_)
    · exact zk_rb h1.b _ _
    exact k_M_keepsLaw_l96 hk hK n (l + 1) g2 (by omega) (by omega) (by rw [show (1204 + 2 * (l + 1) : Int) = 1204 + 2 * l + 1 + 1 by omega]; exact h2) (by omega)
theorem k_M_keepsMany_i {g0 g : zi_M} {k : Int} (hk : g0 214 61 = k) {K : Int → zi_M → Prop} (h : zI k 264 g0 g) (hK : ∀ g', zI k 273 g0 g' → K 0 g') : w_M_keepsMany g K := by
  unfold w_M_keepsMany
  refine zI.s h ⟨by decide, by decide⟩ hk zabf_6 (zk_rb h.b _ _) (fun g1 h1 => ?_)
  refine zI.s h1 ⟨by decide, by decide⟩ hk zabf_7 (zk_rb h1.b _ _) (fun g2 h2 => ?_)
  refine zI.s h2 ⟨by decide, by decide⟩ hk zabf_35 (zk_rb h2.b _ _) (fun g3 h3 => ?_)
  refine zI.s h3 ⟨by decide, by decide⟩ hk zabf_37 (zk_rb h3.b _ _) (fun g4 h4 => ?_)
  refine zI.s h4 ⟨by decide, by decide⟩ hk zabf_39 (zk_rb h4.b _ _) (fun g5 h5 => ?_)
  refine zI.s h5 ⟨by decide, by decide⟩ hk zabf_46 (zk_rb h5.b _ _) (fun g6 h6 => ?_)
  refine zI.s h6 ⟨by decide, by decide⟩ hk zabf_50 (zk_rb h6.b _ _) (fun g7 h7 => ?_)
  refine zI.s h7 ⟨by decide, by decide⟩ hk zabf_56 (zk_rb h7.b _ _) (fun g8 h8 => ?_)
  refine zI.s h8 ⟨by decide, by decide⟩ hk zabf_58 (zk_rb h8.b _ _) (fun g9 h9 => ?_)
  exact hK _ h9
theorem k_M_keepsTold_i {g0 g : zi_M} {k : Int} (hk : g0 214 61 = k) {K : Int → zi_M → Prop} (h : zI k 273 g0 g) (hK : ∀ g', zI k 539 g0 g' → K 0 g') : w_M_keepsTold g K := by
  unfold w_M_keepsTold
  refine ⟨11, k_M_keepsTold_l2 hk (fun g1 h1 => ⟨9, k_M_keepsTold_l96 hk (fun g2 h2 => ⟨13, k_M_keepsTold_l126 hk (fun g3 h3 => ⟨17, k_M_keepsTold_l172 hk (fun g4 h4 => ⟨33, k_M_keepsTold_l202 hk (fun g5 h5 => ⟨41, k_M_keepsTold_l232 hk (fun g6 h6 => ⟨33, k_M_keepsTold_l262 hk (fun g7 h7 => ⟨65, k_M_keepsTold_l292 hk (fun g8 h8 => hK g8 h8) 65 0 g7 (by decide) (by decide) h7 (by decide)⟩) 33 0 g6 (by decide) (by decide) h6 (by decide)⟩) 41 0 g5 (by decide) (by decide) h5 (by decide)⟩) 33 0 g4 (by decide) (by decide) h4 (by decide)⟩) 17 0 g3 (by decide) (by decide) h3 (by decide)⟩) 13 0 g2 (by decide) (by decide) h2 (by decide)⟩) 9 0 g1 (by decide) (by decide) h1 (by decide)⟩) 11 0 g (by decide) (by decide) h (by decide)⟩
theorem k_M_keepsLaw_i {g0 g : zi_M} {k : Int} (hk : g0 214 61 = k) {K : Int → zi_M → Prop} (h : zI k 1139 g0 g) (hK : ∀ g', zI k 2004 g0 g' → K 0 g') : w_M_keepsLaw g K := by
  unfold w_M_keepsLaw
  refine zI.s h ⟨by decide, by decide⟩ hk zab_224 (zk_rb h.b _ _) (fun g1 h1 => ⟨17, ?_⟩)
  exact k_M_keepsLaw_l18 hk (fun g2 h2 => ⟨401, k_M_keepsLaw_l96 hk (fun g3 h3 => hK g3 h3) 401 0 g2 (by decide) (by decide) h2 (by decide)⟩) 17 0 g1 (by decide) (by decide) h1 (by decide)
theorem k_M_image {l1 : Int} {g : zi_M} {Q : Int → zi_M → Prop} (I : zk_I g) (p1 : 0 ≤ l1 ∧ l1 ≤ 1) (hQ : ∀ (v : Int) (g' : zi_M), zk_I g' → zk_fr fr_M_image g g' → (0 ≤ v ∧ v ≤ 1) → ((¬ l1 = 0 ∨ ¬ g 214 62 = 0 → v = 1) ∧ (l1 = 0 ∧ g 214 62 = 0 → v = 0)) → ((¬ l1 = 0 → g' 214 62 = 1) ∧ (l1 = 0 → g' 214 62 = g 214 62)) → (v = 1 → ¬ l1 = 0 → zimT g g') → (v = 1 → l1 = 0 → zimR g g') → (v = 0 → ∀ (a : Nat) (i : Int), ¬ (a = 214 ∧ i = 0) → g' a i = g a i) → (l1 = 0 → v = 1 → g' 214 3 = 0) → Q v g') : w_M_image l1 g Q := by
  have fp : ∀ (a : Nat) (i : Int), 0 ≤ zv a i → fr_M_image a i := fun a i h => zv_fr h
  have f214 : ∀ i : Int, i = 0 ∨ i = 3 ∨ i = 61 ∨ i = 62 ∨ i = 63 → fr_M_image 214 i := by
    intro i h
    unfold fr_M_image
    rcases h with h | h | h | h | h <;> subst h <;> decide
  have f250 : ∀ i : Int, fr_M_image 250 i := by
    intro i
    unfold fr_M_image
    simp
  unfold w_M_image
  intro g1 e1
  have I1 : zk_I g1 := by rw [e1]; exact zk_upd (L := -2147483648) (H := 2147483647) rfl rfl I ⟨by decide, by decide⟩
  have a1 : ∀ (a : Nat) (i : Int), ¬ (a = 214 ∧ i = 0) → g1 a i = g a i := fun a i h => by rw [e1]; unfold zi_u; rw [if_neg h]
  have c62 : g1 214 62 = g 214 62 := a1 _ _ (by omega)
  have r62 : 0 ≤ g 214 62 ∧ g 214 62 ≤ 1 := I.1 214 62
  have b18 : (¬ l1 = 0 ∨ ¬ g 214 62 = 0) → w_M_image_b18 l1 g1 Q := by
    intro yes
    unfold w_M_image_b18
    refine ⟨by omega, ?_⟩
    intro g4 e4 g5 e5 g6 e6
    have I4 : zk_I g4 := by rw [e4]; exact zk_upd (L := 0) (H := 1) rfl rfl I1 ⟨by omega, by omega⟩
    have I5 : zk_I g5 := by rw [e5]; exact zk_upd (L := 0) (H := 1) rfl rfl I4 ⟨by decide, by decide⟩
    have I6 : zk_I g6 := by rw [e6]; exact zk_upd (L := 0) (H := 2300) rfl rfl I5 ⟨by decide, by decide⟩
    have a6 : ∀ (a : Nat) (i : Int), ¬ (a = 214 ∧ (i = 0 ∨ i = 61 ∨ i = 62 ∨ i = 63)) → g6 a i = g a i := by
      intro a i h
      have n3 : ¬ (a = 214 ∧ i = 63) := fun q => h ⟨q.1, Or.inr (Or.inr (Or.inr q.2))⟩
      have n2 : ¬ (a = 214 ∧ i = 62) := fun q => h ⟨q.1, Or.inr (Or.inr (Or.inl q.2))⟩
      have n1 : ¬ (a = 214 ∧ i = 61) := fun q => h ⟨q.1, Or.inr (Or.inl q.2)⟩
      have n0 : ¬ (a = 214 ∧ i = 0) := fun q => h ⟨q.1, Or.inl q.2⟩
      rw [e6]; unfold zi_u; rw [if_neg n3]
      rw [e5]; unfold zi_u; rw [if_neg n2]
      rw [e4]; unfold zi_u; rw [if_neg n1]
      exact a1 a i n0
    have b61 : g6 214 61 = l1 := by rw [e6, zi_u_ni (by decide), e5, zi_u_ni (by decide), e4, zi_u_eq]
    have b62 : g6 214 62 = 1 := by rw [e6, zi_u_ni (by decide), e5, zi_u_eq]
    have b63 : g6 214 63 = 0 := by rw [e6, zi_u_eq]
    have z0 : zI l1 0 g6 g6 := by
      refine ⟨I6.1, fun _ a i => ?_, fun _ a i => ?_⟩
      · rw [if_neg (by omega)]
        by_cases c : a = 214 ∧ i = 63
        · rw [if_pos c, c.1, c.2]; exact b63
        · rw [if_neg c]
      · rw [if_neg (by omega)]
        by_cases c : a = 214 ∧ i = 63
        · rw [if_pos c, c.1, c.2]; exact b63
        · rw [if_neg c]
    refine ⟨265, k_M_image_l35 b61 (fun g14 h14 => ?_) 265 0 g6 (by decide) (by decide) z0 (by decide)⟩
    refine k_M_keepsMany_i b61 h14 (fun g16 h16 => ?_)
    refine k_M_keepsTold_i b61 h16 (fun g19 h19 => ⟨601, ?_⟩)
    refine k_M_image_l74 b61 (fun g28 h28 => ?_) 601 0 g19 (by decide) (by decide) h19 (by decide)
    refine k_M_keepsLaw_i b61 h28 (fun g30 h30 => ?_)
    have J30 := zI_j h30 I6
    have I30 : zk_I g30 := ⟨h30.b, J30⟩
    refine ⟨⟨by omega, by omega⟩, fun n => ?_, fun e => ?_⟩
    · have t := h30.t n
      have o62 : g30 214 62 = 1 := by rw [t, if_neg (by omega), if_neg (by omega), b62]
      refine hQ 1 g30 I30 ?_ ⟨by decide, by decide⟩ ⟨fun _ => rfl, fun q => absurd q.1 n⟩ ⟨fun _ => o62, fun q => absurd q n⟩ (fun _ _ => ⟨fun p p0 p1 => ?_, fun a i n1 n2 => ?_, fun i i0 i1 i2 i3 => ?_⟩) (fun _ q => absurd q n) (fun q => absurd q (by decide)) (fun q _ => absurd q n)
      · intro a i hf
        have x1 : ¬ (a = 250 ∧ 0 ≤ i ∧ i < 2004) := fun q => hf (by rw [q.1]; exact f250 i)
        have x2 : ¬ (a = 214 ∧ i = 63) := fun q => hf (by rw [q.1, q.2]; exact f214 63 (by omega))
        rw [t, if_neg x1, if_neg x2]
        exact a6 a i (fun q => hf (by rw [q.1]; exact f214 i (by omega)))
      · have zp := (zim_p ⟨p0, p1⟩).1
        rw [t, if_pos ⟨rfl, p0, p1⟩]
        refine a6 _ _ (fun q => ?_)
        have z1 := zp.1
        rw [q.1] at z1
        rcases q.2 with w | w | w | w <;> rw [w] at z1
        · rw [show zv 214 0 = -1 by decide +kernel] at z1; omega
        · rw [zv_61] at z1; omega
        · rw [show zv 214 62 = -1 by decide +kernel] at z1; omega
        · rw [zv_63] at z1; omega
      · rw [t, if_neg (fun q => n1 q.1), if_neg (fun q => n2 q.1)]
        exact a6 a i (fun q => n2 q.1)
      · rw [t, if_neg (by omega), if_neg (by omega)]
        exact a6 _ _ (by omega)
    · intro g33 e33
      have r := h30.r e
      have z62 : zv 214 62 = -1 := by decide +kernel
      have I33 : zk_I g33 := by rw [e33]; exact zk_upd (L := 0) (H := 6) rfl rfl I30 ⟨by decide, by decide⟩
      have o62 : g33 214 62 = 1 := by rw [e33, zi_u_ni (by decide), r, z62, if_neg (by omega), if_neg (by omega), b62]
      have g62 : g 214 62 = 1 := by omega
      have u33 : ∀ (a : Nat) (i : Int), ¬ (a = 214 ∧ i = 3) → g33 a i = g30 a i := fun a i h => by rw [e33]; unfold zi_u; rw [if_neg h]
      refine hQ 1 g33 I33 ?_ ⟨by decide, by decide⟩ ⟨fun _ => rfl, fun q => by omega⟩ ⟨fun q => absurd e q, fun _ => by rw [o62, g62]⟩ (fun _ q => absurd e q) (fun _ _ => ⟨fun a i hz => ?_, fun a i hz n2 => ?_, fun i hz i0 i3 i1 i2 i4 => ?_⟩) (fun q => absurd q (by decide)) (fun _ _ => by rw [e33, zi_u_eq])
      · intro a i hf
        have x3 : ¬ (a = 214 ∧ i = 3) := fun q => hf (by rw [q.1, q.2]; exact f214 3 (by omega))
        have x1 : ¬ (0 ≤ zv a i ∧ zv a i < 2004) := fun q => hf (fp a i q.1)
        have x2 : ¬ (a = 214 ∧ i = 63) := fun q => hf (by rw [q.1, q.2]; exact f214 63 (by omega))
        rw [u33 a i x3, r, if_neg x1, if_neg x2]
        exact a6 a i (fun q => hf (by rw [q.1]; exact f214 i (by omega)))
      · have h2 : zv a i < 2004 := by
          rcases zv_none (a := a) (i := i) with q | q
          · omega
          · exact q.2
        have x3 : ¬ (a = 214 ∧ i = 3) := fun q => by rw [q.1, q.2, show zv 214 3 = -1 by decide +kernel] at hz; omega
        rw [u33 a i x3, r, if_pos ⟨hz, h2⟩]
        exact a6 _ _ (by omega)
      · rw [u33 a i (fun q => n2 q.1), r, hz, if_neg (by omega), if_neg (fun q => n2 q.1)]
        exact a6 a i (fun q => n2 q.1)
      · rw [u33 214 i (fun q => i3 q.2), r, hz, if_neg (by omega), if_neg (fun q => i4 q.2)]
        exact a6 _ _ (by omega)
  have F1 : zk_fr fr_M_image g g1 := by rw [e1]; exact zk_fu (zk_f0 _) (f214 0 (Or.inl rfl))
  refine ⟨⟨by omega, by omega⟩, fun n => b18 (Or.inl n), fun e => ⟨zk_rng I1 _ _, fun n => b18 (Or.inr (by rw [← c62]; exact n)), fun z => ?_⟩⟩
  exact hQ 0 g1 I1 F1 ⟨by decide, by decide⟩ ⟨fun q => by rw [c62] at z; omega, fun _ => rfl⟩ ⟨fun q => absurd e q, fun _ => c62⟩ (fun q => absurd q (by decide)) (fun q => absurd q (by decide)) (fun _ a i h => by rw [e1]; unfold zi_u; rw [if_neg h]) (fun _ q => absurd q (by decide))

-- SpoutNews.look(I)I
set_option maxRecDepth 100000 in
set_option maxHeartbeats 4000000 in
theorem k_S_look {l1 : Int} {g : zi_M} {Q : Int → zi_M → Prop} (I : zk_I g) (p1 : (-2147483648) ≤ l1 ∧ l1 ≤ 2147483647) (hQ : ∀ v : Int, ((-2147483648) ≤ v ∧ v ≤ 2147483647) → (zLoS g l1 v) → Q v g) : w_S_look l1 g Q := by
  unfold w_S_look
  refine ⟨⟨by omega, by omega⟩, ?_⟩
  refine ⟨fun c2 => ?_, fun c2 => ?_, fun c2 => ?_, fun c2 => ?_, fun c2 => ?_, fun c2 => ?_, fun c2 => ?_, fun c2 => ?_, fun c2 => ?_, fun c2 => ?_, fun c2 => ?_, fun c2 => ?_, fun c2 => ?_, fun c2 => ?_⟩
  · exact hQ _ ⟨by omega, by omega⟩ (by refine ⟨?_, ?_, ?_, ?_, ?_, ?_, ?_, ?_, ?_, ?_, ?_, ?_, ?_, ?_⟩ <;> (intro hz; first | (exfalso; omega) | rfl))
  · have m_1 : 0 ≤ (g 2 8) ∧ (g 2 8) ≤ 10 := I.1 2 8
    exact hQ _ ⟨by omega, by omega⟩ (by refine ⟨?_, ?_, ?_, ?_, ?_, ?_, ?_, ?_, ?_, ?_, ?_, ?_, ?_, ?_⟩ <;> (intro hz; first | (exfalso; omega) | rfl))
  · have m_2 : 0 ≤ (g 2 11) ∧ (g 2 11) ≤ 8 := I.1 2 11
    exact hQ _ ⟨by omega, by omega⟩ (by refine ⟨?_, ?_, ?_, ?_, ?_, ?_, ?_, ?_, ?_, ?_, ?_, ?_, ?_, ?_⟩ <;> (intro hz; first | (exfalso; omega) | rfl))
  · have m_3 : 0 ≤ (g 2 14) ∧ (g 2 14) ≤ 9 := I.1 2 14
    exact hQ _ ⟨by omega, by omega⟩ (by refine ⟨?_, ?_, ?_, ?_, ?_, ?_, ?_, ?_, ?_, ?_, ?_, ?_, ?_, ?_⟩ <;> (intro hz; first | (exfalso; omega) | rfl))
  · have m_4 : (-2147483648) ≤ (g 2 15) ∧ (g 2 15) ≤ 2147483647 := I.1 2 15
    exact hQ _ ⟨by omega, by omega⟩ (by refine ⟨?_, ?_, ?_, ?_, ?_, ?_, ?_, ?_, ?_, ?_, ?_, ?_, ?_, ?_⟩ <;> (intro hz; first | (exfalso; omega) | rfl))
  · have m_5 : (-2147483648) ≤ (g 2 16) ∧ (g 2 16) ≤ 2147483647 := I.1 2 16
    exact hQ _ ⟨by omega, by omega⟩ (by refine ⟨?_, ?_, ?_, ?_, ?_, ?_, ?_, ?_, ?_, ?_, ?_, ?_, ?_, ?_⟩ <;> (intro hz; first | (exfalso; omega) | rfl))
  · have m_6 : (-2147483648) ≤ (g 2 17) ∧ (g 2 17) ≤ 2147483647 := I.1 2 17
    exact hQ _ ⟨by omega, by omega⟩ (by refine ⟨?_, ?_, ?_, ?_, ?_, ?_, ?_, ?_, ?_, ?_, ?_, ?_, ?_, ?_⟩ <;> (intro hz; first | (exfalso; omega) | rfl))
  · have m_7 : 0 ≤ (g 2 19) ∧ (g 2 19) ≤ 150 := I.1 2 19
    exact hQ _ ⟨by omega, by omega⟩ (by refine ⟨?_, ?_, ?_, ?_, ?_, ?_, ?_, ?_, ?_, ?_, ?_, ?_, ?_, ?_⟩ <;> (intro hz; first | (exfalso; omega) | rfl))
  · have m_8 : (-2147483648) ≤ (g 2 18) ∧ (g 2 18) ≤ 2147483647 := I.1 2 18
    exact hQ _ ⟨by omega, by omega⟩ (by refine ⟨?_, ?_, ?_, ?_, ?_, ?_, ?_, ?_, ?_, ?_, ?_, ?_, ?_, ?_⟩ <;> (intro hz; first | (exfalso; omega) | rfl))
  · have m_9 : 0 ≤ (g 20 7) ∧ (g 20 7) ≤ 16 := I.1 20 7
    exact hQ _ ⟨by omega, by omega⟩ (by refine ⟨?_, ?_, ?_, ?_, ?_, ?_, ?_, ?_, ?_, ?_, ?_, ?_, ?_, ?_⟩ <;> (intro hz; first | (exfalso; omega) | rfl))
  · have m_10 : 0 ≤ (g 19 2) ∧ (g 19 2) ≤ 17 := I.1 19 2
    exact hQ _ ⟨by omega, by omega⟩ (by refine ⟨?_, ?_, ?_, ?_, ?_, ?_, ?_, ?_, ?_, ?_, ?_, ?_, ?_, ?_⟩ <;> (intro hz; first | (exfalso; omega) | rfl))
  · have m_11 : 0 ≤ (g 19 5) ∧ (g 19 5) ≤ 16 := I.1 19 5
    exact hQ _ ⟨by omega, by omega⟩ (by refine ⟨?_, ?_, ?_, ?_, ?_, ?_, ?_, ?_, ?_, ?_, ?_, ?_, ?_, ?_⟩ <;> (intro hz; first | (exfalso; omega) | rfl))
  · have m_12 : 0 ≤ (g 19 10) ∧ (g 19 10) ≤ 16 := I.1 19 10
    exact hQ _ ⟨by omega, by omega⟩ (by refine ⟨?_, ?_, ?_, ?_, ?_, ?_, ?_, ?_, ?_, ?_, ?_, ?_, ?_, ?_⟩ <;> (intro hz; first | (exfalso; omega) | rfl))
  · have m_13 : 0 ≤ (g 91 1) ∧ (g 91 1) ≤ 6 := I.1 91 1
    exact hQ _ ⟨by omega, by omega⟩ (by refine ⟨?_, ?_, ?_, ?_, ?_, ?_, ?_, ?_, ?_, ?_, ?_, ?_, ?_, ?_⟩ <;> (intro hz; first | (exfalso; omega) | rfl))
