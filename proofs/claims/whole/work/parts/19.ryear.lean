/-! REFERENCE: a year -/
theorem zten_neg {r : zRw} {f : Nat} (hf : f < 2 ^ 31) : ∀ k i, i + k < 2 ^ 31 → (zten r (nI f) i k < 0 ↔ ∀ q, i ≤ q → q < i + k → zat r q ≠ nI f) := by
  intro k
  induction k with
  | zero =>
    intro i hi
    exact ⟨fun _ q h1 h2 => absurd h2 (by omega), fun _ => zneg9⟩
  | succ k ih =>
    intro i hi
    unfold zten
    by_cases c : zat r i = nI f
    · rw [if_pos c]
      exact ⟨fun z => absurd z (nI_pos (by omega)), fun z => absurd c (z i (Nat.le_refl _) (by omega))⟩
    · rw [if_neg c, ih (i + 1) (by omega)]
      constructor
      · intro z q h1 h2
        by_cases e : q = i
        · subst e; exact c
        · exact z q (by omega) (by omega)
      · intro z q h1 h2
        exact z q (by omega) (by omega)
theorem zten_fr {r : zRw} {F P f : Nat} (h : zGd r F P) (hf : f < 6) : zten r (nI f) 0 P < 0 ↔ zfr r f = true := by
  have := h.P6
  rw [zten_neg (by omega) P 0 (by omega), zfr_iff, h.nP]
  exact ⟨fun z q hq => z q (by omega) (by omega), fun z q _ hq => z q (by omega)⟩
/-- what grows of p in a year of frost or none -/
def zgz (r : zRw) (z : Int32) (p : Nat) : Int32 := if z = 0 then zgw r p else nI 0
def zgFz (r : zRw) (z : Int32) (f P : Nat) : Int32 := if z = 0 then zgF r f P else nI 0
theorem zgFz_n {r : zRw} {z : Int32} {f i : Nat} (h : ¬ (zwk r i = true ∧ zsf r i = f)) : zgFz r z f (i + 1) = zgFz r z f i := by
  unfold zgFz
  rw [zgF, if_neg h]
theorem zgFz_t {r : zRw} {z : Int32} {i : Nat} (h : zwk r i = true) : zgFz r z (zsf r i) (i + 1) = zgz r z i := by
  have e : zgF r (zsf r i) (i + 1) = zgw r i := by
    rw [zgF]
    exact if_pos ⟨h, rfl⟩
  unfold zgFz zgz
  rw [e]
theorem zgFz_e {r : zRw} {z : Int32} {f i : Nat} (h : zgF r f i = nI 0) : zgFz r z f i = nI 0 := by
  unfold zgFz
  rw [h]
  split <;> rfl
theorem zsum_gz0 {r : zRw} {i : Nat} : zsum (zgz r 0) i = zAl r i := by
  induction i with
  | zero => rfl
  | succ i ih => rw [zsum, zAl, ih]; congr 1
theorem zsum_gz1 {r : zRw} {z : Int32} (hz : ¬ z = 0) {i : Nat} : zsum (zgz r z) i = nI 0 := by
  induction i with
  | zero => rfl
  | succ i ih => rw [zsum, ih, zgz, if_neg hz]; rfl
/-- nobody ahead of him grows on his farm -/
theorem zgF_0 {r : zRw} {F P i : Nat} (h : zGd r F P) (hi : i < P) (hw : zwk r i = true) : ∀ j, j ≤ i → zgF r (zsf r i) j = nI 0 := by
  intro j
  induction j with
  | zero => intro _; rfl
  | succ j ih =>
    intro hj
    rw [zgF, if_neg, ih (by omega)]
    rintro ⟨q1, q2⟩
    exact h.inj (by omega) hi (by omega) (zwk_iff.mp q1).1 (zwk_iff.mp hw).1 q2
def zMi (r : zRw) (i : Nat) : zRw := fun k => if 26 ≤ k ∧ k < 26 + 4 * i ∧ (k - 26) % 4 = 0 then zmv r ((k - 26) / 4) else r k
theorem zMi_0 {r : zRw} : zMi r 0 = r := by
  funext k
  unfold zMi
  rw [if_neg (by omega)]
theorem zMi_s {r : zRw} {i : Nat} : upd (zMi r i) (26 + 4 * i) (zmv r i) = zMi r (i + 1) := by
  funext k
  by_cases e : k = 26 + 4 * i
  · subst e
    rw [zupd_s]
    unfold zMi
    rw [if_pos (by omega), show (26 + 4 * i - 26) / 4 = i by omega]
  · rw [zupd_o e]
    unfold zMi
    by_cases d : 26 ≤ k ∧ k < 26 + 4 * i ∧ (k - 26) % 4 = 0
    · rw [if_pos d, if_pos (by omega)]
    · rw [if_neg d, if_neg (by omega)]
theorem zMi_n {r : zRw} {i : Nat} (h : zmv r i = zat r i) : zMi r i = zMi r (i + 1) := by
  rw [← zMi_s]
  funext k
  by_cases e : k = 26 + 4 * i
  · subst e
    rw [zupd_s, h]
    unfold zMi
    rw [if_neg (by omega)]; rfl
  · rw [zupd_o e]
theorem zMi_P {r : zRw} {F P : Nat} (h : zGd r F P) : zMi r P = zMv r := by
  funext k
  unfold zMi
  by_cases d : 26 ≤ k ∧ k < 26 + 4 * P ∧ (k - 26) % 4 = 0
  · rw [if_pos d]
    have e := zMv_at h (p := (k - 26) / 4) (by omega)
    rw [zat, show 26 + 4 * ((k - 26) / 4) = k by omega] at e
    exact e.symm
  · rw [if_neg d, zMv_o h (by omega)]
theorem zMi_at {r : zRw} {i q : Nat} (hq : i ≤ q) : zat (zMi r i) q = zat r q := by
  unfold zat zMi
  rw [if_neg (by omega)]
theorem zMi_k {r : zRw} {i k : Nat} (hk : k < 26) : zMi r i k = r k := by
  unfold zMi
  rw [if_neg (by omega)]
/-- a farm's three sorts, one after another -/
theorem zro_m3 {σ τ : zSt} {c f : Nat} (hf : f < 6) (he : τ = zC σ c (upd (upd (upd (σ c) (5 + 3 * f + 0) (zhd (σ c (5 + 3 * f + 0) + nI 1) (nI 30))) (5 + 3 * f + 1) (zhd (σ c (5 + 3 * f + 1) + nI 1) (nI 30))) (5 + 3 * f + 2) (zhd (σ c (5 + 3 * f + 2) + nI 1) (nI 30)))) : zro τ c = zU1 (zro σ c) f := by
  rw [he, zro_C]
  funext j
  unfold zU1
  by_cases e : 5 + 3 * f ≤ j ∧ j < 8 + 3 * f
  · rw [if_pos e, if_pos (by omega), zro_k (by omega)]
    have h3 : j = 5 + 3 * f + 0 ∨ j = 5 + 3 * f + 1 ∨ j = 5 + 3 * f + 2 := by omega
    rcases h3 with rfl | rfl | rfl
    · rw [zupd_o (by omega), zupd_o (by omega), zupd_s]
    · rw [zupd_o (by omega), zupd_s]
    · rw [zupd_s]
  · rw [if_neg e, zupd_o (by omega), zupd_o (by omega), zupd_o (by omega)]; rfl
section zROWR
variable {r : zRw} {F P : Nat}
/-- behind the first i farmers, farmer i is as at first -/
theorem zT4_wk (h : zGd r F P) {i : Nat} (hi : i < P) : zwk (zTn (upd r 4 (r 4 + nI 1)) i) i = zwk r i := by
  rw [zTn_wk (zGd_4 h _) (by omega) (by omega), zwk, zwk, zat, zat, ztd, ztd, zupd_o (by omega), zupd_o (by omega)]
theorem zT4_at (h : zGd r F P) {i q : Nat} (hi : i ≤ P) : zat (zTn (upd r 4 (r 4 + nI 1)) i) q = zat r q := by
  rw [zTn_at (zGd_4 h _) (by omega), zat, zat, zupd_o (by omega)]
theorem zT4_td (h : zGd r F P) {i : Nat} (hi : i < P) : ztd (zTn (upd r 4 (r 4 + nI 1)) i) i = ztd r i := by
  rw [zTn_td (zGd_4 h _) (by omega) (by omega), ztd, ztd, zupd_o (by omega)]
theorem zT4_gw (h : zGd r F P) {i : Nat} (hi : i < P) : zgw (zTn (upd r 4 (r 4 + nI 1)) i) i = zgw r i := by
  rw [zTn_gw (zGd_4 h _) hi]
  exact zgw_congr (fun k hk => zupd_o (by omega))
theorem zT4_sf (h : zGd r F P) {i q : Nat} (hi : i ≤ P) : zsf (zTn (upd r 4 (r 4 + nI 1)) i) q = zsf r q := by
  rw [zsf, zT4_at h hi, zsf]
theorem zT4_k (h : zGd r F P) {i k : Nat} (hi : i ≤ P) (hk : k < 4) : zTn (upd r 4 (r 4 + nI 1)) i k = r k := by
  rw [(zTn_static (zGd_4 h _) hi).1 k (by omega), zupd_o (by omega)]
theorem zT4_kd (h : zGd r F P) {i q : Nat} (hi : i ≤ P) : zkd (zTn (upd r 4 (r 4 + nI 1)) i) q = zkd r q := by
  rw [zTn_kd (zGd_4 h _) hi, zkd, zkd, zupd_o (by omega)]
theorem zT4_fg (h : zGd r F P) {i q : Nat} (hi : i ≤ P) : zfg (zTn (upd r 4 (r 4 + nI 1)) i) q = zfg r q := by
  rw [zTn_fg (zGd_4 h _) hi, zfg, zfg, zupd_o (by omega)]
theorem zT4_gd (h : zGd r F P) {i : Nat} (hi : i ≤ P) : zGd (zTn (upd r 4 (r 4 + nI 1)) i) F P := zGd_Tn (zGd_4 h _) hi
end zROWR
/-- what a year leaves in cell c, in grown and own -/
def zYq (c F P : Nat) (z : Int32) (σ τ : zSt) : Prop := zro τ c = zYw (zro σ c) (zsum (zgz (zro σ c) z) P) ∧ (∀ f, f < F → τ 55 f = σ 55 f + zgFz (zro σ c) z f P) ∧ (∀ p, p < P → τ 56 p = σ 56 p + zgz (zro σ c) z p) ∧ ∀ a, a ≠ c → a ≠ 55 → a ≠ 56 → τ a = σ a

theorem s_X6_year {n : Nat} {σ : zSt}  {c F P : Nat} (hc : zLY[c]? = some (.inl 47)) (hc4 : c < 55) (hg : zGd (zro σ c) F P) (z : Int32) : zSem (n + 3) mX6_year [.ref 50, .ref c, .int z] σ (fun v τ => v = some (.int (zsum (zgz (zro σ c) z) P)) ∧ zYq c F P z σ τ) := by
  have hF6 := hg.F6
  have hP6 := hg.P6
  have hc55 : c ≠ 55 := by omega
  have hc56 : c ≠ 56 := by omega
  refine zSem.of (by decide +kernel) (Nat.le_of_ble_eq_true rfl) (fun X hB hR => ?_)
  show zW X 0 [some (.ref 50), some (.ref c), some (.int z), none, none, none, none] [] σ
  have hl3 : ∀ i, i ≤ P → ∀ (υ : zSt) (acc : Int32) (a5 a6 : Option Value) (r3 : zRw), zGd r3 F P → zMv r3 = zYw (zro σ c) (zsum (zgz (zro σ c) z) P) → acc = zsum (zgz (zro σ c) z) P → zro υ c = zMi r3 i → (∀ f, f < F → υ 55 f = σ 55 f + zgFz (zro σ c) z f P) → (∀ p, p < P → υ 56 p = σ 56 p + zgz (zro σ c) z p) → (∀ a, a ≠ c → a ≠ 55 → a ≠ 56 → υ a = σ a) → zW X 249 [some (.ref 50), some (.ref c), some (.int z), some (.int (acc)), some (.int (nI i)), a5, a6] [] υ := by
    refine zfor P (fun i hi ih => ?_)
    intro υ acc a5 a6 r3 g3 m3 ac zu fu pu ou
    have k1 : υ c 1 = nI P := by rw [← zro_k (σ := υ) (c := c) (k := 1) (by omega), zu, zMi_k (by omega)]; exact g3.r1
    refine zw_iload4 hB dX6_year_249 ?_
    refine zw_aload1 hB dX6_year_251 ?_
    refine zw_iconst (x := nI 1) hB dX6_year_252 (by decide) ?_
    refine zw_ialdV (x := nI P) hB dX6_year_253 hc (by omega) (by decide) (k1) ?_
    refine zw_icmp_geN (tgt := 298) hB dX6_year_254 (by decide) (by omega) (by omega) (fun c254 => ?_) (fun c254 => ?_)
    · refine zw_iload3 hB dX6_year_298 ?_
      refine zw_iret hB hR dX6_year_299 rfl ?_
      refine ⟨by rw [ac], ?_, fu, pu, ou⟩
      rw [zu, show i = P by omega, zMi_P g3, m3]
    · refine zw_aload1 hB dX6_year_257 ?_
      refine zw_iload4 hB dX6_year_258 ?_
      refine zw_iconst (x := nI 3) hB dX6_year_260 (by decide) ?_
      refine zw_callS2P (M' := mX6_of) hB dX6_year_261 zl_X6_56 zg_X6_of (s_X6_of) ?_
      refine zw_ialdV (x := zat r3 i) hB dX6_year_264 hc (by omega) (by decide) ((zro_at (by omega)).trans (by rw [zu, zMi_at (Nat.le_refl _)])) ?_
      refine zw_if_lt (tgt := 292) hB dX6_year_265 (by decide) (fun c265 => ?_) (fun c265 => ?_)
      · refine zw_iinc4 hB dX6_year_292 (by first | exact zinc _ | rfl) rfl ?_
        refine zw_goto (tgt := 249) hB dX6_year_295 (by decide) ?_
        refine ih c254 _ acc _ _ r3 g3 m3 ac ?_ fu pu ou
        rw [zu]
        refine zMi_n ?_
        unfold zmv
        rw [if_pos c265]
      · obtain ⟨t, ht, et, ea, hf, em⟩ : ∃ t, t ≤ 5 ∧ r3 2 = nI t ∧ zat r3 i = nI (zsf r3 i) ∧ zsf r3 i < F ∧ zmv r3 i = nI ((zsf r3 i + t) % F) := by
          rcases zmv_n g3 c254 with ⟨e, -⟩ | h
          · exact absurd (by rw [e]; exact zneg9) c265
          · exact h
        refine zw_aload1 hB dX6_year_268 ?_
        refine zw_iload4 hB dX6_year_269 ?_
        refine zw_iconst (x := nI 3) hB dX6_year_271 (by decide) ?_
        refine zw_callS2P (M' := mX6_of) hB dX6_year_272 zl_X6_56 zg_X6_of (s_X6_of) ?_
        refine zw_aload1 hB dX6_year_275 ?_
        refine zw_iload4 hB dX6_year_276 ?_
        refine zw_iconst (x := nI 3) hB dX6_year_278 (by decide) ?_
        refine zw_callS2P (M' := mX6_of) hB dX6_year_279 zl_X6_56 zg_X6_of (s_X6_of) ?_
        refine zw_ialdV (x := nI (zsf r3 i)) hB dX6_year_282 hc (by omega) (by decide) ((zro_at (by omega)).trans (by rw [zu, zMi_at (Nat.le_refl _)]; exact ea)) ?_
        refine zw_aload1 hB dX6_year_283 ?_
        refine zw_iconst (x := nI 2) hB dX6_year_284 (by decide) ?_
        refine zw_ialdV (x := nI t) hB dX6_year_285 hc (by omega) (by decide) ((zro_k (σ := υ) (c := c) (k := 2) (by omega)).symm.trans (by rw [zu, zMi_k (by omega)]; exact et)) ?_
        refine zw_iaddN hB dX6_year_286 ?_
        refine zw_aload1 hB dX6_year_287 ?_
        refine zw_iconst (x := nI 0) hB dX6_year_288 (by decide) ?_
        refine zw_ialdV (x := nI F) hB dX6_year_289 hc (by omega) (by decide) ((zro_k (σ := υ) (c := c) (k := 0) (by omega)).symm.trans (by rw [zu, zMi_k (by omega)]; exact g3.r0)) ?_
        refine zw_iremN hB dX6_year_290 (by omega) (by omega) (by omega) ?_
        refine zw_iastN hB dX6_year_291 hc (by omega) (by decide) ?_
        refine zw_iinc4 hB dX6_year_292 (by first | exact zinc _ | rfl) rfl ?_
        refine zw_goto (tgt := 249) hB dX6_year_295 (by decide) ?_
        refine ih c254 _ acc _ _ r3 g3 m3 ac ?_ ?_ ?_ ?_
        · rw [zro_set (by omega), zu, show 23 + 4 * i + 3 = 26 + 4 * i by omega, ← em, zMi_s]
        · exact fun f hf => (congrFun (zC_n (by omega)) f).trans (fu f hf)
        · exact fun q hq => (congrFun (zC_n (by omega)) q).trans (pu q hq)
        · exact fun a h1 h2 h3 => (zC_n h1).trans (ou a h1 h2 h3)
  have hl2 : ∀ i, i ≤ F → ∀ (υ : zSt) (acc : Int32) (a5 a6 : Option Value) (r2 : zRw), zGd r2 F P → zMv (zU r2) = zYw (zro σ c) (zsum (zgz (zro σ c) z) P) → acc = zsum (zgz (zro σ c) z) P → zro υ c = zUi r2 i → (∀ f, f < F → υ 55 f = σ 55 f + zgFz (zro σ c) z f P) → (∀ p, p < P → υ 56 p = σ 56 p + zgz (zro σ c) z p) → (∀ a, a ≠ c → a ≠ 55 → a ≠ 56 → υ a = σ a) → zW X 199 [some (.ref 50), some (.ref c), some (.int z), some (.int (acc)), some (.int (nI i)), a5, a6] [] υ := by
    refine zfor F (fun i hi ih => ?_)
    intro υ acc a5 a6 r2 g2 m2 ac zu fu pu ou
    have oU : ∀ k, (k < 5 ∨ 23 ≤ k) → zUi r2 i k = r2 k := by
      intro k hk
      unfold zUi
      rw [if_neg (by omega)]
    have k0 : υ c 0 = nI F := by rw [← zro_k (σ := υ) (c := c) (k := 0) (by omega), zu, oU 0 (by omega)]; exact g2.r0
    have k1 : υ c 1 = nI P := by rw [← zro_k (σ := υ) (c := c) (k := 1) (by omega), zu, oU 1 (by omega)]; exact g2.r1
    have hten : ∀ υ' : zSt, (∀ k, 23 ≤ k → υ' c k = υ c k) → zten (zro υ' c) (nI i) 0 P = zten r2 (nI i) 0 P := by
      intro υ' h
      have e : ∀ k j, j + k ≤ 6 → zten (zro υ' c) (nI i) j k = zten r2 (nI i) j k := by
        intro k
        induction k with
        | zero => intro j _; rfl
        | succ k ih2 =>
          intro j hj
          unfold zten
          rw [ih2 (j + 1) (by omega), zat, zat, zro_k (by omega), h _ (by omega), ← zro_k (σ := υ) (c := c) (by omega), zu, oU _ (by omega)]
      exact e P 0 (by omega)
    rcases Nat.lt_or_ge i F with hiF | hiF
    · by_cases hfr : zfr r2 i = true
      · have hneg : ¬ 0 ≤ zten r2 (nI i) 0 P := Int32.not_le.mpr ((zten_fr g2 (by omega)).mpr hfr)
        refine zw_iload4 hB dX6_year_199 ?_
        refine zw_aload1 hB dX6_year_201 ?_
        refine zw_iconst (x := nI 0) hB dX6_year_202 (by decide) ?_
        refine zw_ialdV (x := nI F) hB dX6_year_203 hc (by omega) (by decide) (k0) ?_
        refine zw_icmp_geN (tgt := 246) hB dX6_year_204 (by decide) (by omega) (by omega) (fun c204 => by first | exact absurd c204 (by omega) | exact absurd (by omega) c204 | omega) (fun c204 => ?_)
        refine zw_iconst (x := nI 0) hB dX6_year_207 (by decide) ?_
        refine zw_istore5 hB dX6_year_208 rfl ?_
        refine zw_iload5 hB dX6_year_210 ?_
        refine zw_iconst (x := nI 3) hB dX6_year_212 (by decide) ?_
        refine zw_icmp_geN (tgt := 240) hB dX6_year_213 (by decide) (by omega) (by omega) (fun c213 => by first | exact absurd c213 (by omega) | exact absurd (by omega) c213 | omega) (fun c213 => ?_)
        refine zw_aload1 hB dX6_year_216 ?_
        refine zw_iload4 hB dX6_year_217 ?_
        refine zw_callS2P (M' := mX6_farmerAt) hB dX6_year_219 zl_X6_80 zg_X6_farmerAt (s_X6_farmerAt hc (by first | exact k1 | exact (zupd_o (by omega)).trans k1 | (simp only [zC_s]; rw [zupd_o (by omega)]; exact k1) | (simp only [zC_s]; rw [zupd_o (by omega), zupd_o (by omega)]; exact k1)) hP6 (nI i)) ?_
        refine zw_eqI (y := zten r2 (nI i) 0 P) (hten _ (fun k hk => by first | rfl | (simp only [zC_s]; rw [zupd_o (by omega), zupd_o (by omega)]; done) | (simp only [zC_s]; rw [zupd_o (by omega)]; done))) ?_
        refine zw_if_ge (tgt := 240) hB dX6_year_222 (by decide) (fun c222 => by first | exact absurd c222 hneg | exact absurd hneg c222 | omega) (fun c222 => ?_)
        refine zw_aload1 hB dX6_year_225 ?_
        refine zw_iload4 hB dX6_year_226 ?_
        refine zw_iload5 hB dX6_year_228 ?_
        refine zw_iconst (x := nI 1) hB dX6_year_230 (by decide) ?_
        refine zw_callS4U (M' := mX6_more) hB dX6_year_231 zl_X6_66 zg_X6_more (s_X6_more hc (by omega) (by omega) _) ?_
        refine zw_iinc5 hB dX6_year_234 (by first | exact zinc _ | rfl) rfl ?_
        refine zw_goto (tgt := 210) hB dX6_year_237 (by decide) ?_
        refine zw_iload5 hB dX6_year_210 ?_
        refine zw_iconst (x := nI 3) hB dX6_year_212 (by decide) ?_
        refine zw_icmp_geN (tgt := 240) hB dX6_year_213 (by decide) (by omega) (by omega) (fun c213 => by first | exact absurd c213 (by omega) | exact absurd (by omega) c213 | omega) (fun c213 => ?_)
        refine zw_aload1 hB dX6_year_216 ?_
        refine zw_iload4 hB dX6_year_217 ?_
        refine zw_callS2P (M' := mX6_farmerAt) hB dX6_year_219 zl_X6_80 zg_X6_farmerAt (s_X6_farmerAt hc (by first | exact k1 | exact (zupd_o (by omega)).trans k1 | (simp only [zC_s]; rw [zupd_o (by omega)]; exact k1) | (simp only [zC_s]; rw [zupd_o (by omega), zupd_o (by omega)]; exact k1)) hP6 (nI i)) ?_
        refine zw_eqI (y := zten r2 (nI i) 0 P) (hten _ (fun k hk => by first | rfl | (simp only [zC_s]; rw [zupd_o (by omega), zupd_o (by omega)]; done) | (simp only [zC_s]; rw [zupd_o (by omega)]; done))) ?_
        refine zw_if_ge (tgt := 240) hB dX6_year_222 (by decide) (fun c222 => by first | exact absurd c222 hneg | exact absurd hneg c222 | omega) (fun c222 => ?_)
        refine zw_aload1 hB dX6_year_225 ?_
        refine zw_iload4 hB dX6_year_226 ?_
        refine zw_iload5 hB dX6_year_228 ?_
        refine zw_iconst (x := nI 1) hB dX6_year_230 (by decide) ?_
        refine zw_callS4U (M' := mX6_more) hB dX6_year_231 zl_X6_66 zg_X6_more (s_X6_more hc (by omega) (by omega) _) ?_
        refine zw_iinc5 hB dX6_year_234 (by first | exact zinc _ | rfl) rfl ?_
        refine zw_goto (tgt := 210) hB dX6_year_237 (by decide) ?_
        refine zw_iload5 hB dX6_year_210 ?_
        refine zw_iconst (x := nI 3) hB dX6_year_212 (by decide) ?_
        refine zw_icmp_geN (tgt := 240) hB dX6_year_213 (by decide) (by omega) (by omega) (fun c213 => by first | exact absurd c213 (by omega) | exact absurd (by omega) c213 | omega) (fun c213 => ?_)
        refine zw_aload1 hB dX6_year_216 ?_
        refine zw_iload4 hB dX6_year_217 ?_
        refine zw_callS2P (M' := mX6_farmerAt) hB dX6_year_219 zl_X6_80 zg_X6_farmerAt (s_X6_farmerAt hc (by first | exact k1 | exact (zupd_o (by omega)).trans k1 | (simp only [zC_s]; rw [zupd_o (by omega)]; exact k1) | (simp only [zC_s]; rw [zupd_o (by omega), zupd_o (by omega)]; exact k1)) hP6 (nI i)) ?_
        refine zw_eqI (y := zten r2 (nI i) 0 P) (hten _ (fun k hk => by first | rfl | (simp only [zC_s]; rw [zupd_o (by omega), zupd_o (by omega)]; done) | (simp only [zC_s]; rw [zupd_o (by omega)]; done))) ?_
        refine zw_if_ge (tgt := 240) hB dX6_year_222 (by decide) (fun c222 => by first | exact absurd c222 hneg | exact absurd hneg c222 | omega) (fun c222 => ?_)
        refine zw_aload1 hB dX6_year_225 ?_
        refine zw_iload4 hB dX6_year_226 ?_
        refine zw_iload5 hB dX6_year_228 ?_
        refine zw_iconst (x := nI 1) hB dX6_year_230 (by decide) ?_
        refine zw_callS4U (M' := mX6_more) hB dX6_year_231 zl_X6_66 zg_X6_more (s_X6_more hc (by omega) (by omega) _) ?_
        refine zw_iinc5 hB dX6_year_234 (by first | exact zinc _ | rfl) rfl ?_
        refine zw_goto (tgt := 210) hB dX6_year_237 (by decide) ?_
        refine zw_iload5 hB dX6_year_210 ?_
        refine zw_iconst (x := nI 3) hB dX6_year_212 (by decide) ?_
        refine zw_icmp_geN (tgt := 240) hB dX6_year_213 (by decide) (by omega) (by omega) (fun c213 => ?_) (fun c213 => by first | exact absurd (by omega) c213 | exact absurd c213 (by omega) | omega)
        refine zw_iinc4 hB dX6_year_240 (by first | exact zinc _ | rfl) rfl ?_
        refine zw_goto (tgt := 199) hB dX6_year_243 (by decide) ?_
        refine ih hiF _ acc _ _ r2 g2 m2 ac ?_ ?_ ?_ ?_
        · rw [← zUi_s hfr, ← zu]
          refine zro_m3 (f := i) (by omega) ?_
          simp only [zC_C, zC_s, zupd_o (show 5 + 3 * i + 1 ≠ 5 + 3 * i + 0 by omega), zupd_o (show 5 + 3 * i + 2 ≠ 5 + 3 * i + 1 by omega), zupd_o (show 5 + 3 * i + 2 ≠ 5 + 3 * i + 0 by omega)]
        · exact fun f hf => by rw [zC_n (by omega), zC_n (by omega), zC_n (by omega)]; exact fu f hf
        · exact fun q hq => by rw [zC_n (by omega), zC_n (by omega), zC_n (by omega)]; exact pu q hq
        · exact fun a h1 h2 h3 => by rw [zC_n h1, zC_n h1, zC_n h1]; exact ou a h1 h2 h3
      · have hneg : 0 ≤ zten r2 (nI i) 0 P := Int32.not_lt.mp (fun q => hfr ((zten_fr g2 (by omega)).mp q))
        refine zw_iload4 hB dX6_year_199 ?_
        refine zw_aload1 hB dX6_year_201 ?_
        refine zw_iconst (x := nI 0) hB dX6_year_202 (by decide) ?_
        refine zw_ialdV (x := nI F) hB dX6_year_203 hc (by omega) (by decide) (k0) ?_
        refine zw_icmp_geN (tgt := 246) hB dX6_year_204 (by decide) (by omega) (by omega) (fun c204 => by first | exact absurd c204 (by omega) | exact absurd (by omega) c204 | omega) (fun c204 => ?_)
        refine zw_iconst (x := nI 0) hB dX6_year_207 (by decide) ?_
        refine zw_istore5 hB dX6_year_208 rfl ?_
        refine zw_iload5 hB dX6_year_210 ?_
        refine zw_iconst (x := nI 3) hB dX6_year_212 (by decide) ?_
        refine zw_icmp_geN (tgt := 240) hB dX6_year_213 (by decide) (by omega) (by omega) (fun c213 => by first | exact absurd c213 (by omega) | exact absurd (by omega) c213 | omega) (fun c213 => ?_)
        refine zw_aload1 hB dX6_year_216 ?_
        refine zw_iload4 hB dX6_year_217 ?_
        refine zw_callS2P (M' := mX6_farmerAt) hB dX6_year_219 zl_X6_80 zg_X6_farmerAt (s_X6_farmerAt hc k1 hP6 (nI i)) ?_
        refine zw_eqI (y := zten r2 (nI i) 0 P) (hten _ (fun k hk => rfl)) ?_
        refine zw_if_ge (tgt := 240) hB dX6_year_222 (by decide) (fun c222 => ?_) (fun c222 => by first | exact absurd hneg c222 | exact absurd c222 hneg | omega)
        refine zw_iinc4 hB dX6_year_240 (by first | exact zinc _ | rfl) rfl ?_
        refine zw_goto (tgt := 199) hB dX6_year_243 (by decide) ?_
        exact ih hiF υ acc _ _ r2 g2 m2 ac (by rw [zu, zUi_n hfr]) fu pu ou
    · have hiE : i = F := by omega
      refine zw_iload4 hB dX6_year_199 ?_
      refine zw_aload1 hB dX6_year_201 ?_
      refine zw_iconst (x := nI 0) hB dX6_year_202 (by decide) ?_
      refine zw_ialdV (x := nI F) hB dX6_year_203 hc (by omega) (by decide) (k0) ?_
      refine zw_icmp_geN (tgt := 246) hB dX6_year_204 (by decide) (by omega) (by omega) (fun c204 => ?_) (fun c204 => by first | exact absurd (by omega) c204 | exact absurd c204 (by omega) | omega)
      refine zw_iconst (x := nI 0) hB dX6_year_246 (by decide) ?_
      refine zw_istore4 hB dX6_year_247 rfl ?_
      refine hl3 0 (by omega) υ acc _ _ (zU r2) (zGd_U g2) m2 ac ?_ fu pu ou
      rw [zu, show i = F by omega, zUi_F g2.nF, zMi_0]
  have hl1 : ∀ i, i ≤ P → ∀ (υ : zSt) (acc : Int32) (a5 a6 : Option Value), acc = zsum (zgz (zro σ c) z) i → zro υ c = zTn (upd (zro σ c) 4 (zro σ c 4 + nI 1)) i → (∀ f, f < F → υ 55 f = σ 55 f + zgFz (zro σ c) z f i) → (∀ p, p < P → υ 56 p = if p < i then σ 56 p + zgz (zro σ c) z p else σ 56 p) → (∀ a, a ≠ c → a ≠ 55 → a ≠ 56 → υ a = σ a) → zW X 12 [some (.ref 50), some (.ref c), some (.int z), some (.int (acc)), some (.int (nI i)), a5, a6] [] υ := by
    refine zfor P (fun i hi ih => ?_)
    intro υ acc a5 a6 ac zu fu pu ou
    have gu : zGd (zro υ c) F P := by rw [zu]; exact zT4_gd hg hi
    have k1 : υ c 1 = nI P := (zro_k (by omega)).symm.trans gu.r1
    have k3 : υ c 3 = zro σ c 3 := (zro_k (σ := υ) (by omega)).symm.trans (by rw [zu]; exact zT4_k hg hi (by omega))
    have hat : zat (zro υ c) i = zat (zro σ c) i := by rw [zu]; exact zT4_at hg hi
    refine zw_iload4 hB dX6_year_12 ?_
    refine zw_aload1 hB dX6_year_14 ?_
    refine zw_iconst (x := nI 1) hB dX6_year_15 (by decide) ?_
    refine zw_ialdV (x := nI P) hB dX6_year_16 hc (by omega) (by decide) (k1) ?_
    refine zw_icmp_geN (tgt := 182) hB dX6_year_17 (by decide) (by omega) (by omega) (fun c17 => ?_) (fun c17 => ?_)
    · refine zw_aload1 hB dX6_year_182 ?_
      refine zw_iconst (x := nI 3) hB dX6_year_183 (by decide) ?_
      refine zw_aload1 hB dX6_year_184 ?_
      refine zw_iconst (x := nI 3) hB dX6_year_185 (by decide) ?_
      refine zw_ialdV (x := zro σ c 3) hB dX6_year_186 hc (by omega) (by decide) (k3) ?_
      refine zw_iload3 hB dX6_year_187 ?_
      refine zw_iadd hB dX6_year_188 ?_
      refine zw_sipush (x := nI 9999) hB dX6_year_189 (by decide) ?_
      refine zw_callS2P (M' := mX6_held) hB dX6_year_192 zl_X6_63 zg_X6_held (s_X6_held _ _) ?_
      refine zw_iastN hB dX6_year_195 hc (by omega) (by decide) ?_
      refine zw_iconst (x := nI 0) hB dX6_year_196 (by decide) ?_
      refine zw_istore4 hB dX6_year_197 rfl ?_
      refine hl2 0 (by omega) _ acc _ _ (upd (zTn (upd (zro σ c) 4 (zro σ c 4 + nI 1)) P) 3 (zhd (zro σ c 3 + acc) (nI 9999))) (zGd_3 (zT4_gd hg (Nat.le_refl _)) (zhd_b (by omega))) ?_ (by rw [ac, show i = P by omega]) ?_ ?_ ?_ ?_
      · unfold zYw; rw [hg.nP, ac, show i = P by omega]
      · rw [zro_set (by omega), zu, show i = P by omega, zUi_0]
      · exact fun f hf => by rw [zC_n (by omega), fu f hf, show i = P by omega]
      · exact fun q hq => by rw [zC_n (by omega), pu q hq, if_pos (by omega)]
      · exact fun a h1 h2 h3 => (zC_n h1).trans (ou a h1 h2 h3)
    · have htd : ztd (zro υ c) i = ztd (zro σ c) i := by rw [zu]; exact zT4_td hg c17
      have hwk : zwk (zro υ c) i = zwk (zro σ c) i := by rw [zu]; exact zT4_wk hg c17
      have hgw : zgw (zro υ c) i = zgw (zro σ c) i := by rw [zu]; exact zT4_gw hg c17
      have hsf : zsf (zro υ c) i = zsf (zro σ c) i := by rw [zu]; exact zT4_sf hg hi
      obtain ⟨t, ht, et⟩ := hg.td c17
      refine zw_aload1 hB dX6_year_20 ?_
      refine zw_iload4 hB dX6_year_21 ?_
      refine zw_iconst (x := nI 3) hB dX6_year_23 (by decide) ?_
      refine zw_callS2P (M' := mX6_of) hB dX6_year_24 zl_X6_56 zg_X6_of (s_X6_of) ?_
      refine zw_ialdV (x := zat (zro σ c) i) hB dX6_year_27 hc (by omega) (by decide) ((zro_at (by omega)).trans hat) ?_
      refine zw_istore5 hB dX6_year_28 rfl ?_
      refine zw_iload5 hB dX6_year_30 ?_
      refine zw_if_lt (tgt := 48) hB dX6_year_32 (by decide) (fun c32 => ?_) (fun c32 => ?_)
      · refine zw_aload1 hB dX6_year_48 ?_
        refine zw_iload4 hB dX6_year_49 ?_
        refine zw_iconst (x := nI 2) hB dX6_year_51 (by decide) ?_
        refine zw_callS2P (M' := mX6_of) hB dX6_year_52 zl_X6_56 zg_X6_of (s_X6_of) ?_
        refine zw_aload1 hB dX6_year_55 ?_
        refine zw_iload4 hB dX6_year_56 ?_
        refine zw_iconst (x := nI 2) hB dX6_year_58 (by decide) ?_
        refine zw_callS2P (M' := mX6_of) hB dX6_year_59 zl_X6_56 zg_X6_of (s_X6_of) ?_
        refine zw_ialdV (x := nI t) hB dX6_year_62 hc (by omega) (by decide) ((zro_td (by omega)).trans (htd.trans et)) ?_
        refine zw_iconst (x := nI 5) hB dX6_year_63 (by decide) ?_
        refine zw_isub hB dX6_year_64 ?_
        refine zw_bipush (x := nI 20) hB dX6_year_65 (by decide) ?_
        refine zw_callS2P (M' := mX6_held) hB dX6_year_67 zl_X6_63 zg_X6_held (s_X6_held _ _) ?_
        refine zw_iastN hB dX6_year_70 hc (by omega) (by decide) ?_
        refine zw_goto (tgt := 176) hB dX6_year_71 (by decide) ?_
        refine zw_iinc4 hB dX6_year_176 (by first | exact zinc _ | rfl) rfl ?_
        refine zw_goto (tgt := 12) hB dX6_year_179 (by decide) ?_
        have hnw : ¬ zwk (zro σ c) i = true := fun q => (zwk_iff.mp q).1 c32
        refine ih c17 _ acc _ _ ?_ ?_ ?_ ?_ ?_
        · rw [zsum, ac, show zgz (zro σ c) z i = nI 0 by unfold zgz zgw; rw [if_neg hnw]; split <;> rfl, zadd0]
        · rw [zro_set (by omega), zu, show 23 + 4 * i + 2 = 25 + 4 * i by omega]
          show _ = zT (zTn (upd (zro σ c) 4 (zro σ c 4 + nI 1)) i) i
          funext k
          rw [zT_kn (by rw [zT4_wk hg c17]; exact hnw)]
          by_cases y : k = 25 + 4 * i
          · subst y
            rw [zupd_s, if_pos rfl, show zTn (upd (zro σ c) 4 (zro σ c 4 + nI 1)) i (25 + 4 * i) = nI t by exact (zT4_td hg c17).trans et]
          · rw [zupd_o y, if_neg y]
        · intro f hf
          rw [zC_n (by omega), fu f hf, zgFz_n (fun q => hnw q.1)]
        · intro q hq
          rw [zC_n (by omega), pu q hq]
          by_cases y : q = i
          · subst y
            rw [if_neg (by omega), if_pos (by omega), show zgz (zro σ c) z q = nI 0 by unfold zgz zgw; rw [if_neg hnw]; split <;> rfl, zadd0]
          · by_cases w : q < i
            · rw [if_pos w, if_pos (by omega)]
            · rw [if_neg w, if_neg (by omega)]
        · exact fun a h1 h2 h3 => (zC_n h1).trans (ou a h1 h2 h3)
      · refine zw_aload1 hB dX6_year_35 ?_
        refine zw_iload4 hB dX6_year_36 ?_
        refine zw_iconst (x := nI 2) hB dX6_year_38 (by decide) ?_
        refine zw_callS2P (M' := mX6_of) hB dX6_year_39 zl_X6_56 zg_X6_of (s_X6_of) ?_
        refine zw_ialdV (x := ztd (zro σ c) i) hB dX6_year_42 hc (by omega) (by decide) ((zro_td (by omega)).trans htd) ?_
        refine zw_bipush (x := nI 10) hB dX6_year_43 (by decide) ?_
        refine zw_icmp_lt (tgt := 74) hB dX6_year_45 (by decide) (fun c45 => ?_) (fun c45 => ?_)
        · have hww : zwk (zro σ c) i = true := zwk_iff.mpr ⟨c32, fun q => absurd q (Int32.not_le.mpr c45)⟩
          obtain ⟨hsF, ea⟩ := hg.sf6 c17 hww
          have eau : zsf (zro υ c) i = zsf (zro σ c) i := hsf
          rw [ea]
          have hk1 : zro υ c (23 + 4 * i) = nI (zkd (zro σ c) i) := by rw [← show zkd (zro υ c) i = zkd (zro σ c) i by rw [zu]; exact zT4_kd hg hi]; exact (gu.kd c17).1
          have hk6 : zkd (zro σ c) i < 6 := (hg.kd c17).2
          have hf1 : zro υ c (24 + 4 * i) = nI (zfg (zro σ c) i) := by rw [← show zfg (zro υ c) i = zfg (zro σ c) i by rw [zu]; exact zT4_fg hg hi]; exact (gu.fg c17).1
          have hf9 : zfg (zro σ c) i < 10 := (hg.fg c17).2
          have hj : zW X 90 [some (.ref 50), some (.ref c), some (.int z), some (.int acc), some (.int (nI i)), some (.int (nI (zsf (zro σ c) i))), a6] [.int (zgz (zro σ c) z i)] υ := by
            refine zw_istore6 hB dX6_year_90 rfl ?_
            refine zw_aload0 hB dX6_year_92 ?_
            refine zw_getfR hB dX6_year_93 zf_X6_22 rfl rfl ?_
            refine zw_iload5 hB dX6_year_96 ?_
            refine zw_dup2 hB dX6_year_98 rfl rfl ?_
            refine zw_ialdN hB dX6_year_99 rfl (by omega) (by decide) ?_
            refine zw_iload6 hB dX6_year_100 ?_
            refine zw_iadd hB dX6_year_102 ?_
            refine zw_iastN hB dX6_year_103 rfl (by omega) (by decide) ?_
            refine zw_aload0 hB dX6_year_104 ?_
            refine zw_getfR hB dX6_year_105 zf_X6_25 rfl rfl ?_
            refine zw_iload4 hB dX6_year_108 ?_
            refine zw_dup2 hB dX6_year_110 rfl rfl ?_
            refine zw_ialdN hB dX6_year_111 rfl (by omega) (by decide) ?_
            refine zw_iload6 hB dX6_year_112 ?_
            refine zw_iadd hB dX6_year_114 ?_
            refine zw_iastN hB dX6_year_115 rfl (by omega) (by decide) ?_
            refine zw_iload3 hB dX6_year_116 ?_
            refine zw_iload6 hB dX6_year_117 ?_
            refine zw_iadd hB dX6_year_119 ?_
            refine zw_istore3 hB dX6_year_120 rfl ?_
            refine zw_gen (fun σ1 e1 => ?_)
            have y1 : σ1 c = υ c := by rw [e1, zC_n hc56, zC_n hc55]
            have y55 : σ1 55 = upd (υ 55) (zsf (zro σ c) i) (υ 55 (zsf (zro σ c) i) + zgz (zro σ c) z i) := by rw [e1, zC_n (by omega), zC_s]
            have y56 : σ1 56 = upd (υ 56) i (υ 56 i + zgz (zro σ c) z i) := by rw [e1, zC_s, zC_n (by omega)]
            have yo : ∀ a, a ≠ c → a ≠ 55 → a ≠ 56 → σ1 a = σ a := fun a h1 h2 h3 => by rw [e1, zC_n h3, zC_n h2]; exact ou a h1 h2 h3
            clear e1
            have yr : zro σ1 c = zro υ c := by funext k; unfold zro; rw [y1]
            refine zw_aload1 hB dX6_year_121 ?_
            refine zw_aload1 hB dX6_year_122 ?_
            refine zw_iload4 hB dX6_year_123 ?_
            refine zw_iconst (x := nI 0) hB dX6_year_125 (by decide) ?_
            refine zw_callS2P (M' := mX6_of) hB dX6_year_126 zl_X6_56 zg_X6_of (s_X6_of) ?_
            refine zw_ialdV (x := nI (zkd (zro σ c) i)) hB dX6_year_129 hc (by omega) (by decide) ((congrFun y1 _).trans ((zro_kd (by omega)).trans hk1)) ?_
            refine zw_aload1 hB dX6_year_130 ?_
            refine zw_iload4 hB dX6_year_131 ?_
            refine zw_iconst (x := nI 1) hB dX6_year_133 (by decide) ?_
            refine zw_callS2P (M' := mX6_of) hB dX6_year_134 zl_X6_56 zg_X6_of (s_X6_of) ?_
            refine zw_ialdV (x := nI (zfg (zro σ c) i)) hB dX6_year_137 hc (by omega) (by decide) ((congrFun y1 _).trans ((zro_fg (by omega)).trans hf1)) ?_
            refine zw_iload5 hB dX6_year_138 ?_
            refine zw_callS4 (M' := mX6_changes) hB dX6_year_140 zl_X6_74 zg_X6_changes (s_X6_changes hc hk6 hf9 (by omega) (fun j hj => by rw [y1, ← zro_k (σ := υ) (c := c) (by omega)]; exact gu.ht hj)) (fun v140 σ140 hq140 => ?_)
            obtain ⟨rfl, x1, x2⟩ := hq140
            have xk : ∀ k, k < 47 → σ140 c k = zTl (zro υ c) (zkd (zro σ c) i) (zfg (zro σ c) i) (zsf (zro σ c) i) k := by
              intro k hk
              rw [← zro_k (σ := σ140) (c := c) hk, x1, yr]
            have tlo : ∀ k, 23 ≤ k → zTl (zro υ c) (zkd (zro σ c) i) (zfg (zro σ c) i) (zsf (zro σ c) i) k = zro υ c k := by
              intro k hk
              unfold zTl
              rw [if_neg (by omega)]
            refine zw_aload1 hB dX6_year_143 ?_
            refine zw_iload4 hB dX6_year_144 ?_
            refine zw_iconst (x := nI 2) hB dX6_year_146 (by decide) ?_
            refine zw_callS2P (M' := mX6_of) hB dX6_year_147 zl_X6_56 zg_X6_of (s_X6_of) ?_
            refine zw_aload1 hB dX6_year_150 ?_
            refine zw_iload4 hB dX6_year_151 ?_
            refine zw_iconst (x := nI 2) hB dX6_year_153 (by decide) ?_
            refine zw_callS2P (M' := mX6_of) hB dX6_year_154 zl_X6_56 zg_X6_of (s_X6_of) ?_
            refine zw_ialdV (x := nI t) hB dX6_year_157 hc (by omega) (by decide) ((xk _ (by omega)).trans ((tlo _ (by omega)).trans ((zro_k (by omega)).trans ((zro_td (by omega)).trans (htd.trans et))))) ?_
            refine zw_aload1 hB dX6_year_158 ?_
            refine zw_iload4 hB dX6_year_159 ?_
            refine zw_iconst (x := nI 0) hB dX6_year_161 (by decide) ?_
            refine zw_callS2P (M' := mX6_of) hB dX6_year_162 zl_X6_56 zg_X6_of (s_X6_of) ?_
            refine zw_ialdV (x := nI (zkd (zro σ c) i)) hB dX6_year_165 hc (by omega) (by decide) ((xk _ (by omega)).trans ((tlo _ (by omega)).trans ((zro_k (by omega)).trans ((zro_kd (by omega)).trans hk1)))) ?_
            refine zw_callS1P (M' := mX6_tiresBy) hB dX6_year_166 zl_X6_77 zg_X6_tiresBy (s_X6_tiresBy hk6) ?_
            refine zw_iadd hB dX6_year_169 ?_
            refine zw_bipush (x := nI 20) hB dX6_year_170 (by decide) ?_
            refine zw_callS2P (M' := mX6_held) hB dX6_year_172 zl_X6_63 zg_X6_held (s_X6_held _ _) ?_
            refine zw_iastN hB dX6_year_175 hc (by omega) (by decide) ?_
            refine zw_iinc4 hB dX6_year_176 (by first | exact zinc _ | rfl) rfl ?_
            refine zw_goto (tgt := 12) hB dX6_year_179 (by decide) ?_
            refine ih c17 _ _ _ _ (by rw [zsum, ac]) ?_ ?_ ?_ ?_
            · rw [zro_set (by omega), x1, yr, show 23 + 4 * i + 2 = 25 + 4 * i by omega]
              show _ = zT (zTn (upd (zro σ c) 4 (zro σ c 4 + nI 1)) i) i
              rw [← zu]
              funext k
              rw [zT_kw (by rw [hwk]; exact hww), hsf, show zkd (zro υ c) i = zkd (zro σ c) i by rw [zu]; exact zT4_kd hg hi, show zfg (zro υ c) i = zfg (zro σ c) i by rw [zu]; exact zT4_fg hg hi]
              by_cases y : k = 25 + 4 * i
              · subst y
                rw [zupd_s, if_pos rfl, show zro υ c (25 + 4 * i) = nI t by exact htd.trans et]
              · rw [zupd_o y, if_neg y]
                rfl
            · intro f hf
              rw [zC_n (by omega), x2 55 (by omega), y55]
              by_cases y : f = zsf (zro σ c) i
              · subst y
                rw [zupd_s, fu _ hf, zgFz_e (zgF_0 hg c17 hww i (Nat.le_refl _)), zadd0, zgFz_t hww]
              · rw [zupd_o y, fu f hf, zgFz_n (fun q => y q.2.symm)]
            · intro q hq
              rw [zC_n (by omega), x2 56 (by omega), y56]
              by_cases y : q = i
              · subst y
                rw [zupd_s, pu q hq, if_neg (by omega), if_pos (by omega)]
              · rw [zupd_o y, pu q hq]
                by_cases w : q < i
                · rw [if_pos w, if_pos (by omega)]
                · rw [if_neg w, if_neg (by omega)]
            · exact fun a h1 h2 h3 => (zC_n h1).trans ((x2 a h1).trans (yo a h1 h2 h3))
          refine zw_iload2 hB dX6_year_74 ?_
          refine zw_if_eq (tgt := 82) hB dX6_year_75 (by decide) (fun c75 => ?_) (fun c75 => ?_)
          · refine zw_aload1 hB dX6_year_82 ?_
            refine zw_iload4 hB dX6_year_83 ?_
            refine zw_iload5 hB dX6_year_85 ?_
            refine zw_callS3P (M' := mX6_growsBy) hB dX6_year_87 zl_X6_70 zg_X6_growsBy (s_X6_growsBy hc (by omega) ⟨by rw [hk1, show zkd (zro υ c) i = zkd (zro σ c) i by rw [zu]; exact zT4_kd hg hi], by rw [show zkd (zro υ c) i = zkd (zro σ c) i by rw [zu]; exact zT4_kd hg hi]; exact hk6⟩ _ (Or.inr ⟨_, by omega, rfl⟩)) ?_
            refine zw_eqI (y := zgz (zro σ c) z i) ?_ hj
            unfold zgz
            rw [if_pos c75, ← hgw]
            unfold zgb zgw
            rw [if_neg (fun q => q.elim (nI_pos (by omega)) (fun w => (zwk_iff.mp (hwk.trans hww)).2 w)), if_pos (hwk.trans hww), nI_clamp (by omega), hsf]
          · refine zw_iconst (x := nI 0) hB dX6_year_78 (by decide) ?_
            refine zw_goto (tgt := 90) hB dX6_year_79 (by decide) ?_
            refine zw_eqI (y := zgz (zro σ c) z i) ?_ hj
            unfold zgz
            rw [if_neg c75]
        · refine zw_aload1 hB dX6_year_48 ?_
          refine zw_iload4 hB dX6_year_49 ?_
          refine zw_iconst (x := nI 2) hB dX6_year_51 (by decide) ?_
          refine zw_callS2P (M' := mX6_of) hB dX6_year_52 zl_X6_56 zg_X6_of (s_X6_of) ?_
          refine zw_aload1 hB dX6_year_55 ?_
          refine zw_iload4 hB dX6_year_56 ?_
          refine zw_iconst (x := nI 2) hB dX6_year_58 (by decide) ?_
          refine zw_callS2P (M' := mX6_of) hB dX6_year_59 zl_X6_56 zg_X6_of (s_X6_of) ?_
          refine zw_ialdV (x := nI t) hB dX6_year_62 hc (by omega) (by decide) ((zro_td (by omega)).trans (htd.trans et)) ?_
          refine zw_iconst (x := nI 5) hB dX6_year_63 (by decide) ?_
          refine zw_isub hB dX6_year_64 ?_
          refine zw_bipush (x := nI 20) hB dX6_year_65 (by decide) ?_
          refine zw_callS2P (M' := mX6_held) hB dX6_year_67 zl_X6_63 zg_X6_held (s_X6_held _ _) ?_
          refine zw_iastN hB dX6_year_70 hc (by omega) (by decide) ?_
          refine zw_goto (tgt := 176) hB dX6_year_71 (by decide) ?_
          refine zw_iinc4 hB dX6_year_176 (by first | exact zinc _ | rfl) rfl ?_
          refine zw_goto (tgt := 12) hB dX6_year_179 (by decide) ?_
          have hnw : ¬ zwk (zro σ c) i = true := fun q => (zwk_iff.mp q).2 (Int32.not_lt.mp c45)
          refine ih c17 _ acc _ _ ?_ ?_ ?_ ?_ ?_
          · rw [zsum, ac, show zgz (zro σ c) z i = nI 0 by unfold zgz zgw; rw [if_neg hnw]; split <;> rfl, zadd0]
          · rw [zro_set (by omega), zu, show 23 + 4 * i + 2 = 25 + 4 * i by omega]
            show _ = zT (zTn (upd (zro σ c) 4 (zro σ c 4 + nI 1)) i) i
            funext k
            rw [zT_kn (by rw [zT4_wk hg c17]; exact hnw)]
            by_cases y : k = 25 + 4 * i
            · subst y
              rw [zupd_s, if_pos rfl, show zTn (upd (zro σ c) 4 (zro σ c 4 + nI 1)) i (25 + 4 * i) = nI t by exact (zT4_td hg c17).trans et]
            · rw [zupd_o y, if_neg y]
          · intro f hf
            rw [zC_n (by omega), fu f hf, zgFz_n (fun q => hnw q.1)]
          · intro q hq
            rw [zC_n (by omega), pu q hq]
            by_cases y : q = i
            · subst y
              rw [if_neg (by omega), if_pos (by omega), show zgz (zro σ c) z q = nI 0 by unfold zgz zgw; rw [if_neg hnw]; split <;> rfl, zadd0]
            · by_cases w : q < i
              · rw [if_pos w, if_pos (by omega)]
              · rw [if_neg w, if_neg (by omega)]
          · exact fun a h1 h2 h3 => (zC_n h1).trans (ou a h1 h2 h3)
  refine zw_iconst (x := nI 0) hB dX6_year_0 (by decide) ?_
  refine zw_istore3 hB dX6_year_1 rfl ?_
  refine zw_aload1 hB dX6_year_2 ?_
  refine zw_iconst (x := nI 4) hB dX6_year_3 (by decide) ?_
  refine zw_dup2 hB dX6_year_4 rfl rfl ?_
  refine zw_ialdN hB dX6_year_5 hc (by omega) (by decide) ?_
  refine zw_iconst (x := nI 1) hB dX6_year_6 (by decide) ?_
  refine zw_iadd hB dX6_year_7 ?_
  refine zw_iastN hB dX6_year_8 hc (by omega) (by decide) ?_
  refine zw_iconst (x := nI 0) hB dX6_year_9 (by decide) ?_
  refine zw_istore4 hB dX6_year_10 rfl ?_
  refine hl1 0 (by omega) _ _ _ _ rfl ?_ ?_ ?_ ?_
  · rw [zro_set (by omega)]
    rfl
  · exact fun f hf => by rw [zC_n (by omega), zgFz_e rfl, zadd0]
  · exact fun q hq => by rw [zC_n (by omega), if_neg (by omega)]
  · exact fun a h1 h2 h3 => zC_n h1
