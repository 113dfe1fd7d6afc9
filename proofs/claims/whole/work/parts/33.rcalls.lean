/-! THE REFERENCE'S CALLS: ROW, image, barnThen -/
theorem zRW.rowL {S : zS} {σ τ : zSt} {l : List Int32} (h : zRW S σ) (h0 : ∀ k, k ≠ 11 → τ 50 k = σ 50 k) (k : ∀ c, c ≠ 50 → c ≠ 58 → τ c = σ c) (h7 : τ 50 11 = nI l.length) (ha : zArr (τ 58) l) : zRW (S.1, S.2.1, S.2.2.1, l, S.2.2.2.2) τ := by
  refine ⟨(zro_congr (k 51 (by omega) (by omega))).trans h.1, ?_, ?_, ⟨h7, ha⟩, fun j hj => by rw [k 59 (by omega) (by omega)]; exact h.2.2.2.2 j hj⟩
  · rw [h0 6 (by omega), show zro τ 53 = zro σ 53 from zro_congr (k 53 (by omega) (by omega))]; exact h.2.1
  · rw [h0 10 (by omega), k 57 (by omega) (by omega)]; exact h.2.2.1
theorem zRW.img {S : zS} {σ τ : zSt} (h : zRW S σ) (h0 : ∀ k, k ≠ 6 → τ 50 k = σ 50 k) (k : ∀ c, c ≠ 50 → c ≠ 53 → τ c = σ c) (h2 : τ 50 6 = 1) (h9 : zro τ 53 = S.1) : zRW (S.1, some S.1, S.2.2) τ := by
  refine ⟨(zro_congr (k 51 (by omega) (by omega))).trans h.1, Or.inr ⟨S.1, rfl, h2, h9⟩, ?_, ?_, fun j hj => by rw [k 59 (by omega) (by omega)]; exact h.2.2.2.2 j hj⟩
  · rw [h0 10 (by omega), k 57 (by omega) (by omega)]; exact h.2.2.1
  · rw [h0 11 (by omega), k 58 (by omega) (by omega)]; exact h.2.2.2.1

theorem s_X6_clear {n : Nat} {σ : zSt} {S : zS} (hS : zOk S) (h : zRW S σ)  : zSem n mX6_clear [.ref 50] σ (zRQ (q_clear S ) σ) := by
  obtain ⟨⟨⟨F, P, hg0⟩, y0, hy0, ey0⟩, hkp, hlt, hrw⟩ := id hS
  have hnF := hg0.nF
  have hnP := hg0.nP
  have hr0 := h.1
  have hg : zGd (zro σ 51) F P := by rw [hr0]; exact hg0
  have hF6 := hg.F6
  have hP6 := hg.P6
  have hF : σ 51 0 = nI F := (zro_k (by omega)).symm.trans hg.r0
  have hP : σ 51 1 = nI P := (zro_k (by omega)).symm.trans hg.r1
  unfold q_clear
  try rw [hnF]
  try rw [hnP]
  refine zSem.of (by decide +kernel) (Nat.le_of_ble_eq_true rfl) (fun X hB hR => ?_)
  show zW X 0 [some (.ref 50), none] [] σ
  refine zw_aload0 hB dX6_clear_0 ?_
  refine zw_getfV (x := nI S.2.2.2.1.length) hB dX6_clear_1 zf_X6_185 rfl rfl (h.2.2.2.1.1) ?_
  refine zw_istore1 hB dX6_clear_4 rfl ?_
  refine zw_aload0 hB dX6_clear_5 ?_
  refine zw_iconst (x := nI 0) hB dX6_clear_6 (by decide) ?_
  refine zw_putfI hB dX6_clear_7 zfw_X6_185 rfl rfl ?_
  refine zw_iload1 hB dX6_clear_10 ?_
  refine zw_iret hB hR dX6_clear_11 rfl ?_
  refine ⟨rfl, h.rowL (fun k hk => ?_) (fun c h0 _ => zC_n h0) ?_ zArr.nil, fun c hc => zC_n (by omega)⟩
  · rw [zC_s]; exact zupd_o hk
  · rw [zC_s]; exact zupd_s
theorem s_X6_image {n : Nat} {σ : zSt} {S : zS} (hS : zOk S) (h : zRW S σ)  : zSem (n + 2) mX6_image [.ref 50] σ (zRQ (q_image S ) σ) := by
  obtain ⟨⟨⟨F, P, hg0⟩, y0, hy0, ey0⟩, hkp, hlt, hrw⟩ := id hS
  have hnF := hg0.nF
  have hnP := hg0.nP
  have hr0 := h.1
  have hg : zGd (zro σ 51) F P := by rw [hr0]; exact hg0
  have hF6 := hg.F6
  have hP6 := hg.P6
  have hF : σ 51 0 = nI F := (zro_k (by omega)).symm.trans hg.r0
  have hP : σ 51 1 = nI P := (zro_k (by omega)).symm.trans hg.r1
  unfold q_image
  try rw [hnF]
  try rw [hnP]
  refine zSem.of (by decide +kernel) (Nat.le_of_ble_eq_true rfl) (fun X hB hR => ?_)
  show zW X 0 [some (.ref 50)] [] σ
  refine zw_aload0 hB dX6_image_0 ?_
  refine zw_getfR hB dX6_image_1 zf_X6_9 rfl rfl ?_
  refine zw_aload0 hB dX6_image_4 ?_
  refine zw_getfR hB dX6_image_5 zf_X6_16 rfl rfl ?_
  refine zw_callS2 (M' := mX6_copies) hB dX6_image_8 zl_X6_130 zg_X6_copies (s_X6_copies (c := 51) (d := 53) rfl rfl (by decide)) (fun v8 σ8 hq8 => ?_)
  obtain ⟨rfl, x1, x2⟩ := hq8
  refine zw_aload0 hB dX6_image_11 ?_
  refine zw_iconst (x := nI 1) hB dX6_image_12 (by decide) ?_
  refine zw_putfG hB dX6_image_13 zfw_X6_197 rfl rfl rfl rfl ?_
  refine zw_aload0 hB dX6_image_16 ?_
  refine zw_getfR hB dX6_image_17 zf_X6_9 rfl rfl ?_
  refine zw_iconst (x := nI 4) hB dX6_image_20 (by decide) ?_
  refine zw_ialdN hB dX6_image_21 rfl (by omega) (by decide) ?_
  refine zw_iret hB hR dX6_image_22 rfl ?_
  refine ⟨?_, h.img (fun k hk => ?_) (fun c h0 hc => ?_) ?_ ?_, fun c hc => ?_⟩
  · rw [← hr0, zC_n (by omega), x2 51 (by omega)]; rfl
  · rw [zC_s, zupd_o hk, x2 50 (by omega)]
  · rw [zC_n h0]; exact x2 c hc
  · rw [zC_s]; exact zupd_s
  · rw [← hr0, ← x1]; exact zro_congr (zC_n (by omega))
  · rw [zC_n (by omega)]; exact x2 c (by omega)
theorem s_X6_on {n : Nat} {σ : zSt} {S : zS} (hS : zOk S) (h : zRW S σ)  : zSem (n + 2) mX6_on [.ref 50] σ (zRQ (q_on S ) σ) := by
  obtain ⟨⟨⟨F, P, hg0⟩, y0, hy0, ey0⟩, hkp, hlt, hrw⟩ := id hS
  have hnF := hg0.nF
  have hnP := hg0.nP
  have hr0 := h.1
  have hg : zGd (zro σ 51) F P := by rw [hr0]; exact hg0
  have hF6 := hg.F6
  have hP6 := hg.P6
  have hF : σ 51 0 = nI F := (zro_k (by omega)).symm.trans hg.r0
  have hP : σ 51 1 = nI P := (zro_k (by omega)).symm.trans hg.r1
  unfold q_on
  try rw [hnF]
  try rw [hnP]
  refine zSem.of (by decide +kernel) (Nat.le_of_ble_eq_true rfl) (fun X hB hR => ?_)
  show zW X 0 [some (.ref 50)] [] σ
  refine zw_aload0 hB dX6_on_0 ?_
  refine zw_getfI hB dX6_on_1 zf_X6_197 rfl rfl ?_
  refine zw_if_ne (tgt := 14) hB dX6_on_4 (by decide) (fun c4 => ?_) (fun c4 => ?_)
  · obtain ⟨q, eq, -, e9⟩ := h.2.1.resolve_left (fun z => c4 z.2)
    refine zw_aload0 hB dX6_on_14 ?_
    refine zw_getfR hB dX6_on_15 zf_X6_16 rfl rfl ?_
    refine zw_aload0 hB dX6_on_18 ?_
    refine zw_getfR hB dX6_on_19 zf_X6_9 rfl rfl ?_
    refine zw_callS2 (M' := mX6_copies) hB dX6_on_22 zl_X6_130 zg_X6_copies (s_X6_copies (c := 53) (d := 51) rfl rfl (by decide)) (fun v22 σ22 hq22 => ?_)
    obtain ⟨rfl, x1, x2⟩ := hq22
    refine zw_aload0 hB dX6_on_25 ?_
    refine zw_getfR hB dX6_on_26 zf_X6_9 rfl rfl ?_
    refine zw_iconst (x := nI 4) hB dX6_on_29 (by decide) ?_
    refine zw_ialdN hB dX6_on_30 rfl (by omega) (by decide) ?_
    refine zw_iret hB hR dX6_on_31 rfl ?_
    rw [eq]
    refine ⟨?_, h.land (x1.trans e9) (by rw [x2 50 (by omega)]; exact ⟨rfl, rfl, rfl⟩) (fun c hc => x2 c (by omega)), fun c hc => x2 c (by omega)⟩
    rw [← e9, ← x1]; rfl
  · refine zw_aload0 hB dX6_on_7 ?_
    refine zw_bipush (x := -3) hB dX6_on_8 (by decide) ?_
    refine zw_callV1 (M' := mX6_no) hB dX6_on_10 zl_X6_48 zg_X6_no (zRc.of rfl rfl rfl) (s_X6_no (k := 3) _ (by decide) (by omega)) (fun v10 σ10 hq10 => ?_)
    obtain ⟨rfl, rfl⟩ := hq10
    refine zw_iret hB hR dX6_on_13 rfl ?_
    have e : S.2.1 = none := by
      rcases h.2.1 with z | ⟨q, -, z, -⟩
      · exact z.1
      · exact absurd (z.symm.trans c4) (by decide)
    rw [e]
    exact zRQ.no h (by decide) (by omega) (by decide)
theorem s_X6_barnThen {n : Nat} {σ : zSt} {S : zS} (hS : zOk S) (h : zRW S σ) (m : Int32) : zSem (n + 6) mX6_barnThen [.ref 50, .int m] σ (zRQ (q_barnThen S m) σ) := by
  obtain ⟨⟨⟨F, P, hg0⟩, y0, hy0, ey0⟩, hkp, hlt, hrw⟩ := id hS
  have hnF := hg0.nF
  have hnP := hg0.nP
  have hr0 := h.1
  have hg : zGd (zro σ 51) F P := by rw [hr0]; exact hg0
  have hF6 := hg.F6
  have hP6 := hg.P6
  have hF : σ 51 0 = nI F := (zro_k (by omega)).symm.trans hg.r0
  have hP : σ 51 1 = nI P := (zro_k (by omega)).symm.trans hg.r1
  unfold q_barnThen
  try rw [hnF]
  try rw [hnP]
  refine zSem.of (by decide +kernel) (Nat.le_of_ble_eq_true rfl) (fun X hB hR => ?_)
  show zW X 0 [some (.ref 50), some (.int m), none, none] [] σ
  refine zw_iload1 hB dX6_barnThen_0 ?_
  refine zw_iconst (x := nI 0) hB dX6_barnThen_1 (by decide) ?_
  refine zw_bipush (x := nI 60) hB dX6_barnThen_2 (by decide) ?_
  refine zw_callS3P (M' := mX6_wrongBy) hB dX6_barnThen_4 zl_X6_137 zg_X6_wrongBy (s_X6_wrongBy _ _ _) ?_
  refine zw_istore2 hB dX6_barnThen_7 rfl ?_
  refine zw_iload2 hB dX6_barnThen_8 ?_
  refine zw_if_eq (tgt := 18) hB dX6_barnThen_9 (by decide) (fun c9 => ?_) (fun c9 => ?_)
  · obtain ⟨m, -, hm, rfl⟩ := zir_0 (by omega) (by omega) c9
    refine zw_aload0 hB dX6_barnThen_18 ?_
    refine zw_iload1 hB dX6_barnThen_19 ?_
    refine zw_callV1 (M' := mX6_takes) hB dX6_barnThen_20 zl_X6_141 zg_X6_takes (zRc.of rfl rfl rfl) (s_X6_takes hg (by omega)) (fun v20 σ20 hq20 => ?_)
    obtain ⟨rfl, x1, x2, x3, x4⟩ := hq20
    refine zw_istore3 hB dX6_barnThen_23 rfl ?_
    refine zw_aload0 hB dX6_barnThen_24 ?_
    refine zw_getfR hB dX6_barnThen_25 zf_X6_13 rfl rfl ?_
    refine zw_iconst (x := nI 3) hB dX6_barnThen_28 (by decide) ?_
    refine zw_ialdN hB dX6_barnThen_29 rfl (by omega) (by decide) ?_
    refine zw_iret hB hR dX6_barnThen_30 rfl ?_
    refine zRQ.ok h c9 ?_ (by rw [x4 50 (by omega) (by omega) (by omega)]; exact ⟨rfl, rfl, rfl⟩) (fun c hc => x4 c (by omega) (by omega) (by omega))
    rw [nI_clamp (by omega), ← hr0, ← x1, zro_k (by omega)]
  · refine zw_aload0 hB dX6_barnThen_12 ?_
    refine zw_iload2 hB dX6_barnThen_13 ?_
    obtain ⟨k, hk, hc⟩ := (zcd_ir).resolve_left c9
    refine zw_callV1 (M' := mX6_no) hB dX6_barnThen_14 zl_X6_48 zg_X6_no (zRc.of rfl rfl rfl) (s_X6_no _ hc hk) (fun v14 σ14 hq14 => ?_)
    obtain ⟨rfl, rfl⟩ := hq14
    refine zw_iret hB hR dX6_barnThen_17 rfl ?_
    exact zRQ.no h c9 hk hc
