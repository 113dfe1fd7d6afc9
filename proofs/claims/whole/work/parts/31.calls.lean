/-! CLASS: ROW and image -/
theorem zArr.add {f : Nat → Int32} {l : List Int32} {v : Int32} (h : zArr f l) : zArr (upd f l.length v) (l ++ [v]) := by
  intro k hk
  have hk : k < l.length + 1 := by simpa using hk
  by_cases e : k = l.length
  · subst e
    rw [zupd_s, List.getD_eq_getElem?_getD, List.getElem?_append_right (Nat.le_refl _), Nat.sub_self]
    rfl
  · rw [zupd_o e, h k (by omega), List.getD_eq_getElem?_getD, List.getD_eq_getElem?_getD, List.getElem?_append_left (by omega)]
theorem zArr.nil {f : Nat → Int32} : zArr f [] := fun k hk => absurd hk (Nat.not_lt_zero k)
theorem zCW.rowL {S : zS} {σ τ : zSt} {l : List Int32} (h : zCW S σ) (h0 : ∀ k, k ≠ 7 → τ 0 k = σ 0 k) (k : ∀ c, c ≠ 0 → c ≠ 48 → τ c = σ c) (h7 : τ 0 7 = nI l.length) (ha : zArr (τ 48) l) : zCW (S.1, S.2.1, S.2.2.1, l, S.2.2.2.2) τ := by
  refine ⟨(zrow_congr (fun c _ _ => k c (by omega) (by omega))).trans h.1, ?_, ?_, ⟨h7, ha⟩, fun j hj => by rw [k 49 (by omega) (by omega)]; exact h.2.2.2.2 j hj⟩
  · rw [h0 2 (by omega), show zrow τ 9 = zrow σ 9 from zrow_congr (fun c _ _ => k c (by omega) (by omega))]; exact h.2.1
  · rw [k 25 (by omega) (by omega), k 26 (by omega) (by omega)]; exact h.2.2.1
theorem zCW.img {S : zS} {σ τ : zSt} (h : zCW S σ) (h0 : ∀ k, k ≠ 2 → τ 0 k = σ 0 k) (k : ∀ c, c ≠ 0 → (c < 9 ∨ 17 ≤ c) → τ c = σ c) (h2 : τ 0 2 = 1) (h9 : zrow τ 9 = S.1) : zCW (S.1, some S.1, S.2.2) τ := by
  refine ⟨(zrow_congr (fun c _ _ => k c (by omega) (by omega))).trans h.1, Or.inr ⟨S.1, rfl, h2, h9⟩, ?_, ?_, fun j hj => by rw [k 49 (by omega) (by omega)]; exact h.2.2.2.2 j hj⟩
  · rw [k 25 (by omega) (by omega), k 26 (by omega) (by omega)]; exact h.2.2.1
  · rw [h0 7 (by omega), k 48 (by omega) (by omega)]; exact h.2.2.2.1
def q_clear (S : zS) : Value × zS := (.int (nI S.2.2.2.1.length), (S.1, S.2.1, S.2.2.1, [], S.2.2.2.2))
def q_row (S : zS) (v : Int32) : Value × zS := zq S (zfo (zir v (nI 0) (nI 99)) (zrO (S.2.2.2.1.length < 16)) (nI 0)) (.int (nI (S.2.2.2.1.length + 1)), (S.1, S.2.1, S.2.2.1, S.2.2.2.1 ++ [v], S.2.2.2.2))
def q_image (S : zS) : Value × zS := (.int (S.1 4), (S.1, some S.1, S.2.2))
def q_on (S : zS) : Value × zS := match S.2.1 with
  | none => zq S (-3) (.int 0, S)
  | some q => (.int (q 4), (q, S.2))

theorem s_X5_clear {n : Nat} {σ : zSt} {S : zS} (hS : zOk S) (h : zCW S σ)  : zSem n mX5_clear [.ref 0] σ (zCQ (q_clear S ) σ) := by
  obtain ⟨⟨⟨F, P, hg0⟩, y0, hy0, ey0⟩, hkp, hlt, hrw⟩ := id hS
  have hnF := hg0.nF
  have hnP := hg0.nP
  have hr0 := h.1
  have hg : zGd (zrow σ 1) F P := by rw [hr0]; exact hg0
  have hF6 := hg.F6
  have hP6 := hg.P6
  have hF : σ 1 0 = nI F := hg.r0
  have hP : σ 1 1 = nI P := hg.r1
  unfold q_clear
  try rw [hnF]
  try rw [hnP]
  refine zSem.of (by decide +kernel) (Nat.le_of_ble_eq_true rfl) (fun X hB hR => ?_)
  show zW X 0 [some (.ref 0), none] [] σ
  refine zw_aload0 hB dX5_clear_0 ?_
  refine zw_getfV (x := nI S.2.2.2.1.length) hB dX5_clear_1 zf_X5_252 rfl rfl (h.2.2.2.1.1) ?_
  refine zw_istore1 hB dX5_clear_4 rfl ?_
  refine zw_aload0 hB dX5_clear_5 ?_
  refine zw_iconst (x := nI 0) hB dX5_clear_6 (by decide) ?_
  refine zw_putfI hB dX5_clear_7 zfw_X5_252 rfl rfl ?_
  refine zw_iload1 hB dX5_clear_10 ?_
  refine zw_iret hB hR dX5_clear_11 rfl ?_
  refine ⟨rfl, h.rowL (fun k hk => ?_) (fun c h0 _ => zC_n h0) ?_ zArr.nil, fun c hc => zC_n (by omega)⟩
  · rw [zC_s]; exact zupd_o hk
  · rw [zC_s]; exact zupd_s
theorem s_X5_image {n : Nat} {σ : zSt} {S : zS} (hS : zOk S) (h : zCW S σ)  : zSem (n + 2) mX5_image [.ref 0] σ (zCQ (q_image S ) σ) := by
  obtain ⟨⟨⟨F, P, hg0⟩, y0, hy0, ey0⟩, hkp, hlt, hrw⟩ := id hS
  have hnF := hg0.nF
  have hnP := hg0.nP
  have hr0 := h.1
  have hg : zGd (zrow σ 1) F P := by rw [hr0]; exact hg0
  have hF6 := hg.F6
  have hP6 := hg.P6
  have hF : σ 1 0 = nI F := hg.r0
  have hP : σ 1 1 = nI P := hg.r1
  unfold q_image
  try rw [hnF]
  try rw [hnP]
  refine zSem.of (by decide +kernel) (Nat.le_of_ble_eq_true rfl) (fun X hB hR => ?_)
  show zW X 0 [some (.ref 0)] [] σ
  refine zw_aload0 hB dX5_image_0 ?_
  refine zw_getfR hB dX5_image_1 zf_X5_16 rfl rfl ?_
  refine zw_aload0 hB dX5_image_4 ?_
  refine zw_getfR hB dX5_image_5 zf_X5_10 rfl rfl ?_
  refine zw_callV1 (M' := mX1_become) hB dX5_image_8 zl_X5_70 zg_X1_become (zRc.of zld9.1 rfl rfl) (s_X1_become zld9 zld1 (by omega)) (fun v8 σ8 hq8 => ?_)
  obtain ⟨rfl, x1, x2⟩ := hq8
  refine zw_aload0 hB dX5_image_11 ?_
  refine zw_iconst (x := nI 1) hB dX5_image_12 (by decide) ?_
  refine zw_putfG hB dX5_image_13 zfw_X5_262 rfl rfl rfl rfl ?_
  refine zw_aload0 hB dX5_image_16 ?_
  refine zw_getfR hB dX5_image_17 zf_X5_10 rfl rfl ?_
  refine zw_getfI hB dX5_image_20 zf_X5_266 zld1.1 rfl ?_
  refine zw_iret hB hR dX5_image_23 rfl ?_
  refine ⟨?_, h.img (fun k hk => ?_) (fun c h0 hc => ?_) ?_ ?_, fun c hc => ?_⟩
  · rw [← hr0, zC_n (by omega), x2 1 (by omega)]; rfl
  · rw [zC_s, zupd_o hk, x2 0 (by omega)]
  · rw [zC_n h0]; exact x2 c (by omega)
  · rw [zC_s]; exact zupd_s
  · rw [← hr0, ← x1]; exact zrow_congr (fun c _ _ => zC_n (by omega))
  · rw [zC_n (by omega)]; exact x2 c (by omega)
theorem s_X5_on {n : Nat} {σ : zSt} {S : zS} (hS : zOk S) (h : zCW S σ)  : zSem (n + 2) mX5_on [.ref 0] σ (zCQ (q_on S ) σ) := by
  obtain ⟨⟨⟨F, P, hg0⟩, y0, hy0, ey0⟩, hkp, hlt, hrw⟩ := id hS
  have hnF := hg0.nF
  have hnP := hg0.nP
  have hr0 := h.1
  have hg : zGd (zrow σ 1) F P := by rw [hr0]; exact hg0
  have hF6 := hg.F6
  have hP6 := hg.P6
  have hF : σ 1 0 = nI F := hg.r0
  have hP : σ 1 1 = nI P := hg.r1
  unfold q_on
  try rw [hnF]
  try rw [hnP]
  refine zSem.of (by decide +kernel) (Nat.le_of_ble_eq_true rfl) (fun X hB hR => ?_)
  show zW X 0 [some (.ref 0)] [] σ
  refine zw_aload0 hB dX5_on_0 ?_
  refine zw_getfI hB dX5_on_1 zf_X5_262 rfl rfl ?_
  refine zw_if_ne (tgt := 14) hB dX5_on_4 (by decide) (fun c4 => ?_) (fun c4 => ?_)
  · obtain ⟨q, eq, -, e9⟩ := h.2.1.resolve_left (fun z => c4 z.2)
    refine zw_aload0 hB dX5_on_14 ?_
    refine zw_getfR hB dX5_on_15 zf_X5_10 rfl rfl ?_
    refine zw_aload0 hB dX5_on_18 ?_
    refine zw_getfR hB dX5_on_19 zf_X5_16 rfl rfl ?_
    refine zw_callV1 (M' := mX1_become) hB dX5_on_22 zl_X5_70 zg_X1_become (zRc.of zld1.1 rfl rfl) (s_X1_become zld1 zld9 (by omega)) (fun v22 σ22 hq22 => ?_)
    obtain ⟨rfl, x1, x2⟩ := hq22
    refine zw_aload0 hB dX5_on_25 ?_
    refine zw_getfR hB dX5_on_26 zf_X5_10 rfl rfl ?_
    refine zw_getfI hB dX5_on_29 zf_X5_266 zld1.1 rfl ?_
    refine zw_iret hB hR dX5_on_32 rfl ?_
    rw [eq]
    refine ⟨?_, h.land (x1.trans e9) (fun c hc => x2 c (by omega)), fun c hc => x2 c (by omega)⟩
    rw [← e9, ← x1]; rfl
  · refine zw_aload0 hB dX5_on_7 ?_
    refine zw_bipush (x := -3) hB dX5_on_8 (by decide) ?_
    refine zw_callV1 (M' := mX5_refuse) hB dX5_on_10 zl_X5_58 zg_X5_refuse (zRc.of rfl rfl rfl) (s_X5_refuse _ (k := 3) (by decide) (by omega)) (fun v10 σ10 hq10 => ?_)
    obtain ⟨rfl, rfl⟩ := hq10
    refine zw_iret hB hR dX5_on_13 rfl ?_
    have e : S.2.1 = none := by
      rcases h.2.1 with z | ⟨q, -, z, -⟩
      · exact z.1
      · exact absurd (z.symm.trans c4) (by decide)
    rw [e]
    exact zCQ.no h (by decide) (by omega) (by decide)
theorem s_X5_row {n : Nat} {σ : zSt} {S : zS} (hS : zOk S) (h : zCW S σ) (v : Int32) : zSem (n + 1) mX5_row [.ref 0, .int v] σ (zCQ (q_row S v) σ) := by
  obtain ⟨⟨⟨F, P, hg0⟩, y0, hy0, ey0⟩, hkp, hlt, hrw⟩ := id hS
  have hnF := hg0.nF
  have hnP := hg0.nP
  have hr0 := h.1
  have hg : zGd (zrow σ 1) F P := by rw [hr0]; exact hg0
  have hF6 := hg.F6
  have hP6 := hg.P6
  have hF : σ 1 0 = nI F := hg.r0
  have hP : σ 1 1 = nI P := hg.r1
  unfold q_row
  try rw [hnF]
  try rw [hnP]
  refine zSem.of (by decide +kernel) (Nat.le_of_ble_eq_true rfl) (fun X hB hR => ?_)
  show zW X 0 [some (.ref 0), some (.int v), none] [] σ
  refine zw_iload1 hB dX5_row_0 ?_
  refine zw_iconst (x := nI 0) hB dX5_row_1 (by decide) ?_
  refine zw_bipush (x := nI 99) hB dX5_row_2 (by decide) ?_
  refine zw_callS3P (M' := mX5_inRange) hB dX5_row_4 zl_X5_43 zg_X5_inRange (s_X5_inRange _ _ _) ?_
  refine zw_aload0 hB dX5_row_7 ?_
  refine zw_getfV (x := nI S.2.2.2.1.length) hB dX5_row_8 zf_X5_252 rfl rfl (h.2.2.2.1.1) ?_
  refine zw_bipush (x := nI 16) hB dX5_row_11 (by decide) ?_
  refine zw_icmp_geN (tgt := 20) hB dX5_row_13 (by decide) (by omega) (by omega) (fun c13 => ?_) (fun c13 => ?_)
  · refine zw_iconst (x := nI 0) hB dX5_row_20 (by decide) ?_
    refine zw_eqI (y := zb (S.2.2.2.1.length < 16)) (zb_f (by omega)).symm ?_
    refine zw_callS1P (M' := mX5_roomIf) hB dX5_row_21 zl_X5_51 zg_X5_roomIf (s_X5_roomIf) ?_
    refine zw_iconst (x := nI 0) hB dX5_row_24 (by decide) ?_
    refine zw_callS3P (M' := mX5_firstOf) hB dX5_row_25 zl_X5_55 zg_X5_firstOf (s_X5_firstOf _ _ _) ?_
    refine zw_istore2 hB dX5_row_28 rfl ?_
    refine zw_iload2 hB dX5_row_29 ?_
    refine zw_if_eq (tgt := 39) hB dX5_row_30 (by decide) (fun c30 => ?_) (fun c30 => ?_)
    · obtain ⟨-, e2, -⟩ := zfo_0 c30
      have hL : S.2.2.2.1.length < 16 := zrO_0 e2
      refine zw_aload0 hB dX5_row_39 ?_
      refine zw_getfR hB dX5_row_40 zf_X5_36 rfl rfl ?_
      refine zw_aload0 hB dX5_row_43 ?_
      refine zw_getfV (x := nI S.2.2.2.1.length) hB dX5_row_44 zf_X5_252 rfl rfl (h.2.2.2.1.1) ?_
      refine zw_iload1 hB dX5_row_47 ?_
      refine zw_iastN hB dX5_row_48 rfl (by omega) (by decide) ?_
      refine zw_aload0 hB dX5_row_49 ?_
      refine zw_dup hB dX5_row_50 rfl ?_
      refine zw_getfV (x := nI S.2.2.2.1.length) hB dX5_row_51 zf_X5_252 rfl rfl (by rw [zC_n (by omega)]; exact h.2.2.2.1.1) ?_
      refine zw_iconst (x := nI 1) hB dX5_row_54 (by decide) ?_
      refine zw_iaddN hB dX5_row_55 ?_
      refine zw_putfI hB dX5_row_56 zfw_X5_252 rfl rfl ?_
      refine zw_aload0 hB dX5_row_59 ?_
      refine zw_getfI hB dX5_row_60 zf_X5_252 rfl rfl ?_
      refine zw_iret hB hR dX5_row_63 rfl ?_
      rw [zq_t c30]
      refine ⟨?_, h.rowL (fun k hk => ?_) (fun c h0 h8 => ?_) ?_ ?_, fun c hc => ?_⟩
      · rw [zC_s, zupd_s]
      · rw [zC_s, zupd_o hk, zC_n (by omega)]
      · rw [zC_n h0, zC_n h8]
      · rw [zC_s, zupd_s, List.length_append]; rfl
      · rw [zC_n (by omega), zC_s]; exact h.2.2.2.1.2.add
      · rw [zC_n (by omega), zC_n (by omega)]
    · obtain ⟨k, hk, hc⟩ := (zcd_fo zcd_ir zcd_rm zcd_0).resolve_left c30
      refine zw_aload0 hB dX5_row_33 ?_
      refine zw_iload2 hB dX5_row_34 ?_
      refine zw_callV1 (M' := mX5_refuse) hB dX5_row_35 zl_X5_58 zg_X5_refuse (zRc.of rfl rfl rfl) (s_X5_refuse _ hc hk) (fun v35 σ35 hq35 => ?_)
      obtain ⟨rfl, rfl⟩ := hq35
      refine zw_iret hB hR dX5_row_38 rfl ?_
      exact zCQ.no h c30 hk hc
  · refine zw_iconst (x := nI 1) hB dX5_row_16 (by decide) ?_
    refine zw_goto (tgt := 21) hB dX5_row_17 (by decide) ?_
    refine zw_eqI (y := zb (S.2.2.2.1.length < 16)) (zb_t (by omega)).symm ?_
    refine zw_callS1P (M' := mX5_roomIf) hB dX5_row_21 zl_X5_51 zg_X5_roomIf (s_X5_roomIf) ?_
    refine zw_iconst (x := nI 0) hB dX5_row_24 (by decide) ?_
    refine zw_callS3P (M' := mX5_firstOf) hB dX5_row_25 zl_X5_55 zg_X5_firstOf (s_X5_firstOf _ _ _) ?_
    refine zw_istore2 hB dX5_row_28 rfl ?_
    refine zw_iload2 hB dX5_row_29 ?_
    refine zw_if_eq (tgt := 39) hB dX5_row_30 (by decide) (fun c30 => ?_) (fun c30 => ?_)
    · obtain ⟨-, e2, -⟩ := zfo_0 c30
      have hL : S.2.2.2.1.length < 16 := zrO_0 e2
      refine zw_aload0 hB dX5_row_39 ?_
      refine zw_getfR hB dX5_row_40 zf_X5_36 rfl rfl ?_
      refine zw_aload0 hB dX5_row_43 ?_
      refine zw_getfV (x := nI S.2.2.2.1.length) hB dX5_row_44 zf_X5_252 rfl rfl (h.2.2.2.1.1) ?_
      refine zw_iload1 hB dX5_row_47 ?_
      refine zw_iastN hB dX5_row_48 rfl (by omega) (by decide) ?_
      refine zw_aload0 hB dX5_row_49 ?_
      refine zw_dup hB dX5_row_50 rfl ?_
      refine zw_getfV (x := nI S.2.2.2.1.length) hB dX5_row_51 zf_X5_252 rfl rfl (by rw [zC_n (by omega)]; exact h.2.2.2.1.1) ?_
      refine zw_iconst (x := nI 1) hB dX5_row_54 (by decide) ?_
      refine zw_iaddN hB dX5_row_55 ?_
      refine zw_putfI hB dX5_row_56 zfw_X5_252 rfl rfl ?_
      refine zw_aload0 hB dX5_row_59 ?_
      refine zw_getfI hB dX5_row_60 zf_X5_252 rfl rfl ?_
      refine zw_iret hB hR dX5_row_63 rfl ?_
      rw [zq_t c30]
      refine ⟨?_, h.rowL (fun k hk => ?_) (fun c h0 h8 => ?_) ?_ ?_, fun c hc => ?_⟩
      · rw [zC_s, zupd_s]
      · rw [zC_s, zupd_o hk, zC_n (by omega)]
      · rw [zC_n h0, zC_n h8]
      · rw [zC_s, zupd_s, List.length_append]; rfl
      · rw [zC_n (by omega), zC_s]; exact h.2.2.2.1.2.add
      · rw [zC_n (by omega), zC_n (by omega)]
    · obtain ⟨k, hk, hc⟩ := (zcd_fo zcd_ir zcd_rm zcd_0).resolve_left c30
      refine zw_aload0 hB dX5_row_33 ?_
      refine zw_iload2 hB dX5_row_34 ?_
      refine zw_callV1 (M' := mX5_refuse) hB dX5_row_35 zl_X5_58 zg_X5_refuse (zRc.of rfl rfl rfl) (s_X5_refuse _ hc hk) (fun v35 σ35 hq35 => ?_)
      obtain ⟨rfl, rfl⟩ := hq35
      refine zw_iret hB hR dX5_row_38 rfl ?_
      exact zCQ.no h c30 hk hc
