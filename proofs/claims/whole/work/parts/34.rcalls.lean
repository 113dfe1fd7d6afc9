/-! THE REFERENCE'S CALLS: letter, row -/
theorem zRW.letL {S : zS} {σ τ : zSt} {l : List Int32} (h : zRW S σ) (h0 : ∀ k, k ≠ 10 → τ 50 k = σ 50 k) (k : ∀ c, c ≠ 50 → c ≠ 57 → τ c = σ c) (h7 : τ 50 10 = nI l.length) (ha : zArr (τ 57) l) : zRW (S.1, S.2.1, l, S.2.2.2) τ := by
  refine ⟨(zro_congr (k 51 (by omega) (by omega))).trans h.1, ?_, ⟨h7, ha⟩, ?_, fun j hj => by rw [k 59 (by omega) (by omega)]; exact h.2.2.2.2 j hj⟩
  · rw [h0 6 (by omega), show zro τ 53 = zro σ 53 from zro_congr (k 53 (by omega) (by omega))]; exact h.2.1
  · rw [h0 11 (by omega), k 58 (by omega) (by omega)]; exact h.2.2.2.1
theorem zfo_r1 {v m b c : Int32} (h : v < 0) : zfo (zir v (nI 0) m) b c = -4 := by
  unfold zfo zir; rw [if_pos (show v < nI 0 by rw [nI_0]; exact h), if_neg (by decide)]
theorem zfo_r2 {v m b c : Int32} (h : ¬ v < 0) (g : m < v) : zfo (zir v (nI 0) m) b c = -6 := by
  unfold zfo zir; rw [if_neg (show ¬ v < nI 0 by rw [nI_0]; exact h), if_pos g, if_neg (by decide)]
theorem zfo_r3 {e c : Int32} {p : Prop} [Decidable p] (h : e = 0) (g : ¬ p) : zfo e (zrO p) c = -6 := by
  unfold zfo zrO; rw [if_pos h, if_neg g, if_neg (by decide)]
theorem zfo_r4 {e c : Int32} {p : Prop} [Decidable p] (h : e = 0) (g : p) : zfo e (zrO p) c = c := by
  unfold zfo zrO; rw [if_pos h, if_pos g, if_pos nI_0]
theorem zfo_r5 {e b c : Int32} (h : ¬ e = 0) : zfo e b c = e := by
  unfold zfo; rw [if_neg h]
theorem zir_r {v m : Int32} (h : ¬ v < 0) (g : ¬ m < v) : zir v (nI 0) m = 0 := by
  unfold zir; rw [if_neg (show ¬ v < nI 0 by rw [nI_0]; exact h), if_neg g]; exact nI_0

theorem s_X6_letter {n : Nat} {σ : zSt} {S : zS} (hS : zOk S) (h : zRW S σ) (v : Int32) : zSem (n + 1) mX6_letter [.ref 50, .int v] σ (zRQ (q_letter S v) σ) := by
  obtain ⟨⟨⟨F, P, hg0⟩, y0, hy0, ey0⟩, hkp, hlt, hrw⟩ := id hS
  have hnF := hg0.nF
  have hnP := hg0.nP
  have hr0 := h.1
  have hg : zGd (zro σ 51) F P := by rw [hr0]; exact hg0
  have hF6 := hg.F6
  have hP6 := hg.P6
  have hF : σ 51 0 = nI F := (zro_k (by omega)).symm.trans hg.r0
  have hP : σ 51 1 = nI P := (zro_k (by omega)).symm.trans hg.r1
  unfold q_letter
  try rw [hnF]
  try rw [hnP]
  refine zSem.of (by decide +kernel) (Nat.le_of_ble_eq_true rfl) (fun X hB hR => ?_)
  show zW X 0 [some (.ref 50), some (.int v)] [] σ
  refine zw_iload1 hB dX6_letter_0 ?_
  refine zw_if_ge (tgt := 11) hB dX6_letter_1 (by decide) (fun c1 => ?_) (fun c1 => ?_)
  · refine zw_iload1 hB dX6_letter_11 ?_
    refine zw_sipush (x := nI 255) hB dX6_letter_12 (by decide) ?_
    refine zw_icmp_gt (tgt := 27) hB dX6_letter_15 (by decide) (fun c15 => ?_) (fun c15 => ?_)
    · refine zw_aload0 hB dX6_letter_27 ?_
      refine zw_bipush (x := -6) hB dX6_letter_28 (by decide) ?_
      refine zw_callV1 (M' := mX6_no) hB dX6_letter_30 zl_X6_48 zg_X6_no (zRc.of rfl rfl rfl) (s_X6_no (k := 6) _ (by decide) (by omega)) (fun v30 σ30 hq30 => ?_)
      obtain ⟨rfl, rfl⟩ := hq30
      refine zw_iret hB hR dX6_letter_33 rfl ?_
      have hl96 := hlt.1
      have d1 : ¬ v < 0 := by first | exact c1 | exact Int32.not_lt.mpr c1
      rw [zfo_r2 d1 (by first | exact c15 | exact Int32.not_le.mp c15)]
      exact zRQ.no h (by decide) (by omega) (by decide)
    · refine zw_aload0 hB dX6_letter_18 ?_
      refine zw_getfV (x := nI S.2.2.1.length) hB dX6_letter_19 zf_X6_91 rfl rfl (h.2.2.1.1) ?_
      refine zw_bipush (x := nI 96) hB dX6_letter_22 (by decide) ?_
      refine zw_icmp_neN (tgt := 34) hB dX6_letter_24 (by decide) (by omega) (by omega) (fun c24 => ?_) (fun c24 => ?_)
      · have hl96 := hlt.1
        have hL : S.2.2.1.length < 96 := by omega
        refine zw_aload0 hB dX6_letter_34 ?_
        refine zw_getfR hB dX6_letter_35 zf_X6_28 rfl rfl ?_
        refine zw_aload0 hB dX6_letter_38 ?_
        refine zw_getfV (x := nI S.2.2.1.length) hB dX6_letter_39 zf_X6_91 rfl rfl (h.2.2.1.1) ?_
        refine zw_iload1 hB dX6_letter_42 ?_
        refine zw_iastN hB dX6_letter_43 rfl (by omega) (by decide) ?_
        refine zw_aload0 hB dX6_letter_44 ?_
        refine zw_dup hB dX6_letter_45 rfl ?_
        refine zw_getfV (x := nI S.2.2.1.length) hB dX6_letter_46 zf_X6_91 rfl rfl (by rw [zC_n (by omega)]; exact h.2.2.1.1) ?_
        refine zw_iconst (x := nI 1) hB dX6_letter_49 (by decide) ?_
        refine zw_iaddN hB dX6_letter_50 ?_
        refine zw_putfI hB dX6_letter_51 zfw_X6_91 rfl rfl ?_
        refine zw_aload0 hB dX6_letter_54 ?_
        refine zw_getfI hB dX6_letter_55 zf_X6_91 rfl rfl ?_
        refine zw_iret hB hR dX6_letter_58 rfl ?_
        have hl96 := hlt.1
        have d1 : ¬ v < 0 := by first | exact c1 | exact Int32.not_lt.mpr c1
        have d15 : ¬ nI 255 < v := by first | exact c15 | exact Int32.not_lt.mpr c15
        rw [zq_t ((zfo_r4 (zir_r d1 d15) (by omega)).trans nI_0)]
        refine ⟨?_, h.letL (fun k hk => ?_) (fun c h0 h8 => ?_) ?_ ?_, fun c hc => ?_⟩
        · rw [zC_s, zupd_s]
        · rw [zC_s, zupd_o hk, zC_n (by omega)]
        · rw [zC_n h0, zC_n h8]
        · rw [zC_s, zupd_s, List.length_append]; rfl
        · rw [zC_n (by omega), zC_s]; exact h.2.2.1.2.add
        · rw [zC_n (by omega), zC_n (by omega)]
      · refine zw_aload0 hB dX6_letter_27 ?_
        refine zw_bipush (x := -6) hB dX6_letter_28 (by decide) ?_
        refine zw_callV1 (M' := mX6_no) hB dX6_letter_30 zl_X6_48 zg_X6_no (zRc.of rfl rfl rfl) (s_X6_no (k := 6) _ (by decide) (by omega)) (fun v30 σ30 hq30 => ?_)
        obtain ⟨rfl, rfl⟩ := hq30
        refine zw_iret hB hR dX6_letter_33 rfl ?_
        have hl96 := hlt.1
        have d1 : ¬ v < 0 := by first | exact c1 | exact Int32.not_lt.mpr c1
        have d15 : ¬ nI 255 < v := by first | exact c15 | exact Int32.not_lt.mpr c15
        rw [zfo_r3 (zir_r d1 d15) (by omega)]
        exact zRQ.no h (by decide) (by omega) (by decide)
  · refine zw_aload0 hB dX6_letter_4 ?_
    refine zw_bipush (x := -4) hB dX6_letter_5 (by decide) ?_
    refine zw_callV1 (M' := mX6_no) hB dX6_letter_7 zl_X6_48 zg_X6_no (zRc.of rfl rfl rfl) (s_X6_no (k := 4) _ (by decide) (by omega)) (fun v7 σ7 hq7 => ?_)
    obtain ⟨rfl, rfl⟩ := hq7
    refine zw_iret hB hR dX6_letter_10 rfl ?_
    have hl96 := hlt.1
    rw [zfo_r1 (by first | exact c1 | exact Int32.not_le.mp c1)]
    exact zRQ.no h (by decide) (by omega) (by decide)
theorem s_X6_row {n : Nat} {σ : zSt} {S : zS} (hS : zOk S) (h : zRW S σ) (v : Int32) : zSem (n + 1) mX6_row [.ref 50, .int v] σ (zRQ (q_row S v) σ) := by
  obtain ⟨⟨⟨F, P, hg0⟩, y0, hy0, ey0⟩, hkp, hlt, hrw⟩ := id hS
  have hnF := hg0.nF
  have hnP := hg0.nP
  have hr0 := h.1
  have hg : zGd (zro σ 51) F P := by rw [hr0]; exact hg0
  have hF6 := hg.F6
  have hP6 := hg.P6
  have hF : σ 51 0 = nI F := (zro_k (by omega)).symm.trans hg.r0
  have hP : σ 51 1 = nI P := (zro_k (by omega)).symm.trans hg.r1
  unfold q_row
  try rw [hnF]
  try rw [hnP]
  refine zSem.of (by decide +kernel) (Nat.le_of_ble_eq_true rfl) (fun X hB hR => ?_)
  show zW X 0 [some (.ref 50), some (.int v), none] [] σ
  refine zw_iload1 hB dX6_row_0 ?_
  refine zw_iconst (x := nI 0) hB dX6_row_1 (by decide) ?_
  refine zw_bipush (x := nI 99) hB dX6_row_2 (by decide) ?_
  refine zw_callS3P (M' := mX6_wrongBy) hB dX6_row_4 zl_X6_137 zg_X6_wrongBy (s_X6_wrongBy _ _ _) ?_
  refine zw_istore2 hB dX6_row_7 rfl ?_
  refine zw_iload2 hB dX6_row_8 ?_
  refine zw_if_ne (tgt := 24) hB dX6_row_9 (by decide) (fun c9 => ?_) (fun c9 => ?_)
  · refine zw_iload2 hB dX6_row_24 ?_
    refine zw_if_eq (tgt := 34) hB dX6_row_25 (by decide) (fun c25 => by first | exact absurd c25 c9 | exact absurd c9 c25 | omega) (fun c25 => ?_)
    obtain ⟨k, hk, hc⟩ := (zcd_ir (v := v) (a := nI 0) (m := nI 99)).resolve_left c9
    refine zw_aload0 hB dX6_row_28 ?_
    refine zw_iload2 hB dX6_row_29 ?_
    refine zw_callV1 (M' := mX6_no) hB dX6_row_30 zl_X6_48 zg_X6_no (zRc.of rfl rfl rfl) (s_X6_no _ hc hk) (fun v30 σ30 hq30 => ?_)
    obtain ⟨rfl, rfl⟩ := hq30
    refine zw_iret hB hR dX6_row_33 rfl ?_
    have hl16 := hrw.1
    rw [zfo_r5 c9]
    exact zRQ.no h c9 hk hc
  · refine zw_aload0 hB dX6_row_12 ?_
    refine zw_getfV (x := nI S.2.2.2.1.length) hB dX6_row_13 zf_X6_185 rfl rfl (h.2.2.2.1.1) ?_
    refine zw_bipush (x := nI 16) hB dX6_row_16 (by decide) ?_
    refine zw_icmp_neN (tgt := 24) hB dX6_row_18 (by decide) (by omega) (by omega) (fun c18 => ?_) (fun c18 => ?_)
    · refine zw_iload2 hB dX6_row_24 ?_
      refine zw_if_eq (tgt := 34) hB dX6_row_25 (by decide) (fun c25 => ?_) (fun c25 => by first | exact absurd c9 c25 | exact absurd c25 c9 | omega)
      have hl16 := hrw.1
      have hL : S.2.2.2.1.length < 16 := by omega
      refine zw_aload0 hB dX6_row_34 ?_
      refine zw_getfR hB dX6_row_35 zf_X6_31 rfl rfl ?_
      refine zw_aload0 hB dX6_row_38 ?_
      refine zw_getfV (x := nI S.2.2.2.1.length) hB dX6_row_39 zf_X6_185 rfl rfl (h.2.2.2.1.1) ?_
      refine zw_iload1 hB dX6_row_42 ?_
      refine zw_iastN hB dX6_row_43 rfl (by omega) (by decide) ?_
      refine zw_aload0 hB dX6_row_44 ?_
      refine zw_dup hB dX6_row_45 rfl ?_
      refine zw_getfV (x := nI S.2.2.2.1.length) hB dX6_row_46 zf_X6_185 rfl rfl (by rw [zC_n (by omega)]; exact h.2.2.2.1.1) ?_
      refine zw_iconst (x := nI 1) hB dX6_row_49 (by decide) ?_
      refine zw_iaddN hB dX6_row_50 ?_
      refine zw_putfI hB dX6_row_51 zfw_X6_185 rfl rfl ?_
      refine zw_aload0 hB dX6_row_54 ?_
      refine zw_getfI hB dX6_row_55 zf_X6_185 rfl rfl ?_
      refine zw_iret hB hR dX6_row_58 rfl ?_
      have hl16 := hrw.1
      rw [zq_t ((zfo_r4 c9 (by omega)).trans nI_0)]
      refine ⟨?_, h.rowL (fun k hk => ?_) (fun c h0 h8 => ?_) ?_ ?_, fun c hc => ?_⟩
      · rw [zC_s, zupd_s]
      · rw [zC_s, zupd_o hk, zC_n (by omega)]
      · rw [zC_n h0, zC_n h8]
      · rw [zC_s, zupd_s, List.length_append]; rfl
      · rw [zC_n (by omega), zC_s]; exact h.2.2.2.1.2.add
      · rw [zC_n (by omega), zC_n (by omega)]
    · refine zw_bipush (x := -6) hB dX6_row_21 (by decide) ?_
      refine zw_istore2 hB dX6_row_23 rfl ?_
      refine zw_iload2 hB dX6_row_24 ?_
      refine zw_if_eq (tgt := 34) hB dX6_row_25 (by decide) (fun c25 => by first | exact absurd c25 (by decide) | exact absurd (by decide) c25 | omega) (fun c25 => ?_)
      have hk : 6 < 7 := by omega
      have hc : -(-6 : Int32) = nI 6 := by decide
      refine zw_aload0 hB dX6_row_28 ?_
      refine zw_iload2 hB dX6_row_29 ?_
      refine zw_callV1 (M' := mX6_no) hB dX6_row_30 zl_X6_48 zg_X6_no (zRc.of rfl rfl rfl) (s_X6_no _ hc hk) (fun v30 σ30 hq30 => ?_)
      obtain ⟨rfl, rfl⟩ := hq30
      refine zw_iret hB hR dX6_row_33 rfl ?_
      have hl16 := hrw.1
      rw [zfo_r3 c9 (by omega)]
      exact zRQ.no h (by decide) (by omega) (by decide)
