/-! THE REFERENCE'S CALLS: crop -/
theorem s_X6_crop {n : Nat} {σ : zSt} {S : zS} (hS : zOk S) (h : zRW S σ) (f m : Int32) : zSem (n + 6) mX6_crop [.ref 50, .int f, .int m] σ (zRQ (q_crop S f m) σ) := by
  obtain ⟨⟨⟨F, P, hg0⟩, y0, hy0, ey0⟩, hkp, hlt, hrw⟩ := id hS
  have hnF := hg0.nF
  have hnP := hg0.nP
  have hr0 := h.1
  have hg : zGd (zro σ 51) F P := by rw [hr0]; exact hg0
  have hF6 := hg.F6
  have hP6 := hg.P6
  have hF : σ 51 0 = nI F := (zro_k (by omega)).symm.trans hg.r0
  have hP : σ 51 1 = nI P := (zro_k (by omega)).symm.trans hg.r1
  unfold q_crop
  try rw [hnF]
  try rw [hnP]
  refine zSem.of (by decide +kernel) (Nat.le_of_ble_eq_true rfl) (fun X hB hR => ?_)
  show zW X 0 [some (.ref 50), some (.int f), some (.int m), none, none] [] σ
  refine zw_iload1 hB dX6_crop_0 ?_
  refine zw_iconst (x := -1) hB dX6_crop_1 (by decide) ?_
  refine zw_icmp_eq (tgt := 13) hB dX6_crop_2 (by decide) (fun c2 => ?_) (fun c2 => ?_)
  · refine zw_iload2 hB dX6_crop_13 ?_
    refine zw_iconst (x := nI 1) hB dX6_crop_14 (by decide) ?_
    refine zw_bipush (x := nI 60) hB dX6_crop_15 (by decide) ?_
    refine zw_callS3P (M' := mX6_wrongBy) hB dX6_crop_17 zl_X6_137 zg_X6_wrongBy (s_X6_wrongBy _ _ _) ?_
    refine zw_goto (tgt := 24) hB dX6_crop_20 (by decide) ?_
    refine zw_eqI (y := zfo (znb (f = -1 ∨ zIn f F)) (zir m (nI 1) (nI 60)) (nI 0)) (zfo_2 (Or.inl c2)).symm ?_
    refine zw_istore3 hB dX6_crop_24 rfl ?_
    refine zw_iload3 hB dX6_crop_25 ?_
    refine zw_if_eq (tgt := 35) hB dX6_crop_26 (by decide) (fun c26 => ?_) (fun c26 => ?_)
    · obtain ⟨e1, e2, -⟩ := zfo_0 c26
      obtain ⟨m, -, hm, rfl⟩ := zir_0 (by omega) (by omega) e2
      refine zw_aload0 hB dX6_crop_35 ?_
      refine zw_iload2 hB dX6_crop_36 ?_
      refine zw_callV1 (M' := mX6_takes) hB dX6_crop_37 zl_X6_141 zg_X6_takes (zRc.of rfl rfl rfl) (s_X6_takes hg (by omega)) (fun v37 σ37 hq37 => ?_)
      obtain ⟨rfl, x1, x2, x3, x4⟩ := hq37
      refine zw_istore4 hB dX6_crop_40 rfl ?_
      refine zw_iload1 hB dX6_crop_42 ?_
      refine zw_if_ge (tgt := 51) hB dX6_crop_43 (by decide) (fun c43 => ?_) (fun c43 => ?_)
      · have hne : ¬ f = -1 := fun z => absurd (z ▸ c43 : (0 : Int32) ≤ -1) (by decide)
        obtain ⟨j, hj, rfl⟩ := zIn_j (by omega) ((znb_0 e1).resolve_left hne)
        refine zw_aload0 hB dX6_crop_51 ?_
        refine zw_getfR hB dX6_crop_52 zf_X6_22 rfl rfl ?_
        refine zw_iload1 hB dX6_crop_55 ?_
        refine zw_ialdV (x := zGf (zro σ 51) P j m) hB dX6_crop_56 rfl (by omega) (by decide) (x2 j hj) ?_
        refine zw_iret hB hR dX6_crop_57 rfl ?_
        refine zRQ.ok h c26 ?_ (by rw [x4 50 (by omega) (by omega) (by omega)]; exact ⟨rfl, rfl, rfl⟩) (fun c hc => x4 c (by omega) (by omega) (by omega))
        rw [if_neg hne, nI_clamp (by omega), nI_clamp (by omega), ← hr0]
      · have hf : f = -1 := (znb_0 e1).resolve_right (fun z => z.1 (Int32.not_le.mp c43))
        refine zw_iload4 hB dX6_crop_46 ?_
        refine zw_goto (tgt := 57) hB dX6_crop_48 (by decide) ?_
        refine zw_iret hB hR dX6_crop_57 rfl ?_
        refine zRQ.ok h c26 ?_ (by rw [x4 50 (by omega) (by omega) (by omega)]; exact ⟨rfl, rfl, rfl⟩) (fun c hc => x4 c (by omega) (by omega) (by omega))
        rw [if_pos hf, nI_clamp (by omega), ← hr0]
    · obtain ⟨k, hk, hc⟩ := (zcd_fo zcd_nb zcd_ir zcd_0).resolve_left c26
      refine zw_aload0 hB dX6_crop_29 ?_
      refine zw_iload3 hB dX6_crop_30 ?_
      refine zw_callV1 (M' := mX6_no) hB dX6_crop_31 zl_X6_48 zg_X6_no (zRc.of rfl rfl rfl) (s_X6_no _ hc hk) (fun v31 σ31 hq31 => ?_)
      obtain ⟨rfl, rfl⟩ := hq31
      refine zw_iret hB hR dX6_crop_34 rfl ?_
      exact zRQ.no h c26 hk hc
  · refine zw_aload0 hB dX6_crop_5 ?_
    refine zw_iload1 hB dX6_crop_6 ?_
    refine zw_callV1P (M' := mX6_isFarm) hB dX6_crop_7 zl_X6_117 zg_X6_isFarm (zRc.of rfl rfl rfl) (s_X6_isFarm hF hF6 _) ?_
    refine zw_if_eqB (tgt := 23) hB dX6_crop_10 (by decide) (fun c10 => ?_) (fun c10 => ?_)
    · refine zw_iconst (x := -1) hB dX6_crop_23 (by decide) ?_
      refine zw_eqI (y := zfo (znb (f = -1 ∨ zIn f F)) (zir m (nI 1) (nI 60)) (nI 0)) (zfo_1 (fun z => z.elim c2 c10)).symm ?_
      refine zw_istore3 hB dX6_crop_24 rfl ?_
      refine zw_iload3 hB dX6_crop_25 ?_
      refine zw_if_eq (tgt := 35) hB dX6_crop_26 (by decide) (fun c26 => ?_) (fun c26 => ?_)
      · obtain ⟨e1, e2, -⟩ := zfo_0 c26
        obtain ⟨m, -, hm, rfl⟩ := zir_0 (by omega) (by omega) e2
        refine zw_aload0 hB dX6_crop_35 ?_
        refine zw_iload2 hB dX6_crop_36 ?_
        refine zw_callV1 (M' := mX6_takes) hB dX6_crop_37 zl_X6_141 zg_X6_takes (zRc.of rfl rfl rfl) (s_X6_takes hg (by omega)) (fun v37 σ37 hq37 => ?_)
        obtain ⟨rfl, x1, x2, x3, x4⟩ := hq37
        refine zw_istore4 hB dX6_crop_40 rfl ?_
        refine zw_iload1 hB dX6_crop_42 ?_
        refine zw_if_ge (tgt := 51) hB dX6_crop_43 (by decide) (fun c43 => ?_) (fun c43 => ?_)
        · have hne : ¬ f = -1 := fun z => absurd (z ▸ c43 : (0 : Int32) ≤ -1) (by decide)
          obtain ⟨j, hj, rfl⟩ := zIn_j (by omega) ((znb_0 e1).resolve_left hne)
          refine zw_aload0 hB dX6_crop_51 ?_
          refine zw_getfR hB dX6_crop_52 zf_X6_22 rfl rfl ?_
          refine zw_iload1 hB dX6_crop_55 ?_
          refine zw_ialdV (x := zGf (zro σ 51) P j m) hB dX6_crop_56 rfl (by omega) (by decide) (x2 j hj) ?_
          refine zw_iret hB hR dX6_crop_57 rfl ?_
          refine zRQ.ok h c26 ?_ (by rw [x4 50 (by omega) (by omega) (by omega)]; exact ⟨rfl, rfl, rfl⟩) (fun c hc => x4 c (by omega) (by omega) (by omega))
          rw [if_neg hne, nI_clamp (by omega), nI_clamp (by omega), ← hr0]
        · have hf : f = -1 := (znb_0 e1).resolve_right (fun z => z.1 (Int32.not_le.mp c43))
          refine zw_iload4 hB dX6_crop_46 ?_
          refine zw_goto (tgt := 57) hB dX6_crop_48 (by decide) ?_
          refine zw_iret hB hR dX6_crop_57 rfl ?_
          refine zRQ.ok h c26 ?_ (by rw [x4 50 (by omega) (by omega) (by omega)]; exact ⟨rfl, rfl, rfl⟩) (fun c hc => x4 c (by omega) (by omega) (by omega))
          rw [if_pos hf, nI_clamp (by omega), ← hr0]
      · obtain ⟨k, hk, hc⟩ := (zcd_fo zcd_nb zcd_ir zcd_0).resolve_left c26
        refine zw_aload0 hB dX6_crop_29 ?_
        refine zw_iload3 hB dX6_crop_30 ?_
        refine zw_callV1 (M' := mX6_no) hB dX6_crop_31 zl_X6_48 zg_X6_no (zRc.of rfl rfl rfl) (s_X6_no _ hc hk) (fun v31 σ31 hq31 => ?_)
        obtain ⟨rfl, rfl⟩ := hq31
        refine zw_iret hB hR dX6_crop_34 rfl ?_
        exact zRQ.no h c26 hk hc
    · refine zw_iload2 hB dX6_crop_13 ?_
      refine zw_iconst (x := nI 1) hB dX6_crop_14 (by decide) ?_
      refine zw_bipush (x := nI 60) hB dX6_crop_15 (by decide) ?_
      refine zw_callS3P (M' := mX6_wrongBy) hB dX6_crop_17 zl_X6_137 zg_X6_wrongBy (s_X6_wrongBy _ _ _) ?_
      refine zw_goto (tgt := 24) hB dX6_crop_20 (by decide) ?_
      refine zw_eqI (y := zfo (znb (f = -1 ∨ zIn f F)) (zir m (nI 1) (nI 60)) (nI 0)) (zfo_2 (Or.inr c10)).symm ?_
      refine zw_istore3 hB dX6_crop_24 rfl ?_
      refine zw_iload3 hB dX6_crop_25 ?_
      refine zw_if_eq (tgt := 35) hB dX6_crop_26 (by decide) (fun c26 => ?_) (fun c26 => ?_)
      · obtain ⟨e1, e2, -⟩ := zfo_0 c26
        obtain ⟨m, -, hm, rfl⟩ := zir_0 (by omega) (by omega) e2
        refine zw_aload0 hB dX6_crop_35 ?_
        refine zw_iload2 hB dX6_crop_36 ?_
        refine zw_callV1 (M' := mX6_takes) hB dX6_crop_37 zl_X6_141 zg_X6_takes (zRc.of rfl rfl rfl) (s_X6_takes hg (by omega)) (fun v37 σ37 hq37 => ?_)
        obtain ⟨rfl, x1, x2, x3, x4⟩ := hq37
        refine zw_istore4 hB dX6_crop_40 rfl ?_
        refine zw_iload1 hB dX6_crop_42 ?_
        refine zw_if_ge (tgt := 51) hB dX6_crop_43 (by decide) (fun c43 => ?_) (fun c43 => ?_)
        · have hne : ¬ f = -1 := fun z => absurd (z ▸ c43 : (0 : Int32) ≤ -1) (by decide)
          obtain ⟨j, hj, rfl⟩ := zIn_j (by omega) ((znb_0 e1).resolve_left hne)
          refine zw_aload0 hB dX6_crop_51 ?_
          refine zw_getfR hB dX6_crop_52 zf_X6_22 rfl rfl ?_
          refine zw_iload1 hB dX6_crop_55 ?_
          refine zw_ialdV (x := zGf (zro σ 51) P j m) hB dX6_crop_56 rfl (by omega) (by decide) (x2 j hj) ?_
          refine zw_iret hB hR dX6_crop_57 rfl ?_
          refine zRQ.ok h c26 ?_ (by rw [x4 50 (by omega) (by omega) (by omega)]; exact ⟨rfl, rfl, rfl⟩) (fun c hc => x4 c (by omega) (by omega) (by omega))
          rw [if_neg hne, nI_clamp (by omega), nI_clamp (by omega), ← hr0]
        · have hf : f = -1 := (znb_0 e1).resolve_right (fun z => z.1 (Int32.not_le.mp c43))
          refine zw_iload4 hB dX6_crop_46 ?_
          refine zw_goto (tgt := 57) hB dX6_crop_48 (by decide) ?_
          refine zw_iret hB hR dX6_crop_57 rfl ?_
          refine zRQ.ok h c26 ?_ (by rw [x4 50 (by omega) (by omega) (by omega)]; exact ⟨rfl, rfl, rfl⟩) (fun c hc => x4 c (by omega) (by omega) (by omega))
          rw [if_pos hf, nI_clamp (by omega), ← hr0]
      · obtain ⟨k, hk, hc⟩ := (zcd_fo zcd_nb zcd_ir zcd_0).resolve_left c26
        refine zw_aload0 hB dX6_crop_29 ?_
        refine zw_iload3 hB dX6_crop_30 ?_
        refine zw_callV1 (M' := mX6_no) hB dX6_crop_31 zl_X6_48 zg_X6_no (zRc.of rfl rfl rfl) (s_X6_no _ hc hk) (fun v31 σ31 hq31 => ?_)
        obtain ⟨rfl, rfl⟩ := hq31
        refine zw_iret hB hR dX6_crop_34 rfl ?_
        exact zRQ.no h c26 hk hc
