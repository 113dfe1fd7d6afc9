/-! THE REFERENCE'S CALLS: greenest -/
theorem s_X6_greenest {n : Nat} {σ : zSt} {S : zS} (hS : zOk S) (h : zRW S σ)  : zSem (n + 2) mX6_greenest [.ref 50] σ (zRQ (q_greenest S ) σ) := by
  obtain ⟨⟨⟨F, P, hg0⟩, y0, hy0, ey0⟩, hkp, hlt, hrw⟩ := id hS
  have hnF := hg0.nF
  have hnP := hg0.nP
  have hr0 := h.1
  have hg : zGd (zro σ 51) F P := by rw [hr0]; exact hg0
  have hF6 := hg.F6
  have hP6 := hg.P6
  have hF : σ 51 0 = nI F := (zro_k (by omega)).symm.trans hg.r0
  have hP : σ 51 1 = nI P := (zro_k (by omega)).symm.trans hg.r1
  unfold q_greenest
  try rw [hnF]
  try rw [hnP]
  refine zSem.of (by decide +kernel) (Nat.le_of_ble_eq_true rfl) (fun X hB hR => ?_)
  show zW X 0 [some (.ref 50), none, none] [] σ
  have hl : ∀ i, i ≤ F → ∀ v : Int32, v = zopt (zgst (zgn (zro σ 51)) i) → zW X 5 [some (.ref 50), some (.int v), some (.int (nI i))] [] σ := by
    refine zfor F (fun i hi ih => ?_)
    intro v hv
    rcases zgst_in (zgn (zro σ 51)) i with ⟨rfl, e⟩ | ⟨q, hq, e⟩
    · rw [e] at hv
      have hv : v = -9 := hv
      subst hv
      refine zw_iload2 hB dX6_greenest_5 ?_
      refine zw_aload0 hB dX6_greenest_6 ?_
      refine zw_getfR hB dX6_greenest_7 zf_X6_9 rfl rfl ?_
      refine zw_iconst (x := nI 0) hB dX6_greenest_10 (by decide) ?_
      refine zw_ialdV (x := nI F) hB dX6_greenest_11 rfl (by omega) (by decide) (hF) ?_
      refine zw_icmp_geN (tgt := 46) hB dX6_greenest_12 (by decide) (by omega) (by omega) (fun c12 => ?_) (fun c12 => ?_)
      · refine zw_iload1 hB dX6_greenest_46 ?_
        refine zw_iret hB hR dX6_greenest_47 rfl ?_
        exact ⟨by rw [← hr0, show F = 0 by omega]; rfl, h, fun _ _ => rfl⟩
      · refine zw_iload1 hB dX6_greenest_15 ?_
        refine zw_if_lt (tgt := 38) hB dX6_greenest_16 (by decide) (fun c16 => ?_) (fun c16 => by first | exact absurd (by decide) c16 | exact absurd c16 (by decide) | omega)
        refine zw_iload2 hB dX6_greenest_38 ?_
        refine zw_istore1 hB dX6_greenest_39 rfl ?_
        refine zw_iinc2 hB dX6_greenest_40 (by first | exact zinc _ | rfl) rfl ?_
        refine zw_goto (tgt := 5) hB dX6_greenest_43 (by decide) ?_
        exact ih c12 _ rfl
    · rw [e] at hv
      have hv : v = nI q := hv
      subst hv
      refine zw_iload2 hB dX6_greenest_5 ?_
      refine zw_aload0 hB dX6_greenest_6 ?_
      refine zw_getfR hB dX6_greenest_7 zf_X6_9 rfl rfl ?_
      refine zw_iconst (x := nI 0) hB dX6_greenest_10 (by decide) ?_
      refine zw_ialdV (x := nI F) hB dX6_greenest_11 rfl (by omega) (by decide) (hF) ?_
      refine zw_icmp_geN (tgt := 46) hB dX6_greenest_12 (by decide) (by omega) (by omega) (fun c12 => ?_) (fun c12 => ?_)
      · refine zw_iload1 hB dX6_greenest_46 ?_
        refine zw_iret hB hR dX6_greenest_47 rfl ?_
        exact ⟨by rw [← hr0, show F = i by omega, e]; rfl, h, fun _ _ => rfl⟩
      · refine zw_iload1 hB dX6_greenest_15 ?_
        refine zw_if_lt (tgt := 38) hB dX6_greenest_16 (by decide) (fun c16 => by first | exact absurd c16 (nI_pos (by omega)) | exact absurd (nI_pos (by omega)) c16 | omega) (fun c16 => ?_)
        refine zw_aload0 hB dX6_greenest_19 ?_
        refine zw_getfR hB dX6_greenest_20 zf_X6_9 rfl rfl ?_
        refine zw_iload2 hB dX6_greenest_23 ?_
        refine zw_callS2P (M' := mX6_green) hB dX6_greenest_24 zl_X6_88 zg_X6_green (s_X6_green (c := 51) rfl (by omega)) ?_
        refine zw_aload0 hB dX6_greenest_27 ?_
        refine zw_getfR hB dX6_greenest_28 zf_X6_9 rfl rfl ?_
        refine zw_iload1 hB dX6_greenest_31 ?_
        refine zw_callS2P (M' := mX6_green) hB dX6_greenest_32 zl_X6_88 zg_X6_green (s_X6_green (c := 51) rfl (by omega)) ?_
        refine zw_icmp_le (tgt := 40) hB dX6_greenest_35 (by decide) (fun c35 => ?_) (fun c35 => ?_)
        · refine zw_iinc2 hB dX6_greenest_40 (by first | exact zinc _ | rfl) rfl ?_
          refine zw_goto (tgt := 5) hB dX6_greenest_43 (by decide) ?_
          exact ih c12 _ (by unfold zgst; rw [e]; first | (simp only [if_neg (Int32.not_lt.mpr c35)]; rfl) | (simp only [if_pos (Int32.not_le.mp c35)]; rfl))
        · refine zw_iload2 hB dX6_greenest_38 ?_
          refine zw_istore1 hB dX6_greenest_39 rfl ?_
          refine zw_iinc2 hB dX6_greenest_40 (by first | exact zinc _ | rfl) rfl ?_
          refine zw_goto (tgt := 5) hB dX6_greenest_43 (by decide) ?_
          exact ih c12 _ (by unfold zgst; rw [e]; first | (simp only [if_neg (Int32.not_lt.mpr c35)]; rfl) | (simp only [if_pos (Int32.not_le.mp c35)]; rfl))
  refine zw_bipush (x := -9) hB dX6_greenest_0 (by decide) ?_
  refine zw_istore1 hB dX6_greenest_2 rfl ?_
  refine zw_iconst (x := nI 0) hB dX6_greenest_3 (by decide) ?_
  refine zw_istore2 hB dX6_greenest_4 rfl ?_
  exact hl 0 (by omega) _ rfl
