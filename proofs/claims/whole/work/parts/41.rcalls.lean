/-! THE REFERENCE'S CALLS: inHeart -/
theorem s_X6_inHeart {n : Nat} {σ : zSt} {S : zS} (hS : zOk S) (h : zRW S σ)  : zSem (n + 5) mX6_inHeart [.ref 50] σ (zRQ (q_inHeart S ) σ) := by
  obtain ⟨⟨⟨F, P, hg0⟩, y0, hy0, ey0⟩, hkp, hlt, hrw⟩ := id hS
  have hnF := hg0.nF
  have hnP := hg0.nP
  have hr0 := h.1
  have hg : zGd (zro σ 51) F P := by rw [hr0]; exact hg0
  have hF6 := hg.F6
  have hP6 := hg.P6
  have hF : σ 51 0 = nI F := (zro_k (by omega)).symm.trans hg.r0
  have hP : σ 51 1 = nI P := (zro_k (by omega)).symm.trans hg.r1
  unfold q_inHeart
  try rw [hnF]
  try rw [hnP]
  refine zSem.of (by decide +kernel) (Nat.le_of_ble_eq_true rfl) (fun X hB hR => ?_)
  show zW X 0 [some (.ref 50), none, none] [] σ
  have hl : ∀ i, i ≤ 61 → ∀ (υ : zSt) (a2 : Option Value), (∀ a, a ≠ 52 → a ≠ 55 → a ≠ 56 → υ a = σ a) → zro υ 52 = zYs (zro σ 51) i → zLt (zro σ 51) F = zfst (fun n => (zfst (zbar (zYs (zro σ 51) n)) 0 F).isSome) i (61 - i) → zW X 13 [some (.ref 50), some (.int (nI i)), a2] [] υ := by
    refine zfor 61 (fun i hi ih => ?_)
    intro υ a2 ou zu hq
    have gu : zGd (zro υ 52) F P := by rw [zu]; exact zGd_Ys hg i
    refine zw_iload1 hB dX6_inHeart_13 ?_
    refine zw_bipush (x := nI 60) hB dX6_inHeart_14 (by decide) ?_
    refine zw_icmp_gtN (tgt := 47) hB dX6_inHeart_16 (by decide) (by omega) (by omega) (fun c16 => ?_) (fun c16 => ?_)
    · refine zw_bipush (x := nI 61) hB dX6_inHeart_47 (by decide) ?_
      refine zw_iret hB hR dX6_inHeart_49 rfl ?_
      have e9 : zLt (zro σ 51) F = none := by rw [hq]; exact zfst_e (N := 61) (by omega)
      refine ⟨by rw [← hr0, e9]; rfl, h.keep (by rw [ou 50 (by omega) (by omega) (by omega)]; exact ⟨rfl, rfl, rfl⟩) (fun c hc => ou c (by omega) (by omega) (by omega)), fun c hc => ou c (by omega) (by omega) (by omega)⟩
    · refine zw_aload0 hB dX6_inHeart_19 ?_
      refine zw_getfR hB dX6_inHeart_20 zf_X6_13 rfl rfl ?_
      refine zw_callS1 (M' := mX6_lostIn) hB dX6_inHeart_23 zl_X6_144 zg_X6_lostIn (s_X6_lostIn (c := 52) rfl gu) (fun v23 σ23 hq23 => ?_)
      obtain ⟨rfl, rfl⟩ := hq23
      rw [zu]
      refine zw_if_lt (tgt := 31) hB dX6_inHeart_26 (by decide) (fun c26 => ?_) (fun c26 => ?_)
      · refine zw_aload0 hB dX6_inHeart_31 ?_
        refine zw_aload0 hB dX6_inHeart_32 ?_
        refine zw_getfR hB dX6_inHeart_33 zf_X6_13 rfl rfl ?_
        refine zw_iconst (x := nI 0) hB dX6_inHeart_36 (by decide) ?_
        refine zw_callV2 (M' := mX6_year) hB dX6_inHeart_37 zl_X6_84 zg_X6_year (zRc.of rfl rfl rfl) (s_X6_year (c := 52) rfl (by omega) gu _) (fun v37 σ37 hq37 => ?_)
        obtain ⟨rfl, x1, x2, x3, x4⟩ := hq37
        rw [zYw_0 (z := nI 0) gu rfl] at x1
        have z2 : zro σ37 52 = zYs (zro σ 51) (i + 1) := by rw [x1, zu]; rfl
        have o2 : ∀ a, a ≠ 52 → a ≠ 55 → a ≠ 56 → σ37 a = σ a := fun a h1 h2 h3 => (x4 a h1 h2 h3).trans (ou a h1 h2 h3)
        refine zw_istore2 hB dX6_inHeart_40 rfl ?_
        refine zw_iinc1 hB dX6_inHeart_41 (by first | exact zinc _ | rfl) rfl ?_
        refine zw_goto (tgt := 13) hB dX6_inHeart_44 (by decide) ?_
        refine ih (by omega) _ _ o2 z2 ?_
        rw [hq, zfst_s (N := 61) (by omega), if_neg]
        intro z
        obtain ⟨q, eq⟩ := Option.isSome_iff_exists.mp z
        rw [eq] at c26
        have hqF := zfst_lt _ _ eq
        exact nI_pos (n := q) (by omega) c26
      · refine zw_iload1 hB dX6_inHeart_29 ?_
        refine zw_iret hB hR dX6_inHeart_30 rfl ?_
        have e9 : zLt (zro σ 51) F = some i := by
          rw [hq, zfst_s (N := 61) (by omega), if_pos]
          cases ee : zfst (zbar (zYs (zro σ 51) i)) 0 F with
          | none => rw [ee] at c26; exact absurd (show zopt none < 0 by decide) (by first | exact c26 | exact Int32.not_lt.mpr c26)
          | some q => rfl
        refine ⟨by rw [← hr0, e9]; rfl, h.keep (by rw [ou 50 (by omega) (by omega) (by omega)]; exact ⟨rfl, rfl, rfl⟩) (fun c hc => ou c (by omega) (by omega) (by omega)), fun c hc => ou c (by omega) (by omega) (by omega)⟩
  refine zw_aload0 hB dX6_inHeart_0 ?_
  refine zw_getfR hB dX6_inHeart_1 zf_X6_9 rfl rfl ?_
  refine zw_aload0 hB dX6_inHeart_4 ?_
  refine zw_getfR hB dX6_inHeart_5 zf_X6_13 rfl rfl ?_
  refine zw_callS2 (M' := mX6_copies) hB dX6_inHeart_8 zl_X6_130 zg_X6_copies (s_X6_copies (c := 51) (d := 52) rfl rfl (by decide)) (fun v8 σ8 hq8 => ?_)
  obtain ⟨rfl, x1, x2⟩ := hq8
  refine zw_iconst (x := nI 0) hB dX6_inHeart_11 (by decide) ?_
  refine zw_istore1 hB dX6_inHeart_12 rfl ?_
  exact hl 0 (by omega) σ8 _ (fun a h1 _ _ => x2 a h1) x1 rfl
