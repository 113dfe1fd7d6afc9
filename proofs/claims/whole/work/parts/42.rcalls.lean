/-! THE REFERENCE'S CALLS: lost -/
theorem s_X6_lost {n : Nat} {σ : zSt} {S : zS} (hS : zOk S) (h : zRW S σ) (w : Int32) : zSem (n + 5) mX6_lost [.ref 50, .int w] σ (zRQ (q_lost S w) σ) := by
  obtain ⟨⟨⟨F, P, hg0⟩, y0, hy0, ey0⟩, hkp, hlt, hrw⟩ := id hS
  have hnF := hg0.nF
  have hnP := hg0.nP
  have hr0 := h.1
  have hg : zGd (zro σ 51) F P := by rw [hr0]; exact hg0
  have hF6 := hg.F6
  have hP6 := hg.P6
  have hF : σ 51 0 = nI F := (zro_k (by omega)).symm.trans hg.r0
  have hP : σ 51 1 = nI P := (zro_k (by omega)).symm.trans hg.r1
  unfold q_lost
  try rw [hnF]
  try rw [hnP]
  refine zSem.of (by decide +kernel) (Nat.le_of_ble_eq_true rfl) (fun X hB hR => ?_)
  show zW X 0 [some (.ref 50), some (.int w), none, none] [] σ
  have hl : zou w (nI 1) = 0 → ∀ i, i ≤ 61 → ∀ (υ : zSt) (a2 : Option Value), (∀ a, a ≠ 52 → a ≠ 55 → a ≠ 56 → υ a = σ a) → zro υ 52 = zYs (zro σ 51) i → zLt (zro σ 51) F = zfst (fun n => (zfst (zbar (zYs (zro σ 51) n)) 0 F).isSome) i (61 - i) → zW X 29 [some (.ref 50), some (.int w), some (.int (nI i)), a2] [] υ := by
    intro e0
    refine zfor 61 (fun i hi ih => ?_)
    intro υ a2 ou zu hq
    have gu : zGd (zro υ 52) F P := by rw [zu]; exact zGd_Ys hg i
    refine zw_iload2 hB dX6_lost_29 ?_
    refine zw_bipush (x := nI 60) hB dX6_lost_30 (by decide) ?_
    refine zw_icmp_gtN (tgt := 77) hB dX6_lost_32 (by decide) (by omega) (by omega) (fun c32 => ?_) (fun c32 => ?_)
    · refine zw_bipush (x := -9) hB dX6_lost_77 (by decide) ?_
      refine zw_iret hB hR dX6_lost_79 rfl ?_
      have e9 : zLt (zro σ 51) F = none := by rw [hq]; exact zfst_e (N := 61) (by omega)
      refine zRQ.ok h e0 ?_ (by rw [ou 50 (by omega) (by omega) (by omega)]; exact ⟨rfl, rfl, rfl⟩) (fun c hc => ou c (by omega) (by omega) (by omega))
      rw [← hr0]; unfold zLf; rw [e9]; split <;> rfl
    · refine zw_aload0 hB dX6_lost_35 ?_
      refine zw_getfR hB dX6_lost_36 zf_X6_13 rfl rfl ?_
      refine zw_callS1 (M' := mX6_lostIn) hB dX6_lost_39 zl_X6_144 zg_X6_lostIn (s_X6_lostIn (c := 52) rfl gu) (fun v39 σ39 hq39 => ?_)
      obtain ⟨rfl, rfl⟩ := hq39
      rw [zu]
      refine zw_if_lt (tgt := 61) hB dX6_lost_42 (by decide) (fun c42 => ?_) (fun c42 => ?_)
      · refine zw_aload0 hB dX6_lost_61 ?_
        refine zw_aload0 hB dX6_lost_62 ?_
        refine zw_getfR hB dX6_lost_63 zf_X6_13 rfl rfl ?_
        refine zw_iconst (x := nI 0) hB dX6_lost_66 (by decide) ?_
        refine zw_callV2 (M' := mX6_year) hB dX6_lost_67 zl_X6_84 zg_X6_year (zRc.of rfl rfl rfl) (s_X6_year (c := 52) rfl (by omega) gu _) (fun v67 σ67 hq67 => ?_)
        obtain ⟨rfl, x1, x2, x3, x4⟩ := hq67
        rw [zYw_0 (z := nI 0) gu rfl] at x1
        have z2 : zro σ67 52 = zYs (zro σ 51) (i + 1) := by rw [x1, zu]; rfl
        have o2 : ∀ a, a ≠ 52 → a ≠ 55 → a ≠ 56 → σ67 a = σ a := fun a h1 h2 h3 => (x4 a h1 h2 h3).trans (ou a h1 h2 h3)
        refine zw_istore3 hB dX6_lost_70 rfl ?_
        refine zw_iinc2 hB dX6_lost_71 (by first | exact zinc _ | rfl) rfl ?_
        refine zw_goto (tgt := 29) hB dX6_lost_74 (by decide) ?_
        refine ih (by omega) _ _ o2 z2 ?_
        rw [hq, zfst_s (N := 61) (by omega), if_neg]
        intro z
        obtain ⟨q, eq⟩ := Option.isSome_iff_exists.mp z
        rw [eq] at c42
        have hqF := zfst_lt _ _ eq
        exact nI_pos (n := q) (by omega) c42
      · refine zw_iload1 hB dX6_lost_45 ?_
        refine zw_if_ne (tgt := 59) hB dX6_lost_46 (by decide) (fun c46 => ?_) (fun c46 => ?_)
        · refine zw_iload2 hB dX6_lost_59 ?_
          refine zw_iret hB hR dX6_lost_60 rfl ?_
          have e9 : zLt (zro σ 51) F = some i := by
            rw [hq, zfst_s (N := 61) (by omega), if_pos]
            cases ee : zfst (zbar (zYs (zro σ 51) i)) 0 F with
            | none => rw [ee] at c42; exact absurd (show zopt none < 0 by decide) (by first | exact c42 | exact Int32.not_lt.mpr c42)
            | some q => rfl
          refine zRQ.ok h e0 ?_ (by rw [ou 50 (by omega) (by omega) (by omega)]; exact ⟨rfl, rfl, rfl⟩) (fun c hc => ou c (by omega) (by omega) (by omega))
          rw [if_neg (show ¬ w = nI 0 from c46), ← hr0, e9]; rfl
        · refine zw_aload0 hB dX6_lost_49 ?_
          refine zw_getfR hB dX6_lost_50 zf_X6_13 rfl rfl ?_
          refine zw_callS1 (M' := mX6_lostIn) hB dX6_lost_53 zl_X6_144 zg_X6_lostIn (s_X6_lostIn (c := 52) rfl gu) (fun v53 σ53 hq53 => ?_)
          obtain ⟨rfl, rfl⟩ := hq53
          rw [zu]
          refine zw_goto (tgt := 60) hB dX6_lost_56 (by decide) ?_
          refine zw_iret hB hR dX6_lost_60 rfl ?_
          have e9 : zLt (zro σ 51) F = some i := by
            rw [hq, zfst_s (N := 61) (by omega), if_pos]
            cases ee : zfst (zbar (zYs (zro σ 51) i)) 0 F with
            | none => rw [ee] at c42; exact absurd (show zopt none < 0 by decide) (by first | exact c42 | exact Int32.not_lt.mpr c42)
            | some q => rfl
          refine zRQ.ok h e0 ?_ (by rw [ou 50 (by omega) (by omega) (by omega)]; exact ⟨rfl, rfl, rfl⟩) (fun c hc => ou c (by omega) (by omega) (by omega))
          rw [if_pos (show w = nI 0 from c46), ← hr0]; unfold zLf; rw [e9]; rfl
  refine zw_iload1 hB dX6_lost_0 ?_
  refine zw_iconst (x := nI 0) hB dX6_lost_1 (by decide) ?_
  refine zw_iconst (x := nI 1) hB dX6_lost_2 (by decide) ?_
  refine zw_callS3P (M' := mX6_isIn) hB dX6_lost_3 zl_X6_52 zg_X6_isIn (s_X6_isIn _ _ _) ?_
  refine zw_if_neB (tgt := 16) hB dX6_lost_6 (by decide) (fun c6 => ?_) (fun c6 => ?_)
  · refine zw_aload0 hB dX6_lost_16 ?_
    refine zw_getfR hB dX6_lost_17 zf_X6_9 rfl rfl ?_
    refine zw_aload0 hB dX6_lost_20 ?_
    refine zw_getfR hB dX6_lost_21 zf_X6_13 rfl rfl ?_
    refine zw_callS2 (M' := mX6_copies) hB dX6_lost_24 zl_X6_130 zg_X6_copies (s_X6_copies (c := 51) (d := 52) rfl rfl (by decide)) (fun v24 σ24 hq24 => ?_)
    obtain ⟨rfl, x1, x2⟩ := hq24
    refine zw_iconst (x := nI 0) hB dX6_lost_27 (by decide) ?_
    refine zw_istore2 hB dX6_lost_28 rfl ?_
    exact hl (zou_t (m := 1) (by omega) c6) 0 (by omega) σ24 _ (fun a h1 _ _ => x2 a h1) x1 rfl
  · refine zw_aload0 hB dX6_lost_9 ?_
    refine zw_bipush (x := -2) hB dX6_lost_10 (by decide) ?_
    refine zw_callV1 (M' := mX6_no) hB dX6_lost_12 zl_X6_48 zg_X6_no (zRc.of rfl rfl rfl) (s_X6_no (k := 2) _ (by decide) (by omega)) (fun v12 σ12 hq12 => ?_)
    obtain ⟨rfl, rfl⟩ := hq12
    refine zw_iret hB hR dX6_lost_15 rfl ?_
    rw [zou_f (m := 1) (by omega) c6]
    exact zRQ.no h (by decide) (by omega) (by decide)
