/-! THE REFERENCE'S CALLS: round -/
theorem s_X6_round {n : Nat} {σ : zSt} {S : zS} (hS : zOk S) (h : zRW S σ)  : zSem (n + 5) mX6_round [.ref 50] σ (zRQ (q_round S ) σ) := by
  obtain ⟨⟨⟨F, P, hg0⟩, y0, hy0, ey0⟩, hkp, hlt, hrw⟩ := id hS
  have hnF := hg0.nF
  have hnP := hg0.nP
  have hr0 := h.1
  have hg : zGd (zro σ 51) F P := by rw [hr0]; exact hg0
  have hF6 := hg.F6
  have hP6 := hg.P6
  have hF : σ 51 0 = nI F := (zro_k (by omega)).symm.trans hg.r0
  have hP : σ 51 1 = nI P := (zro_k (by omega)).symm.trans hg.r1
  unfold q_round
  try rw [hnF]
  try rw [hnP]
  refine zSem.of (by decide +kernel) (Nat.le_of_ble_eq_true rfl) (fun X hB hR => ?_)
  show zW X 0 [some (.ref 50), none, none] [] σ
  have hl : ∀ i, i ≤ 60 → ∀ (υ : zSt) (a2 : Option Value), (∀ a, a ≠ 52 → a ≠ 55 → a ≠ 56 → υ a = σ a) → zro υ 52 = zYs (zro σ 51) i → zRy (zro σ 51) P = zfst (fun n => zSeb (zYs (zro σ 51) n) (zro σ 51) P) (i + 1) (61 - (i + 1)) → zW X 13 [some (.ref 50), some (.int (nI (i + 1))), a2] [] υ := by
    refine zfor 60 (fun i hi ih => ?_)
    intro υ a2 ou zu hq
    have gu : zGd (zro υ 52) F P := by rw [zu]; exact zGd_Ys hg i
    refine zw_iload1 hB dX6_round_13 ?_
    refine zw_bipush (x := nI 60) hB dX6_round_14 (by decide) ?_
    refine zw_icmp_gtN (tgt := 44) hB dX6_round_16 (by decide) (by omega) (by omega) (fun c16 => ?_) (fun c16 => ?_)
    · refine zw_bipush (x := -9) hB dX6_round_44 (by decide) ?_
      refine zw_iret hB hR dX6_round_46 rfl ?_
      have e9 : zRy (zro σ 51) P = none := by rw [hq]; exact zfst_e (N := 61) (by omega)
      refine ⟨by rw [← hr0, e9]; rfl, h.keep (by rw [ou 50 (by omega) (by omega) (by omega)]; exact ⟨rfl, rfl, rfl⟩) (fun c hc => ou c (by omega) (by omega) (by omega)), fun c hc => ou c (by omega) (by omega) (by omega)⟩
    · refine zw_aload0 hB dX6_round_19 ?_
      refine zw_aload0 hB dX6_round_20 ?_
      refine zw_getfR hB dX6_round_21 zf_X6_13 rfl rfl ?_
      refine zw_iconst (x := nI 0) hB dX6_round_24 (by decide) ?_
      refine zw_callV2 (M' := mX6_year) hB dX6_round_25 zl_X6_84 zg_X6_year (zRc.of rfl rfl rfl) (s_X6_year (c := 52) rfl (by omega) gu _) (fun v25 σ25 hq25 => ?_)
      obtain ⟨rfl, x1, x2, x3, x4⟩ := hq25
      rw [zYw_0 (z := nI 0) gu rfl] at x1
      have z2 : zro σ25 52 = zYs (zro σ 51) (i + 1) := by rw [x1, zu]; rfl
      have r2 : zro σ25 51 = (zro σ 51) := (zro_congr (x4 51 (by omega) (by omega) (by omega))).trans (zro_congr (ou 51 (by omega) (by omega) (by omega)))
      have g2 : zGd (zro σ25 51) F P := by rw [r2]; exact hg
      have o2 : ∀ a, a ≠ 52 → a ≠ 55 → a ≠ 56 → σ25 a = σ a := fun a h1 h2 h3 => (x4 a h1 h2 h3).trans (ou a h1 h2 h3)
      refine zw_istore2 hB dX6_round_28 rfl ?_
      refine zw_aload0 hB dX6_round_29 ?_
      refine zw_callV0 (M' := mX6_areWhereTheyAre) hB dX6_round_30 zl_X6_162 zg_X6_areWhereTheyAre (zRc.of rfl rfl rfl) (s_X6_areWhereTheyAre g2) (fun v30 σ30 hq30 => ?_)
      obtain ⟨x, hx, rfl, rfl⟩ := hq30
      rw [z2, r2] at hx
      refine zw_if_eq (tgt := 38) hB dX6_round_33 (by decide) (fun c33 => ?_) (fun c33 => ?_)
      · refine zw_iinc1 hB dX6_round_38 (by first | exact zinc _ | rfl) rfl ?_
        refine zw_goto (tgt := 13) hB dX6_round_41 (by decide) ?_
        refine ih (by omega) _ _ o2 z2 ?_
        rw [hq, zfst_s (N := 61) (by omega), if_neg]
        rcases hx with ⟨e, _⟩ | ⟨_, e⟩
        · exact absurd (e.symm.trans c33) (by decide)
        · exact zSeb_f e
      · refine zw_iload1 hB dX6_round_36 ?_
        refine zw_iret hB hR dX6_round_37 rfl ?_
        have e9 : zRy (zro σ 51) P = some (i + 1) := by
          rw [hq, zfst_s (N := 61) (by omega), if_pos]
          rcases hx with ⟨_, e⟩ | ⟨e, _⟩
          · exact zSeb_t e
          · exact absurd e c33
        refine ⟨by rw [← hr0, e9]; rfl, h.keep (by rw [o2 50 (by omega) (by omega) (by omega)]; exact ⟨rfl, rfl, rfl⟩) (fun c hc => o2 c (by omega) (by omega) (by omega)), fun c hc => o2 c (by omega) (by omega) (by omega)⟩
  refine zw_aload0 hB dX6_round_0 ?_
  refine zw_getfR hB dX6_round_1 zf_X6_9 rfl rfl ?_
  refine zw_aload0 hB dX6_round_4 ?_
  refine zw_getfR hB dX6_round_5 zf_X6_13 rfl rfl ?_
  refine zw_callS2 (M' := mX6_copies) hB dX6_round_8 zl_X6_130 zg_X6_copies (s_X6_copies (c := 51) (d := 52) rfl rfl (by decide)) (fun v8 σ8 hq8 => ?_)
  obtain ⟨rfl, x1, x2⟩ := hq8
  refine zw_iconst (x := nI 1) hB dX6_round_11 (by decide) ?_
  refine zw_istore1 hB dX6_round_12 rfl ?_
  exact hl 0 (by omega) σ8 _ (fun a h1 _ _ => x2 a h1) x1 rfl
