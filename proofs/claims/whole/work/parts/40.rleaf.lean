/-! THE REFERENCE: what is lost -/
theorem s_X6_lostIn {n : Nat} {σ : zSt} {c F P : Nat} (hc : zLY[c]? = some (.inl 47)) (hg : zGd (zro σ c) F P) : zSem (n + 2) mX6_lostIn [.ref c] σ (zP σ (.int (zopt (zfst (zbar (zro σ c)) 0 F)))) := by
  have hF6 := hg.F6
  have hF : σ c 0 = nI F := (zro_k (by omega)).symm.trans hg.r0
  refine zSem.of (by decide +kernel) (Nat.le_of_ble_eq_true rfl) (fun X hB hR => ?_)
  show zW X 0 [some (.ref c), none, none] [] σ
  have hl : ∀ i, i ≤ F → ∀ a2 : Option Value, zfst (zbar (zro σ c)) 0 F = zfst (zbar (zro σ c)) i (F - i) → zW X 2 [some (.ref c), some (.int (nI i)), a2] [] σ := by
    refine zfor F (fun i hi ih => ?_)
    intro a2 hq
    have hin : i < F → ∀ j, j ≤ 3 → (∀ k, k < j → ¬ (zro σ c) (5 + 3 * i + k) = 0) → zW X 11 [some (.ref c), some (.int (nI i)), some (.int (nI j))] [] σ := by
      intro hiF
      refine zfor 3 (fun j hj ihj => ?_)
      intro hh
      refine zw_iload2 hB dX6_lostIn_11 ?_
      refine zw_iconst (x := nI 3) hB dX6_lostIn_12 (by decide) ?_
      refine zw_icmp_geN (tgt := 34) hB dX6_lostIn_13 (by decide) (by omega) (by omega) (fun c13 => ?_) (fun c13 => ?_)
      · refine zw_iinc1 hB dX6_lostIn_34 (by first | exact zinc _ | rfl) rfl ?_
        refine zw_goto (tgt := 2) hB dX6_lostIn_37 (by decide) ?_
        refine ih hiF _ ?_
        rw [hq, zfst_s hiF, if_neg]
        unfold zbar
        rw [decide_eq_true_eq]
        rintro (z | z | z)
        · exact hh 0 (by omega) z
        · exact hh 1 (by omega) z
        · exact hh 2 (by omega) z
      · refine zw_aload0 hB dX6_lostIn_16 ?_
        refine zw_iload1 hB dX6_lostIn_17 ?_
        refine zw_iload2 hB dX6_lostIn_18 ?_
        refine zw_callS2P (M' := mX6_heart) hB dX6_lostIn_19 zl_X6_60 zg_X6_heart (s_X6_heart) ?_
        refine zw_ialdV (x := (zro σ c) (5 + 3 * i + j)) hB dX6_lostIn_22 hc (by omega) (by decide) ((zro_k (by omega)).symm) ?_
        refine zw_if_ne (tgt := 28) hB dX6_lostIn_23 (by decide) (fun c23 => ?_) (fun c23 => ?_)
        · refine zw_iinc2 hB dX6_lostIn_28 (by first | exact zinc _ | rfl) rfl ?_
          refine zw_goto (tgt := 11) hB dX6_lostIn_31 (by decide) ?_
          refine ihj (by omega) (fun k hk => ?_)
          by_cases e : k = j
          · subst e; exact c23
          · exact hh k (by omega)
        · refine zw_iload1 hB dX6_lostIn_26 ?_
          refine zw_iret hB hR dX6_lostIn_27 rfl ?_
          have hb : zbar (zro σ c) i = true := by
            unfold zbar
            rw [decide_eq_true_eq]
            have j3 : j = 0 ∨ j = 1 ∨ j = 2 := by omega
            rcases j3 with rfl | rfl | rfl
            · exact Or.inl c23
            · exact Or.inr (Or.inl c23)
            · exact Or.inr (Or.inr c23)
          exact ⟨by rw [hq, zfst_s hiF, if_pos hb]; rfl, rfl⟩
    refine zw_iload1 hB dX6_lostIn_2 ?_
    refine zw_aload0 hB dX6_lostIn_3 ?_
    refine zw_iconst (x := nI 0) hB dX6_lostIn_4 (by decide) ?_
    refine zw_ialdV (x := nI F) hB dX6_lostIn_5 hc (by omega) (by decide) (hF) ?_
    refine zw_icmp_geN (tgt := 40) hB dX6_lostIn_6 (by decide) (by omega) (by omega) (fun c6 => ?_) (fun c6 => ?_)
    · refine zw_bipush (x := -9) hB dX6_lostIn_40 (by decide) ?_
      refine zw_iret hB hR dX6_lostIn_42 rfl ?_
      exact ⟨by rw [hq, zfst_e (by omega)]; rfl, rfl⟩
    · refine zw_iconst (x := nI 0) hB dX6_lostIn_9 (by decide) ?_
      refine zw_istore2 hB dX6_lostIn_10 rfl ?_
      exact hin c6 0 (by omega) (fun k hk => absurd hk (by omega))
  refine zw_iconst (x := nI 0) hB dX6_lostIn_0 (by decide) ?_
  refine zw_istore1 hB dX6_lostIn_1 rfl ?_
  exact hl 0 (by omega) _ rfl
