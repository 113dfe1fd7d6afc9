/-! THE REFERENCE: are they where they are, are they alike -/
theorem s_X6_areWhereTheyAre {n : Nat} {σ : zSt} {F P : Nat} (hg : zGd (zro σ 51) F P) : zSem (n + 2) mX6_areWhereTheyAre [.ref 50] σ (fun v τ => ∃ x : Int32, ((x = 1 ∧ zSe (zro σ 52) (zro σ 51) P) ∨ (x = 0 ∧ ¬ zSe (zro σ 52) (zro σ 51) P)) ∧ v = some (.int x) ∧ τ = σ) := by
  have hF6 := hg.F6
  have hP6 := hg.P6
  have hP : σ 51 1 = nI P := (zro_k (by omega)).symm.trans hg.r1
  refine zSem.of (by decide +kernel) (Nat.le_of_ble_eq_true rfl) (fun X hB hR => ?_)
  show zW X 0 [some (.ref 50), none] [] σ
  have hl : ∀ i, i ≤ P → (∀ p, p < i → zat (zro σ 52) p = zat (zro σ 51) p) → zW X 2 [some (.ref 50), some (.int (nI i))] [] σ := by
    refine zfor P (fun i hi ih => ?_)
    intro hh
    refine zw_iload1 hB dX6_areWhereTheyAre_2 ?_
    refine zw_aload0 hB dX6_areWhereTheyAre_3 ?_
    refine zw_getfR hB dX6_areWhereTheyAre_4 zf_X6_9 rfl rfl ?_
    refine zw_iconst (x := nI 1) hB dX6_areWhereTheyAre_7 (by decide) ?_
    refine zw_ialdV (x := nI P) hB dX6_areWhereTheyAre_8 rfl (by omega) (by decide) (hP) ?_
    refine zw_icmp_geN (tgt := 43) hB dX6_areWhereTheyAre_9 (by decide) (by omega) (by omega) (fun c9 => ?_) (fun c9 => ?_)
    · refine zw_iconst (x := nI 1) hB dX6_areWhereTheyAre_43 (by decide) ?_
      refine zw_zret hB hR dX6_areWhereTheyAre_44 rfl (by decide) ?_
      exact ⟨_, Or.inl ⟨rfl, fun p hp => hh p (by omega)⟩, rfl, rfl⟩
    · refine zw_aload0 hB dX6_areWhereTheyAre_12 ?_
      refine zw_getfR hB dX6_areWhereTheyAre_13 zf_X6_13 rfl rfl ?_
      refine zw_iload1 hB dX6_areWhereTheyAre_16 ?_
      refine zw_iconst (x := nI 3) hB dX6_areWhereTheyAre_17 (by decide) ?_
      refine zw_callS2P (M' := mX6_of) hB dX6_areWhereTheyAre_18 zl_X6_56 zg_X6_of (s_X6_of) ?_
      refine zw_ialdV (x := zat (zro σ 52) i) hB dX6_areWhereTheyAre_21 rfl (by omega) (by decide) (zro_at (by omega)) ?_
      refine zw_aload0 hB dX6_areWhereTheyAre_22 ?_
      refine zw_getfR hB dX6_areWhereTheyAre_23 zf_X6_9 rfl rfl ?_
      refine zw_iload1 hB dX6_areWhereTheyAre_26 ?_
      refine zw_iconst (x := nI 3) hB dX6_areWhereTheyAre_27 (by decide) ?_
      refine zw_callS2P (M' := mX6_of) hB dX6_areWhereTheyAre_28 zl_X6_56 zg_X6_of (s_X6_of) ?_
      refine zw_ialdV (x := zat (zro σ 51) i) hB dX6_areWhereTheyAre_31 rfl (by omega) (by decide) (zro_at (by omega)) ?_
      refine zw_icmp_eq (tgt := 37) hB dX6_areWhereTheyAre_32 (by decide) (fun c32 => ?_) (fun c32 => ?_)
      · refine zw_iinc1 hB dX6_areWhereTheyAre_37 (by first | exact zinc _ | rfl) rfl ?_
        refine zw_goto (tgt := 2) hB dX6_areWhereTheyAre_40 (by decide) ?_
        refine ih c9 (fun p hp => ?_)
        by_cases e : p = i
        · subst e; exact c32
        · exact hh p (by omega)
      · refine zw_iconst (x := nI 0) hB dX6_areWhereTheyAre_35 (by decide) ?_
        refine zw_zret hB hR dX6_areWhereTheyAre_36 rfl (by decide) ?_
        exact ⟨_, Or.inr ⟨rfl, fun z => c32 (z i c9)⟩, rfl, rfl⟩
  refine zw_iconst (x := nI 0) hB dX6_areWhereTheyAre_0 (by decide) ?_
  refine zw_istore1 hB dX6_areWhereTheyAre_1 rfl ?_
  exact hl 0 (by omega) (fun p hp => absurd hp (by omega))
