/-! THE REFERENCE: are they alike -/
def zFa (r s : zRw) (P : Nat) : Prop := (∀ i, i < 18 → r (5 + i) = s (5 + i)) ∧ ∀ p, p < P → ztd r p = ztd s p
theorem s_X6_areAlike {n : Nat} {σ : zSt} {c d F P : Nat} (hc : zLY[c]? = some (.inl 47)) (hd : zLY[d]? = some (.inl 47)) (hg : zGd (zro σ c) F P) : zSem (n + 2) mX6_areAlike [.ref c, .ref d] σ (fun v τ => ∃ x : Int32, ((x = 1 ∧ zFa (zro σ c) (zro σ d) P) ∨ (x = 0 ∧ ¬ zFa (zro σ c) (zro σ d) P)) ∧ v = some (.int x) ∧ τ = σ) := by
  have hF6 := hg.F6
  have hP6 := hg.P6
  have hP : σ c 1 = nI P := (zro_k (by omega)).symm.trans hg.r1
  refine zSem.of (by decide +kernel) (Nat.le_of_ble_eq_true rfl) (fun X hB hR => ?_)
  show zW X 0 [some (.ref c), some (.ref d), none] [] σ
  have hl2 : ∀ i, i ≤ P → (∀ k, k < 18 → zro σ c (5 + k) = zro σ d (5 + k)) → (∀ p, p < i → ztd (zro σ c) p = ztd (zro σ d) p) → zW X 27 [some (.ref c), some (.ref d), some (.int (nI i))] [] σ := by
    refine zfor P (fun i hi ih => ?_)
    intro hh ht
    refine zw_iload2 hB dX6_areAlike_27 ?_
    refine zw_aload0 hB dX6_areAlike_28 ?_
    refine zw_iconst (x := nI 1) hB dX6_areAlike_29 (by decide) ?_
    refine zw_ialdV (x := nI P) hB dX6_areAlike_30 hc (by omega) (by decide) (hP) ?_
    refine zw_icmp_geN (tgt := 59) hB dX6_areAlike_31 (by decide) (by omega) (by omega) (fun c31 => ?_) (fun c31 => ?_)
    · refine zw_iconst (x := nI 1) hB dX6_areAlike_59 (by decide) ?_
      refine zw_zret hB hR dX6_areAlike_60 rfl (by decide) ?_
      exact ⟨_, Or.inl ⟨rfl, hh, fun p hp => ht p (by omega)⟩, rfl, rfl⟩
    · refine zw_aload0 hB dX6_areAlike_34 ?_
      refine zw_iload2 hB dX6_areAlike_35 ?_
      refine zw_iconst (x := nI 2) hB dX6_areAlike_36 (by decide) ?_
      refine zw_callS2P (M' := mX6_of) hB dX6_areAlike_37 zl_X6_56 zg_X6_of (s_X6_of) ?_
      refine zw_ialdV (x := ztd (zro σ c) i) hB dX6_areAlike_40 hc (by omega) (by decide) (zro_td (by omega)) ?_
      refine zw_aload1 hB dX6_areAlike_41 ?_
      refine zw_iload2 hB dX6_areAlike_42 ?_
      refine zw_iconst (x := nI 2) hB dX6_areAlike_43 (by decide) ?_
      refine zw_callS2P (M' := mX6_of) hB dX6_areAlike_44 zl_X6_56 zg_X6_of (s_X6_of) ?_
      refine zw_ialdV (x := ztd (zro σ d) i) hB dX6_areAlike_47 hd (by omega) (by decide) (zro_td (by omega)) ?_
      refine zw_icmp_eq (tgt := 53) hB dX6_areAlike_48 (by decide) (fun c48 => ?_) (fun c48 => ?_)
      · refine zw_iinc2 hB dX6_areAlike_53 (by first | exact zinc _ | rfl) rfl ?_
        refine zw_goto (tgt := 27) hB dX6_areAlike_56 (by decide) ?_
        refine ih c31 hh (fun p hp => ?_)
        by_cases e : p = i
        · subst e; exact c48
        · exact ht p (by omega)
      · refine zw_iconst (x := nI 0) hB dX6_areAlike_51 (by decide) ?_
        refine zw_zret hB hR dX6_areAlike_52 rfl (by decide) ?_
        exact ⟨_, Or.inr ⟨rfl, fun z => c48 (z.2 i c31)⟩, rfl, rfl⟩
  have hl1 : ∀ i, i ≤ 18 → (∀ k, k < i → zro σ c (5 + k) = zro σ d (5 + k)) → zW X 2 [some (.ref c), some (.ref d), some (.int (nI (5 + i)))] [] σ := by
    refine zfor 18 (fun i hi ih => ?_)
    intro hh
    refine zw_iload2 hB dX6_areAlike_2 ?_
    refine zw_bipush (x := nI 23) hB dX6_areAlike_3 (by decide) ?_
    refine zw_icmp_geN (tgt := 25) hB dX6_areAlike_5 (by decide) (by omega) (by omega) (fun c5 => ?_) (fun c5 => ?_)
    · refine zw_iconst (x := nI 0) hB dX6_areAlike_25 (by decide) ?_
      refine zw_istore2 hB dX6_areAlike_26 rfl ?_
      exact hl2 0 (by omega) (fun k hk => hh k (by omega)) (fun p hp => absurd hp (by omega))
    · refine zw_aload0 hB dX6_areAlike_8 ?_
      refine zw_iload2 hB dX6_areAlike_9 ?_
      refine zw_ialdV (x := zro σ c (5 + i)) hB dX6_areAlike_10 hc (by omega) (by decide) ((zro_k (by omega)).symm) ?_
      refine zw_aload1 hB dX6_areAlike_11 ?_
      refine zw_iload2 hB dX6_areAlike_12 ?_
      refine zw_ialdV (x := zro σ d (5 + i)) hB dX6_areAlike_13 hd (by omega) (by decide) ((zro_k (by omega)).symm) ?_
      refine zw_icmp_eq (tgt := 19) hB dX6_areAlike_14 (by decide) (fun c14 => ?_) (fun c14 => ?_)
      · refine zw_iinc2 hB dX6_areAlike_19 (by first | exact zinc _ | rfl) rfl ?_
        refine zw_goto (tgt := 2) hB dX6_areAlike_22 (by decide) ?_
        refine ih (by omega) (fun p hp => ?_)
        by_cases e : p = i
        · subst e; exact c14
        · exact hh p (by omega)
      · refine zw_iconst (x := nI 0) hB dX6_areAlike_17 (by decide) ?_
        refine zw_zret hB hR dX6_areAlike_18 rfl (by decide) ?_
        exact ⟨_, Or.inr ⟨rfl, fun z => c14 (z.1 i (by omega))⟩, rfl, rfl⟩
  refine zw_iconst (x := nI 5) hB dX6_areAlike_0 (by decide) ?_
  refine zw_istore2 hB dX6_areAlike_1 rfl ?_
  exact hl1 0 (by omega) (fun p hp => absurd hp (by omega))
