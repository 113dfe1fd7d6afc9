/-! LAND: free farms, moving, a year, years -/
/-- the bits of the free farms -/
def zfm (r : zRw) (F : Nat) : Int32 := zset (fun f => zfr r f) F
theorem b_not (x : Int32) {j : Nat} (hj : j < 32) : bt (x ^^^ -1) j = !bt x j := by
  rw [b_xor, b_m1 j hj]
  cases bt x j <;> rfl
theorem zfm_of {r : zRw} {F P : Nat} (hg : zGd r F P) {x : Int32} (hx : ∀ j, j < 32 → bt x j = (decide (j < F) && decide (∀ q, q < P → zat r q ≠ nI j))) : x = zfm r F := by
  have := hg.F6
  refine b_ext (fun j hj => ?_)
  rw [hx j hj, zfm, zset_b (by omega) hj, zfr, hg.nP]
theorem s_X1_freeFarms {n : Nat} {σ : zSt} {b F P : Nat} (hb : zLd b) (hg : zGd (zrow σ b) F P) : zSem n mX1_freeFarms [.ref b] σ (zP σ (.int (zfm (zrow σ b) F))) := by
  have hF6 := hg.F6
  have hP6 := hg.P6
  have hF : σ b 0 = nI F := hg.r0
  have hP : σ b 1 = nI P := hg.r1
  refine zSem.of (by decide +kernel) (Nat.le_of_ble_eq_true rfl) (fun X hB hR => ?_)
  show zW X 0 [some (.ref b), none, none] [] σ
  have hl : ∀ i, i ≤ P → ∀ x : Int32, (∀ j, j < 32 → bt x j = (decide (j < F) && decide (∀ q, q < i → zat (zrow σ b) q ≠ nI j))) → zW X 11 [some (.ref b), some (.int x), some (.int (nI i))] [] σ := by
    refine zfor P (fun i hi ih => ?_)
    intro x hx
    refine zw_iload2 hB dX1_freeFarms_11 ?_
    refine zw_aload0 hB dX1_freeFarms_12 ?_
    refine zw_getfV (x := nI P) hB dX1_freeFarms_13 zf_X1_40 hb.1 rfl (hP) ?_
    refine zw_icmp_geN (tgt := 49) hB dX1_freeFarms_16 (by decide) (by omega) (by omega) (fun c16 => ?_) (fun c16 => ?_)
    · refine zw_iload1 hB dX1_freeFarms_49 ?_
      refine zw_iret hB hR dX1_freeFarms_50 rfl ?_
      exact ⟨by rw [zfm_of hg (x := x) (fun j hj => by rw [hx j hj, show i = P by omega])], rfl⟩
    · refine zw_aload0 hB dX1_freeFarms_19 ?_
      refine zw_getfR hB dX1_freeFarms_20 zf_X1_31 hb.1 rfl ?_
      refine zw_iload2 hB dX1_freeFarms_23 ?_
      refine zw_ialdV (x := zat (zrow σ b) i) hB dX1_freeFarms_24 hb.2.2.2.2.2.2.1 (by omega) (by decide) (zrow_at (by omega)) ?_
      refine zw_bipush (x := -9) hB dX1_freeFarms_25 (by decide) ?_
      refine zw_icmp_eq (tgt := 43) hB dX1_freeFarms_27 (by decide) (fun c27 => ?_) (fun c27 => ?_)
      · refine zw_iinc2 hB dX1_freeFarms_43 (by first | exact zinc _ | rfl) rfl ?_
        refine zw_goto (tgt := 11) hB dX1_freeFarms_46 (by decide) ?_
        refine ih c16 _ (fun j hj => ?_)
        rw [hx j hj]
        have e : (∀ q, q < i + 1 → zat (zrow σ b) q ≠ nI j) ↔ (∀ q, q < i → zat (zrow σ b) q ≠ nI j) := by
          refine ⟨fun h q hq => h q (by omega), fun h q hq => ?_⟩
          by_cases z : q = i
          · subst z; rw [c27]; exact nI_9n (by omega)
          · exact h q (by omega)
        simp only [e]
      · have hs : zat (zrow σ b) i = nI (zsf (zrow σ b) i) ∧ zsf (zrow σ b) i < F := by
          rcases hg.seat (show i < P by omega) with ⟨e, -⟩ | ⟨e, e2, -⟩
          · exact absurd e c27
          · exact ⟨e, e2⟩
        refine zw_iload1 hB dX1_freeFarms_30 ?_
        refine zw_iconst (x := nI 1) hB dX1_freeFarms_31 (by decide) ?_
        refine zw_aload0 hB dX1_freeFarms_32 ?_
        refine zw_getfR hB dX1_freeFarms_33 zf_X1_31 hb.1 rfl ?_
        refine zw_iload2 hB dX1_freeFarms_36 ?_
        refine zw_ialdV (x := nI (zsf (zrow σ b) i)) hB dX1_freeFarms_37 hb.2.2.2.2.2.2.1 (by omega) (by decide) ((zrow_at (by omega)).trans hs.1) ?_
        refine zw_ishl hB dX1_freeFarms_38 ?_
        refine zw_iconst (x := -1) hB dX1_freeFarms_39 (by decide) ?_
        refine zw_ixor hB dX1_freeFarms_40 ?_
        refine zw_iand hB dX1_freeFarms_41 ?_
        refine zw_istore1 hB dX1_freeFarms_42 rfl ?_
        refine zw_iinc2 hB dX1_freeFarms_43 (by first | exact zinc _ | rfl) rfl ?_
        refine zw_goto (tgt := 11) hB dX1_freeFarms_46 (by decide) ?_
        refine ih c16 _ (fun j hj => ?_)
        rw [b_and, hx j hj, b_not _ hj, b_bit (by omega) hj]
        have e : (∀ q, q < i + 1 → zat (zrow σ b) q ≠ nI j) ↔ ((∀ q, q < i → zat (zrow σ b) q ≠ nI j) ∧ ¬ j = zsf (zrow σ b) i) := by
          constructor
          · intro h
            refine ⟨fun q hq => h q (by omega), fun z => h i (by omega) ?_⟩
            rw [hs.1, z]
          · rintro ⟨h1, h2⟩ q hq
            by_cases z : q = i
            · subst z
              rw [hs.1]
              intro z2
              exact h2 ((nI_eq (by omega) (by omega)).mp z2).symm
            · exact h1 q (by omega)
        simp only [e, Bool.decide_and, decide_not, Bool.and_assoc]
  refine zw_iconst (x := nI 1) hB dX1_freeFarms_0 (by decide) ?_
  refine zw_aload0 hB dX1_freeFarms_1 ?_
  refine zw_getfV (x := nI F) hB dX1_freeFarms_2 zf_X1_37 hb.1 rfl (hF) ?_
  refine zw_ishl hB dX1_freeFarms_5 ?_
  refine zw_iconst (x := nI 1) hB dX1_freeFarms_6 (by decide) ?_
  refine zw_isub hB dX1_freeFarms_7 ?_
  refine zw_istore1 hB dX1_freeFarms_8 rfl ?_
  refine zw_iconst (x := nI 0) hB dX1_freeFarms_9 (by decide) ?_
  refine zw_istore2 hB dX1_freeFarms_10 rfl ?_
  exact hl 0 (by omega) _ (fun j hj => by rw [b_low F (by omega) j hj]; simp)
theorem zMv_row {σ : zSt} {b F P : Nat} (hg : zGd (zrow σ b) F P) {f : Nat → Int32} (h1 : ∀ q, q < P → f q = zmv (zrow σ b) q) (h2 : ∀ q, P ≤ q → f q = σ (b + 6) q) : zrow (zC σ (b + 6) f) b = zMv (zrow σ b) := by
  have hP := hg.P6
  rw [zrow_seta]
  refine zrow_ext (fun k hk => ?_) (fun k hk => ?_) (fun p hp => ?_) (fun p hp => ?_) (fun p hp => ?_) (fun p hp => ?_) (fun k hk => ?_)
  · rw [if_neg (by omega), zMv_o hg (by omega)]
  · rw [if_neg (by omega), zMv_o hg (by omega)]
  · rw [if_neg (by omega), zMv_o hg (by omega)]
  · rw [if_neg (by omega), zMv_o hg (by omega)]
  · rw [if_neg (by omega), zMv_o hg (by omega)]
  · rw [if_pos (by omega), show (26 + 4 * p - 26) / 4 = p by omega]
    by_cases c : p < P
    · rw [h1 p c]; exact (zMv_at hg c).symm
    · rw [h2 p (by omega), zMv_o hg (by omega)]; exact zrow_at hp
  · rw [if_neg (by omega), zMv_o hg (by omega)]
theorem s_X1_moveOn {n : Nat} {σ : zSt} {b F P : Nat} (hb : zLd b) (hg : zGd (zrow σ b) F P) : zSem n mX1_moveOn [.ref b] σ (fun v τ => v = none ∧ zrow τ b = zMv (zrow σ b) ∧ ∀ c, c ≠ b + 6 → τ c = σ c) := by
  have hF6 := hg.F6
  have hP6 := hg.P6
  have hF : σ b 0 = nI F := hg.r0
  have hP : σ b 1 = nI P := hg.r1
  refine zSem.of (by decide +kernel) (Nat.le_of_ble_eq_true rfl) (fun X hB hR => ?_)
  show zW X 0 [some (.ref b), none] [] σ
  have hl : ∀ i, i ≤ P → ∀ f : Nat → Int32, (∀ q, q < i → f q = zmv (zrow σ b) q) → (∀ q, i ≤ q → f q = σ (b + 6) q) → zW X 2 [some (.ref b), some (.int (nI i))] [] (zC σ (b + 6) f) := by
    refine zfor P (fun i hi ih => ?_)
    intro f hf1 hf2
    refine zw_iload1 hB dX1_moveOn_2 ?_
    refine zw_aload0 hB dX1_moveOn_3 ?_
    refine zw_getfV (x := nI P) hB dX1_moveOn_4 zf_X1_40 hb.1 rfl ((congrFun (zC_n (by omega)) 1).trans hP) ?_
    refine zw_icmp_geN (tgt := 56) hB dX1_moveOn_7 (by decide) (by omega) (by omega) (fun c7 => ?_) (fun c7 => ?_)
    · refine zw_vret hB hR dX1_moveOn_56 rfl ?_
      exact ⟨rfl, zMv_row hg (fun q hq => hf1 q (by omega)) (fun q hq => hf2 q (by omega)), fun c hc => zC_n hc⟩
    · have hs : (zat (zrow σ b) i = -9 ∧ zmv (zrow σ b) i = -9) ∨ ∃ t, t ≤ 5 ∧ (zrow σ b) 2 = nI t ∧ zat (zrow σ b) i = nI (zsf (zrow σ b) i) ∧ zsf (zrow σ b) i < F ∧ zmv (zrow σ b) i = nI ((zsf (zrow σ b) i + t) % F) := zmv_n hg (by omega)
      refine zw_aload0 hB dX1_moveOn_10 ?_
      refine zw_getfR hB dX1_moveOn_11 zf_X1_31 hb.1 rfl ?_
      refine zw_iload1 hB dX1_moveOn_14 ?_
      refine zw_ialdV (x := zat (zrow σ b) i) hB dX1_moveOn_15 hb.2.2.2.2.2.2.1 (by omega) (by decide) ((congrFun zC_s i).trans ((hf2 i (Nat.le_refl _)).trans (zrow_at (by omega)))) ?_
      refine zw_bipush (x := -9) hB dX1_moveOn_16 (by decide) ?_
      refine zw_icmp_eq (tgt := 50) hB dX1_moveOn_18 (by decide) (fun c18 => ?_) (fun c18 => ?_)
      · refine zw_iinc1 hB dX1_moveOn_50 (by first | exact zinc _ | rfl) rfl ?_
        refine zw_goto (tgt := 2) hB dX1_moveOn_53 (by decide) ?_
        refine ih c7 f (fun q hq => ?_) (fun q hq => hf2 q (by omega))
        by_cases z : q = i
        · subst z
          rw [hf2 q (by omega)]
          rcases hs with ⟨e, e2⟩ | ⟨t, ht, et, ea, hf, em⟩
          · rw [e2, ← e]; exact zrow_at (by omega)
          · exact absurd (ea.symm.trans c18) (nI_n9 (by omega))
        · exact hf1 q (by omega)
      · obtain ⟨t, ht, et, ea, hf, em⟩ : ∃ t, t ≤ 5 ∧ (zrow σ b) 2 = nI t ∧ zat (zrow σ b) i = nI (zsf (zrow σ b) i) ∧ zsf (zrow σ b) i < F ∧ zmv (zrow σ b) i = nI ((zsf (zrow σ b) i + t) % F) := by
          rcases hs with ⟨e, -⟩ | h
          · exact absurd e c18
          · exact h
        refine zw_aload0 hB dX1_moveOn_21 ?_
        refine zw_getfV (x := nI F) hB dX1_moveOn_22 zf_X1_37 hb.1 rfl ((congrFun (zC_n (by omega)) 0).trans hF) ?_
        refine zw_if_le (tgt := 50) hB dX1_moveOn_25 (by decide) (fun c25 => by first | exact absurd c25 (nI_nle (by omega) (by omega)) | exact absurd (nI_nle (by omega) (by omega)) c25 | omega) (fun c25 => ?_)
        refine zw_aload0 hB dX1_moveOn_28 ?_
        refine zw_getfR hB dX1_moveOn_29 zf_X1_31 hb.1 rfl ?_
        refine zw_iload1 hB dX1_moveOn_32 ?_
        refine zw_aload0 hB dX1_moveOn_33 ?_
        refine zw_getfR hB dX1_moveOn_34 zf_X1_31 hb.1 rfl ?_
        refine zw_iload1 hB dX1_moveOn_37 ?_
        refine zw_ialdV (x := nI (zsf (zrow σ b) i)) hB dX1_moveOn_38 hb.2.2.2.2.2.2.1 (by omega) (by decide) ((congrFun zC_s i).trans ((hf2 i (Nat.le_refl _)).trans ((zrow_at (by omega)).trans ea))) ?_
        refine zw_aload0 hB dX1_moveOn_39 ?_
        refine zw_getfV (x := nI t) hB dX1_moveOn_40 zf_X1_9 hb.1 rfl ((congrFun (zC_n (by omega)) 2).trans et) ?_
        refine zw_iaddN hB dX1_moveOn_43 ?_
        refine zw_aload0 hB dX1_moveOn_44 ?_
        refine zw_getfV (x := nI F) hB dX1_moveOn_45 zf_X1_37 hb.1 rfl ((congrFun (zC_n (by omega)) 0).trans hF) ?_
        refine zw_iremN hB dX1_moveOn_48 (by omega) (by omega) (by omega) ?_
        refine zw_iastN hB dX1_moveOn_49 hb.2.2.2.2.2.2.1 (by omega) (by decide) ?_
        refine zw_iinc1 hB dX1_moveOn_50 (by first | exact zinc _ | rfl) rfl ?_
        refine zw_goto (tgt := 2) hB dX1_moveOn_53 (by decide) ?_
        rw [zC_C, zC_s]
        refine ih c7 _ (fun q hq => ?_) (fun q hq => ?_)
        · by_cases z : q = i
          · subst z; rw [zupd_s, em]
          · rw [zupd_o z]; exact hf1 q (by omega)
        · rw [zupd_o (by omega)]; exact hf2 q (by omega)
  refine zw_iconst (x := nI 0) hB dX1_moveOn_0 (by decide) ?_
  refine zw_istore1 hB dX1_moveOn_1 rfl ?_
  have e0 : zC σ (b + 6) (σ (b + 6)) = σ := by
    funext a
    by_cases h : a = b + 6
    · subst h; exact zC_s
    · exact zC_n h
  have h9 := hl 0 (by omega) (σ (b + 6)) (fun q hq => absurd hq (by omega)) (fun q _ => rfl)
  rw [e0] at h9
  exact h9 -- 0 (by omega) (σ (b + 6)) (fun q hq => absurd hq (by omega)) (fun q _ => rfl)
