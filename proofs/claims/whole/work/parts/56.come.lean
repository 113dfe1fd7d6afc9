/-! LETTERS: the class's second pass -/
/-- a statement came over land 17: what it left -/
def zCm (x : Option zRw) (σ : zSt) : Option Value → zSt → Prop := fun v τ => v = some (.int (zb (x.isSome = true))) ∧ (∀ r, x = some r → zrow τ 17 = r) ∧ zOut 17 σ τ
theorem zCm_t {c : Prop} [Decidable c] {r : zRw} {σ τ : zSt} (h : c) (hr : zrow τ 17 = r) (ho : zOut 17 σ τ) : zCm (if c then some r else none) σ (some (.int (nI 1))) τ := by
  rw [if_pos h]
  exact ⟨by rw [zb_t (show (some r).isSome = true from rfl)]; rfl, fun r' e => (by cases e; exact hr), ho⟩
theorem zCm_f {c : Prop} [Decidable c] {r : zRw} {σ τ : zSt} (h : ¬ c) (ho : zOut 17 σ τ) : zCm (if c then some r else none) σ (some (.int (nI 0))) τ := by
  rw [if_neg h]
  exact ⟨by rw [zb_f (show ¬ (none : Option zRw).isSome = true by decide)]; rfl, fun r' e => (by cases e), ho⟩
theorem zIn_lt {j N : Nat} (hj : j < 2 ^ 31) (hN : N < 2 ^ 31) : zIn (nI j) N ↔ j < N := ⟨fun z => Nat.lt_of_not_le fun q => z.2 ((nI_leI hN hj).mpr q), fun z => zIn_of z hN⟩

theorem s_X2_farmComes {n : Nat} {σ : zSt} {F P b : Nat} {l : List Int32} (hL : σ 25 1 = nI l.length) (h96 : l.length ≤ 96) (hA : zArr (σ 26) l) (hc : ∀ x ∈ l, ∃ c, c ≤ 255 ∧ x = nI c) (hg : zGd (zrow σ 17) F P) (hd : ∀ i, b < i → i ≤ b + 6 → i < l.length ∧ 48 ≤ zlc l i ∧ zlc l i ≤ 57) : zSem (n + 3) mX2_farmComes [.ref 25, .ref 17, .int (nI b)] σ (zCm (zdF (zlc l) b (zrow σ 17)) σ) := by
  have hF6 := hg.F6
  have hP6 := hg.P6
  have hF : σ 17 0 = nI F := hg.r0
  have hP : σ 17 1 = nI P := hg.r1
  have hnF := hg.nF
  have hnP := hg.nP
  refine zSem.of (by decide +kernel) (Nat.le_of_ble_eq_true rfl) (fun X hB hR => ?_)
  show zW X 0 [some (.ref 25), some (.ref 17), some (.int (nI b)), none, none, none] [] σ
  refine zw_aload0 hB dX2_farmComes_0 ?_
  refine zw_iload2 hB dX2_farmComes_1 ?_
  refine zw_iconst (x := nI 1) hB dX2_farmComes_2 (by decide) ?_
  refine zw_iaddN hB dX2_farmComes_3 ?_
  refine zw_callV1P (M' := mX2_number) hB dX2_farmComes_4 zl_X2_82 zg_X2_number (zRc.of rfl rfl rfl) (s_X2_number hL h96 hA hc (hd _ (by omega) (by omega)).1 (hd _ (by omega) (by omega)).2.1 (hd _ (by omega) (by omega)).2.1) ?_
  refine zw_eqI (y := nI (zn2 (zlc l) (b + 1))) rfl ?_
  have b1 : zn2 (zlc l) (b + 1) ≤ 99 := by have h1 := (hd (b + 1) (by omega) (by omega)).2; have h2 := (hd (b + 1 + 1) (by omega) (by omega)).2; unfold zn2; omega
  
  refine zw_istore3 hB dX2_farmComes_7 (by first | rfl | assumption) ?_
  refine zw_aload0 hB dX2_farmComes_8 ?_
  refine zw_iload2 hB dX2_farmComes_9 ?_
  refine zw_iconst (x := nI 3) hB dX2_farmComes_10 (by decide) ?_
  refine zw_iaddN hB dX2_farmComes_11 ?_
  refine zw_callV1P (M' := mX2_number) hB dX2_farmComes_12 zl_X2_82 zg_X2_number (zRc.of rfl rfl rfl) (s_X2_number hL h96 hA hc (hd _ (by omega) (by omega)).1 (hd _ (by omega) (by omega)).2.1 (hd _ (by omega) (by omega)).2.1) ?_
  refine zw_eqI (y := nI (zn2 (zlc l) (b + 3))) rfl ?_
  have b3 : zn2 (zlc l) (b + 3) ≤ 99 := by have h1 := (hd (b + 3) (by omega) (by omega)).2; have h2 := (hd (b + 3 + 1) (by omega) (by omega)).2; unfold zn2; omega
  
  refine zw_istore4 hB dX2_farmComes_15 (by first | rfl | assumption) ?_
  refine zw_aload0 hB dX2_farmComes_17 ?_
  refine zw_iload2 hB dX2_farmComes_18 ?_
  refine zw_iconst (x := nI 5) hB dX2_farmComes_19 (by decide) ?_
  refine zw_iaddN hB dX2_farmComes_20 ?_
  refine zw_callV1P (M' := mX2_number) hB dX2_farmComes_21 zl_X2_82 zg_X2_number (zRc.of rfl rfl rfl) (s_X2_number hL h96 hA hc (hd _ (by omega) (by omega)).1 (hd _ (by omega) (by omega)).2.1 (hd _ (by omega) (by omega)).2.1) ?_
  refine zw_eqI (y := nI (zn2 (zlc l) (b + 5))) rfl ?_
  have b5 : zn2 (zlc l) (b + 5) ≤ 99 := by have h1 := (hd (b + 5) (by omega) (by omega)).2; have h2 := (hd (b + 5 + 1) (by omega) (by omega)).2; unfold zn2; omega
  unfold zdF at hR
  rw [hnF] at hR
  refine zw_istore5 hB dX2_farmComes_24 (by first | rfl | assumption) ?_
  refine zw_aload1 hB dX2_farmComes_26 ?_
  refine zw_getfV (x := nI F) hB dX2_farmComes_27 zf_X2_95 zld17.1 rfl (hF) ?_
  refine zw_bipush (x := nI 6) hB dX2_farmComes_30 (by decide) ?_
  refine zw_icmp_geN (tgt := 55) hB dX2_farmComes_32 (by decide) (by omega) (by omega) (fun c32 => ?_) (fun c32 => ?_)
  · refine zw_iconst (x := nI 0) hB dX2_farmComes_55 (by decide) ?_
    refine zw_zret hB hR dX2_farmComes_56 rfl (by decide) ?_
    exact zCm_f (fun z => by omega) zOut.rf
  · refine zw_iload3 hB dX2_farmComes_35 ?_
    refine zw_bipush (x := nI 30) hB dX2_farmComes_36 (by decide) ?_
    refine zw_icmp_gtN (tgt := 55) hB dX2_farmComes_38 (by decide) (by omega) (by omega) (fun c38 => ?_) (fun c38 => ?_)
    · refine zw_iconst (x := nI 0) hB dX2_farmComes_55 (by decide) ?_
      refine zw_zret hB hR dX2_farmComes_56 rfl (by decide) ?_
      exact zCm_f (fun z => by omega) zOut.rf
    · refine zw_iload4 hB dX2_farmComes_41 ?_
      refine zw_bipush (x := nI 30) hB dX2_farmComes_43 (by decide) ?_
      refine zw_icmp_gtN (tgt := 55) hB dX2_farmComes_45 (by decide) (by omega) (by omega) (fun c45 => ?_) (fun c45 => ?_)
      · refine zw_iconst (x := nI 0) hB dX2_farmComes_55 (by decide) ?_
        refine zw_zret hB hR dX2_farmComes_56 rfl (by decide) ?_
        exact zCm_f (fun z => by omega) zOut.rf
      · refine zw_iload5 hB dX2_farmComes_48 ?_
        refine zw_bipush (x := nI 30) hB dX2_farmComes_50 (by decide) ?_
        refine zw_icmp_leN (tgt := 57) hB dX2_farmComes_52 (by decide) (by omega) (by omega) (fun c52 => ?_) (fun c52 => ?_)
        · refine zw_aload1 hB dX2_farmComes_57 ?_
          refine zw_iload3 hB dX2_farmComes_58 ?_
          refine zw_iload4 hB dX2_farmComes_59 ?_
          refine zw_iload5 hB dX2_farmComes_61 ?_
          refine zw_callV3 (M' := mX1_addFarm) hB dX2_farmComes_63 zl_X2_100 zg_X1_addFarm (zRc.of zld17.1 rfl rfl) (s_X1_addFarm zld17 hF c32 _ _ _) (fun v63 σ63 hq63 => ?_)
          obtain ⟨rfl, x1, x2⟩ := hq63
          refine zw_iconst (x := nI 1) hB dX2_farmComes_66 (by decide) ?_
          refine zw_zret hB hR dX2_farmComes_67 rfl (by decide) ?_
          exact zCm_t ⟨c32, by omega, by omega, by omega⟩ x1 x2
        · refine zw_iconst (x := nI 0) hB dX2_farmComes_55 (by decide) ?_
          refine zw_zret hB hR dX2_farmComes_56 rfl (by decide) ?_
          exact zCm_f (fun z => by omega) zOut.rf
theorem s_X2_farmerComes {n : Nat} {σ : zSt} {F P b : Nat} {l : List Int32} (hL : σ 25 1 = nI l.length) (h96 : l.length ≤ 96) (hA : zArr (σ 26) l) (hc : ∀ x ∈ l, ∃ c, c ≤ 255 ∧ x = nI c) (hg : zGd (zrow σ 17) F P) (hb2 : b + 2 < l.length) (hk : ∃ k, k < 6 ∧ zkl (zlc l (b + 1)) = nI k) (h48 : 48 ≤ zlc l (b + 2)) : zSem (n + 5) mX2_farmerComes [.ref 25, .ref 17, .int (nI b)] σ (zCm (zdP (zlc l) b (zrow σ 17)) σ) := by
  have hF6 := hg.F6
  have hP6 := hg.P6
  have hF : σ 17 0 = nI F := hg.r0
  have hP : σ 17 1 = nI P := hg.r1
  have hnF := hg.nF
  have hnP := hg.nP
  refine zSem.of (by decide +kernel) (Nat.le_of_ble_eq_true rfl) (fun X hB hR => ?_)
  show zW X 0 [some (.ref 25), some (.ref 17), some (.int (nI b))] [] σ
  refine zw_aload1 hB dX2_farmerComes_0 ?_
  refine zw_getfV (x := nI P) hB dX2_farmerComes_1 zf_X2_104 zld17.1 rfl (hP) ?_
  unfold zdP at hR
  rw [hnP] at hR
  refine zw_bipush (x := nI 6) hB dX2_farmerComes_4 (by decide) ?_
  refine zw_icmp_ltN (tgt := 11) hB dX2_farmerComes_6 (by decide) (by omega) (by omega) (fun c6 => ?_) (fun c6 => ?_)
  · refine zw_aload1 hB dX2_farmerComes_11 ?_
    refine zw_aload0 hB dX2_farmerComes_12 ?_
    refine zw_iload2 hB dX2_farmerComes_13 ?_
    refine zw_iconst (x := nI 1) hB dX2_farmerComes_14 (by decide) ?_
    refine zw_iaddN hB dX2_farmerComes_15 ?_
    refine zw_callV1P (M' := mX2_toldAt) hB dX2_farmerComes_16 zl_X2_107 zg_X2_toldAt (zRc.of rfl rfl rfl) (s_X2_toldAt hL h96 hA hc (by omega)) ?_
    refine zw_callS1P (M' := mX0_ofLetter) hB dX2_farmerComes_19 zl_X2_60 zg_X0_ofLetter (s_X0_ofLetter (zlc_n hc (by omega)).2) ?_
    refine zw_aload0 hB dX2_farmerComes_22 ?_
    refine zw_iload2 hB dX2_farmerComes_23 ?_
    refine zw_iconst (x := nI 2) hB dX2_farmerComes_24 (by decide) ?_
    refine zw_iaddN hB dX2_farmerComes_25 ?_
    refine zw_callV1P (M' := mX2_digit) hB dX2_farmerComes_26 zl_X2_72 zg_X2_digit (zRc.of rfl rfl rfl) (s_X2_digit hL h96 hA hc (by omega) h48) ?_
    refine zw_callV2 (M' := mX1_addFarmer) hB dX2_farmerComes_29 zl_X2_110 zg_X1_addFarmer (zRc.of zld17.1 rfl rfl) (s_X1_addFarmer zld17 hP (by omega) _ _) (fun v29 σ29 hq29 => ?_)
    obtain ⟨rfl, x1, x2⟩ := hq29
    refine zw_iconst (x := nI 1) hB dX2_farmerComes_32 (by decide) ?_
    refine zw_zret hB hR dX2_farmerComes_33 rfl (by decide) ?_
    exact zCm_t (by omega) x1 x2
  · refine zw_iconst (x := nI 0) hB dX2_farmerComes_9 (by decide) ?_
    refine zw_zret hB hR dX2_farmerComes_10 rfl (by decide) ?_
    exact zCm_f (fun z => by omega) zOut.rf
theorem s_X2_seatComes {n : Nat} {σ : zSt} {F P : Nat} (hg : zGd (zrow σ 17) F P) {p f : Nat} (hp : p < 10) (hf : f < 10) : zSem (n + 2) mX2_seatComes [.ref 17, .int (nI p), .int (nI f)] σ (zCm (zdA p f (zrow σ 17)) σ) := by
  have hF6 := hg.F6
  have hP6 := hg.P6
  have hF : σ 17 0 = nI F := hg.r0
  have hP : σ 17 1 = nI P := hg.r1
  have hnF := hg.nF
  have hnP := hg.nP
  refine zSem.of (by decide +kernel) (Nat.le_of_ble_eq_true rfl) (fun X hB hR => ?_)
  show zW X 0 [some (.ref 17), some (.int (nI p)), some (.int (nI f))] [] σ
  unfold zdA at hR
  rw [hnF, hnP] at hR
  refine zw_aload0 hB dX2_seatComes_0 ?_
  refine zw_iload1 hB dX2_seatComes_1 ?_
  refine zw_callV1P (M' := mX1_hasFarmer) hB dX2_seatComes_2 zl_X2_114 zg_X1_hasFarmer (zRc.of zld17.1 rfl rfl) (s_hasFarmer zld17 hP _) ?_
  refine zw_if_eqB (tgt := 16) hB dX2_seatComes_5 (by decide) (fun c5 => ?_) (fun c5 => ?_)
  · refine zw_iconst (x := nI 0) hB dX2_seatComes_16 (by decide) ?_
    refine zw_zret hB hR dX2_seatComes_17 rfl (by decide) ?_
    exact zCm_f (fun z => c5 ((zIn_lt (by omega) (by omega)).mpr z.1)) zOut.rf
  · refine zw_aload0 hB dX2_seatComes_8 ?_
    refine zw_iload2 hB dX2_seatComes_9 ?_
    refine zw_callV1P (M' := mX1_hasFarm) hB dX2_seatComes_10 zl_X2_118 zg_X1_hasFarm (zRc.of zld17.1 rfl rfl) (s_hasFarm zld17 hF _) ?_
    refine zw_if_neB (tgt := 18) hB dX2_seatComes_13 (by decide) (fun c13 => ?_) (fun c13 => ?_)
    · refine zw_aload0 hB dX2_seatComes_18 ?_
      refine zw_iload1 hB dX2_seatComes_19 ?_
      refine zw_iload2 hB dX2_seatComes_20 ?_
      refine zw_callV2 (M' := mX1_seat) hB dX2_seatComes_21 zl_X2_121 zg_X1_seat (zRc.of zld17.1 rfl rfl) (s_X1_seat zld17 hg ((zIn_lt (by omega) (by omega)).mp c5) ((zIn_lt (by omega) (by omega)).mp c13)) (fun v21 σ21 hq21 => ?_)
      obtain ⟨rfl, x1, x2⟩ := hq21
      refine zw_iconst (x := nI 1) hB dX2_seatComes_24 (by decide) ?_
      refine zw_zret hB hR dX2_seatComes_25 rfl (by decide) ?_
      exact zCm_t ⟨(zIn_lt (by omega) (by omega)).mp c5, (zIn_lt (by omega) (by omega)).mp c13⟩ x1 (fun d hd => x2 d (by omega))
    · refine zw_iconst (x := nI 0) hB dX2_seatComes_16 (by decide) ?_
      refine zw_zret hB hR dX2_seatComes_17 rfl (by decide) ?_
      exact zCm_f (fun z => c13 ((zIn_lt (by omega) (by omega)).mpr z.2)) zOut.rf
theorem s_X2_leaveComes {n : Nat} {σ : zSt} {F P : Nat} (hg : zGd (zrow σ 17) F P) {p : Nat} (hp : p < 10) : zSem (n + 1) mX2_leaveComes [.ref 17, .int (nI p)] σ (zCm (zdO p (zrow σ 17)) σ) := by
  have hF6 := hg.F6
  have hP6 := hg.P6
  have hF : σ 17 0 = nI F := hg.r0
  have hP : σ 17 1 = nI P := hg.r1
  have hnF := hg.nF
  have hnP := hg.nP
  refine zSem.of (by decide +kernel) (Nat.le_of_ble_eq_true rfl) (fun X hB hR => ?_)
  show zW X 0 [some (.ref 17), some (.int (nI p))] [] σ
  unfold zdO at hR
  rw [hnP] at hR
  refine zw_aload0 hB dX2_leaveComes_0 ?_
  refine zw_iload1 hB dX2_leaveComes_1 ?_
  refine zw_callV1P (M' := mX1_hasFarmer) hB dX2_leaveComes_2 zl_X2_114 zg_X1_hasFarmer (zRc.of zld17.1 rfl rfl) (s_hasFarmer zld17 hP _) ?_
  refine zw_if_neB (tgt := 10) hB dX2_leaveComes_5 (by decide) (fun c5 => ?_) (fun c5 => ?_)
  · have hpP := (zIn_lt (by omega) (by omega)).mp c5
    refine zw_aload0 hB dX2_leaveComes_10 ?_
    refine zw_getfR hB dX2_leaveComes_11 zf_X2_124 zld17.1 rfl ?_
    refine zw_iload1 hB dX2_leaveComes_14 ?_
    refine zw_bipush (x := -9) hB dX2_leaveComes_15 (by decide) ?_
    refine zw_iastN hB dX2_leaveComes_17 zld17.2.2.2.2.2.2.1 (by omega) (by decide) ?_
    refine zw_iconst (x := nI 1) hB dX2_leaveComes_18 (by decide) ?_
    refine zw_zret hB hR dX2_leaveComes_19 rfl (by decide) ?_
    exact zCm_t hpP (zrow_set4 (w := 3) (by omega) (show p < 6 by omega) (by omega)) (zOut.c (by omega))
  · refine zw_iconst (x := nI 0) hB dX2_leaveComes_8 (by decide) ?_
    refine zw_zret hB hR dX2_leaveComes_9 rfl (by decide) ?_
    exact zCm_f (fun z => c5 ((zIn_lt (by omega) (by omega)).mpr z)) zOut.rf
theorem s_X2_heartComes {n : Nat} {σ : zSt} {F P : Nat} (hg : zGd (zrow σ 17) F P) {f s v : Nat} (hf : f < 10) (hs : s < 10) (hv : v < 100) : zSem (n + 1) mX2_heartComes [.ref 17, .int (nI f), .int (nI s), .int (nI v)] σ (zCm (zdH f s v (zrow σ 17)) σ) := by
  have hF6 := hg.F6
  have hP6 := hg.P6
  have hF : σ 17 0 = nI F := hg.r0
  have hP : σ 17 1 = nI P := hg.r1
  have hnF := hg.nF
  have hnP := hg.nP
  refine zSem.of (by decide +kernel) (Nat.le_of_ble_eq_true rfl) (fun X hB hR => ?_)
  show zW X 0 [some (.ref 17), some (.int (nI f)), some (.int (nI s)), some (.int (nI v))] [] σ
  unfold zdH at hR
  rw [hnF] at hR
  refine zw_aload0 hB dX2_heartComes_0 ?_
  refine zw_iload1 hB dX2_heartComes_1 ?_
  refine zw_callV1P (M' := mX1_hasFarm) hB dX2_heartComes_2 zl_X2_118 zg_X1_hasFarm (zRc.of zld17.1 rfl rfl) (s_hasFarm zld17 hF _) ?_
  refine zw_if_eqB (tgt := 21) hB dX2_heartComes_5 (by decide) (fun c5 => ?_) (fun c5 => ?_)
  · refine zw_iconst (x := nI 0) hB dX2_heartComes_21 (by decide) ?_
    refine zw_zret hB hR dX2_heartComes_22 rfl (by decide) ?_
    exact zCm_f (fun z => c5 ((zIn_lt (by omega) (by omega)).mpr z.1)) zOut.rf
  · refine zw_iload2 hB dX2_heartComes_8 ?_
    refine zw_callS1P (M' := mX1_hasSort) hB dX2_heartComes_9 zl_X2_127 zg_X1_hasSort (s_X1_hasSort _) ?_
    refine zw_if_eqB (tgt := 21) hB dX2_heartComes_12 (by decide) (fun c12 => ?_) (fun c12 => ?_)
    · refine zw_iconst (x := nI 0) hB dX2_heartComes_21 (by decide) ?_
      refine zw_zret hB hR dX2_heartComes_22 rfl (by decide) ?_
      exact zCm_f (fun z => c12 ((zIn_lt (j := s) (N := 3) (by omega) (by omega)).mpr z.2.1)) zOut.rf
    · refine zw_iload3 hB dX2_heartComes_15 ?_
      refine zw_bipush (x := nI 30) hB dX2_heartComes_16 (by decide) ?_
      refine zw_icmp_leN (tgt := 23) hB dX2_heartComes_18 (by decide) (by omega) (by omega) (fun c18 => ?_) (fun c18 => ?_)
      · have hfF := (zIn_lt (by omega) (by omega)).mp c5
        have hs3 : s < 3 := (zIn_lt (by omega) (by omega)).mp c12
        refine zw_aload0 hB dX2_heartComes_23 ?_
        refine zw_iload1 hB dX2_heartComes_24 ?_
        refine zw_iload2 hB dX2_heartComes_25 ?_
        refine zw_iload3 hB dX2_heartComes_26 ?_
        refine zw_callV3U (M' := mX1_setHeart) hB dX2_heartComes_27 zl_X2_130 zg_X1_setHeart (zRc.of zld17.1 rfl rfl) (s_X1_setHeart zld17 _ (by omega) hs3) ?_
        refine zw_iconst (x := nI 1) hB dX2_heartComes_30 (by decide) ?_
        refine zw_zret hB hR dX2_heartComes_31 rfl (by decide) ?_
        exact zCm_t ⟨hfF, hs3, c18⟩ (by rw [zrow_seth (by omega), show 5 + (3 * f + s) = 5 + 3 * f + s by omega]) (zOut.c (by omega))
      · refine zw_iconst (x := nI 0) hB dX2_heartComes_21 (by decide) ?_
        refine zw_zret hB hR dX2_heartComes_22 rfl (by decide) ?_
        exact zCm_f (fun z => by omega) zOut.rf
theorem s_X2_stepComes {n : Nat} {σ : zSt} {F P : Nat} (hg : zGd (zrow σ 17) F P) {v : Nat} (hv : v < 10) : zSem n mX2_stepComes [.ref 17, .int (nI v)] σ (zCm (zdS v (zrow σ 17)) σ) := by
  have hF6 := hg.F6
  have hP6 := hg.P6
  have hF : σ 17 0 = nI F := hg.r0
  have hP : σ 17 1 = nI P := hg.r1
  have hnF := hg.nF
  have hnP := hg.nP
  refine zSem.of (by decide +kernel) (Nat.le_of_ble_eq_true rfl) (fun X hB hR => ?_)
  show zW X 0 [some (.ref 17), some (.int (nI v))] [] σ
  unfold zdS at hR
  refine zw_iload1 hB dX2_stepComes_0 ?_
  refine zw_iconst (x := nI 5) hB dX2_stepComes_1 (by decide) ?_
  refine zw_icmp_leN (tgt := 7) hB dX2_stepComes_2 (by decide) (by omega) (by omega) (fun c2 => ?_) (fun c2 => ?_)
  · refine zw_aload0 hB dX2_stepComes_7 ?_
    refine zw_iload1 hB dX2_stepComes_8 ?_
    refine zw_putfI hB dX2_stepComes_9 zfw_X2_133 zld17.1 rfl ?_
    refine zw_iconst (x := nI 1) hB dX2_stepComes_12 (by decide) ?_
    refine zw_zret hB hR dX2_stepComes_13 rfl (by decide) ?_
    exact zCm_t c2 (by rw [zrow_setf, if_pos (by omega)]) (zOut.c (by omega))
  · refine zw_iconst (x := nI 0) hB dX2_stepComes_5 (by decide) ?_
    refine zw_zret hB hR dX2_stepComes_6 rfl (by decide) ?_
    exact zCm_f (fun z => by omega) zOut.rf
theorem s_X2_yearsCome {n : Nat} {σ : zSt} {F P : Nat} (hg : zGd (zrow σ 17) F P) {m y : Nat} (hm : m < 100) (hy : y ≤ 999) (ey : (zrow σ 17) 4 = nI y) : zSem (n + 4) mX2_yearsCome [.ref 17, .int (nI m)] σ (zCm (zdY m (zrow σ 17)) σ) := by
  have hF6 := hg.F6
  have hP6 := hg.P6
  have hF : σ 17 0 = nI F := hg.r0
  have hP : σ 17 1 = nI P := hg.r1
  have hnF := hg.nF
  have hnP := hg.nP
  refine zSem.of (by decide +kernel) (Nat.le_of_ble_eq_true rfl) (fun X hB hR => ?_)
  show zW X 0 [some (.ref 17), some (.int (nI m)), none] [] σ
  unfold zdY at hR
  rw [ey, nI_clamp (by omega)] at hR
  have hl : (1 ≤ m ∧ m ≤ 60 ∧ y + m ≤ 999) → ∀ i, i ≤ m → ∀ υ : zSt, zrow υ 17 = zYs (zrow σ 17) i → zOut 17 σ υ → zW X 23 [some (.ref 17), some (.int (nI m)), some (.int (nI i))] [] υ := by
    intro hc
    refine zfor m (fun i hi ih => ?_)
    intro υ zu ou
    have gu : zGd (zrow υ 17) F P := by rw [zu]; exact zGd_Ys hg i
    refine zw_iload2 hB dX2_yearsCome_23 ?_
    refine zw_iload1 hB dX2_yearsCome_24 ?_
    refine zw_icmp_geN (tgt := 38) hB dX2_yearsCome_25 (by decide) (by omega) (by omega) (fun c25 => ?_) (fun c25 => ?_)
    · refine zw_iconst (x := nI 1) hB dX2_yearsCome_38 (by decide) ?_
      refine zw_zret hB hR dX2_yearsCome_39 rfl (by decide) ?_
      exact zCm_t hc (by rw [zu, show i = m by omega]) ou
    · refine zw_aload0 hB dX2_yearsCome_28 ?_
      refine zw_callV0 (M' := mX1_passYear) hB dX2_yearsCome_29 zl_X2_139 zg_X1_passYear (zRc.of zld17.1 rfl rfl) (s_X1_passYear zld17 gu) (fun v29 σ29 hq29 => ?_)
      obtain ⟨rfl, y1, y2, y3, y4, y5⟩ := hq29
      refine zw_iinc2 hB dX2_yearsCome_32 (by first | exact zinc _ | rfl) (by first | rfl | assumption) ?_
      refine zw_goto (tgt := 23) hB dX2_yearsCome_35 (by decide) ?_
      exact ih c25 σ29 (by rw [y1, zu]; rfl) (ou.tr y5)
  refine zw_iload1 hB dX2_yearsCome_0 ?_
  refine zw_iconst (x := nI 1) hB dX2_yearsCome_1 (by decide) ?_
  refine zw_icmp_ltN (tgt := 19) hB dX2_yearsCome_2 (by decide) (by omega) (by omega) (fun c2 => ?_) (fun c2 => ?_)
  · refine zw_iconst (x := nI 0) hB dX2_yearsCome_19 (by decide) ?_
    refine zw_zret hB hR dX2_yearsCome_20 rfl (by decide) ?_
    exact zCm_f (fun z => by omega) zOut.rf
  · refine zw_iload1 hB dX2_yearsCome_5 ?_
    refine zw_bipush (x := nI 60) hB dX2_yearsCome_6 (by decide) ?_
    refine zw_icmp_gtN (tgt := 19) hB dX2_yearsCome_8 (by decide) (by omega) (by omega) (fun c8 => ?_) (fun c8 => ?_)
    · refine zw_iconst (x := nI 0) hB dX2_yearsCome_19 (by decide) ?_
      refine zw_zret hB hR dX2_yearsCome_20 rfl (by decide) ?_
      exact zCm_f (fun z => by omega) zOut.rf
    · refine zw_aload0 hB dX2_yearsCome_11 ?_
      refine zw_iload1 hB dX2_yearsCome_12 ?_
      refine zw_callV1P (M' := mX1_hasYears) hB dX2_yearsCome_13 zl_X2_136 zg_X1_hasYears (zRc.of zld17.1 rfl rfl) (s_X1_hasYears zld17 _) ?_
      rw [show σ 17 4 = nI y from ey]
      refine zw_if_neB (tgt := 21) hB dX2_yearsCome_16 (by decide) (fun c16 => ?_) (fun c16 => ?_)
      · have hc : 1 ≤ m ∧ m ≤ 60 ∧ y + m ≤ 999 := by
          rw [pk_sub (by omega), nI_leI (by omega) (by omega)] at c16
          omega
        refine zw_iconst (x := nI 0) hB dX2_yearsCome_21 (by decide) ?_
        refine zw_istore2 hB dX2_yearsCome_22 (by first | rfl | assumption) ?_
        exact hl hc 0 (by omega) σ rfl zOut.rf
      · refine zw_iconst (x := nI 0) hB dX2_yearsCome_19 (by decide) ?_
        refine zw_zret hB hR dX2_yearsCome_20 rfl (by decide) ?_
        exact zCm_f (fun z => c16 (by rw [pk_sub (by omega), nI_leI (by omega) (by omega)]; omega)) zOut.rf
theorem zb_nar (c : Prop) [Decidable c] : narrow .boolean (.int (zb c)) = .int (zb c) := by unfold zb; split <;> decide
theorem s_X2_comes {n : Nat} {σ : zSt}  {l : List Int32} (hL : σ 25 1 = nI l.length) (h96 : l.length ≤ 96) (hA : zArr (σ 26) l) (hc : ∀ x ∈ l, ∃ c, c ≤ 255 ∧ x = nI c) (hln : zLn (zrow σ 17)) {b : Nat} (hs : zsx (zlc l) l.length b = none) : zSem (n + 6) mX2_comes [.ref 25, .ref 17, .int (nI b)] σ (zCm (zdo (zlc l) b (zrow σ 17)) σ) := by
  refine zSem.of (by decide +kernel) (Nat.le_of_ble_eq_true rfl) (fun X hB hR => ?_)
  show zW X 0 [some (.ref 25), some (.ref 17), some (.int (nI b))] [] σ
  obtain ⟨⟨F, P, hg⟩, y, hy, ey⟩ := id hln
  obtain ⟨hb, hz, hk⟩ := zsx_no hs
  rcases zsh_of hz with q102 | q112 | q97 | q111 | q104 | q115 | q121
  · have ez : zdo (zlc l) b (zrow σ 17) = zdF (zlc l) b (zrow σ 17) := by
      unfold zdo
      rw [if_pos q102]
    rw [ez] at hR
    have k0 := hk 0 (by rw [q102]; decide)
    rw [q102] at k0
    have e0 := zft_d (c := zlc l (b + 1)) k0.2
    have L0 : b + 1 < l.length := by have := k0.1; omega
    have k1 := hk 1 (by rw [q102]; decide)
    rw [q102] at k1
    have e1 := zft_d (c := zlc l (b + 2)) k1.2
    have L1 : b + 2 < l.length := by have := k1.1; omega
    have k2 := hk 2 (by rw [q102]; decide)
    rw [q102] at k2
    have e2 := zft_d (c := zlc l (b + 3)) k2.2
    have L2 : b + 3 < l.length := by have := k2.1; omega
    have k3 := hk 3 (by rw [q102]; decide)
    rw [q102] at k3
    have e3 := zft_d (c := zlc l (b + 4)) k3.2
    have L3 : b + 4 < l.length := by have := k3.1; omega
    have k4 := hk 4 (by rw [q102]; decide)
    rw [q102] at k4
    have e4 := zft_d (c := zlc l (b + 5)) k4.2
    have L4 : b + 5 < l.length := by have := k4.1; omega
    have k5 := hk 5 (by rw [q102]; decide)
    rw [q102] at k5
    have e5 := zft_d (c := zlc l (b + 6)) k5.2
    have L5 : b + 6 < l.length := by have := k5.1; omega
    have hd : ∀ i, b < i → i ≤ b + 6 → i < l.length ∧ 48 ≤ zlc l i ∧ zlc l i ≤ 57 := by
      intro i h1 h2
      have h9 : i = b + 1 ∨ i = b + 2 ∨ i = b + 3 ∨ i = b + 4 ∨ i = b + 5 ∨ i = b + 6 := by omega
      rcases h9 with rfl | rfl | rfl | rfl | rfl | rfl
      · exact ⟨L0, e0⟩
      · exact ⟨L1, e1⟩
      · exact ⟨L2, e2⟩
      · exact ⟨L3, e3⟩
      · exact ⟨L4, e4⟩
      · exact ⟨L5, e5⟩
    refine zw_aload0 hB dX2_comes_0 ?_
    refine zw_getfR hB dX2_comes_1 zf_X2_9 rfl rfl ?_
    refine zw_iload2 hB dX2_comes_4 ?_
    refine zw_ialdV (x := nI 102) hB dX2_comes_5 rfl (by omega) (by decide) ((hA b hb).trans ((zlc_n hc hb).1.trans (by rw [q102]))) ?_
    refine zw_tabG (off := 90) (tgt := 96) hB dX2_comes_6 (by decide) (by decide) (by decide) ?_
    refine zw_aload0 hB dX2_comes_96 ?_
    refine zw_aload1 hB dX2_comes_97 ?_
    refine zw_iload2 hB dX2_comes_98 ?_
    refine zw_callV2 (M' := mX2_farmComes) hB dX2_comes_99 zl_X2_66 zg_X2_farmComes (zRc.of rfl rfl rfl) (s_X2_farmComes hL h96 hA hc hg hd) (fun v99 σ99 hq99 => ?_)
    obtain ⟨rfl, z1, z2⟩ := hq99
    refine zw_zret hB hR dX2_comes_102 rfl (zb_nar _) ?_
    exact ⟨rfl, z1, z2⟩
  · have ez : zdo (zlc l) b (zrow σ 17) = zdP (zlc l) b (zrow σ 17) := by
      unfold zdo
      rw [if_neg (by omega), if_pos q112]
    rw [ez] at hR
    have k0 := hk 0 (by rw [q112]; decide)
    rw [q112] at k0
    have e0 := zft_k (c := zlc l (b + 1)) k0.2
    have k1 := hk 1 (by rw [q112]; decide)
    rw [q112] at k1
    have e1 := zft_d (c := zlc l (b + 2)) k1.2
    have L1 : b + 2 < l.length := by have := k1.1; omega
    refine zw_aload0 hB dX2_comes_0 ?_
    refine zw_getfR hB dX2_comes_1 zf_X2_9 rfl rfl ?_
    refine zw_iload2 hB dX2_comes_4 ?_
    refine zw_ialdV (x := nI 112) hB dX2_comes_5 rfl (by omega) (by decide) ((hA b hb).trans ((zlc_n hc hb).1.trans (by rw [q112]))) ?_
    refine zw_tabG (off := 97) (tgt := 103) hB dX2_comes_6 (by decide) (by decide) (by decide) ?_
    refine zw_aload0 hB dX2_comes_103 ?_
    refine zw_aload1 hB dX2_comes_104 ?_
    refine zw_iload2 hB dX2_comes_105 ?_
    refine zw_callV2 (M' := mX2_farmerComes) hB dX2_comes_106 zl_X2_69 zg_X2_farmerComes (zRc.of rfl rfl rfl) (s_X2_farmerComes hL h96 hA hc hg L1 e0 (by omega)) (fun v106 σ106 hq106 => ?_)
    obtain ⟨rfl, z1, z2⟩ := hq106
    refine zw_zret hB hR dX2_comes_109 rfl (zb_nar _) ?_
    exact ⟨rfl, z1, z2⟩
  · have ez : zdo (zlc l) b (zrow σ 17) = zdA (zlc l (b + 1) - 48) (zlc l (b + 2) - 48) (zrow σ 17) := by
      unfold zdo
      rw [if_neg (by omega), if_neg (by omega), if_pos q97]
    rw [ez] at hR
    have k0 := hk 0 (by rw [q97]; decide)
    rw [q97] at k0
    have e0 := zft_d (c := zlc l (b + 1)) k0.2
    have L0 : b + 1 < l.length := by have := k0.1; omega
    have k1 := hk 1 (by rw [q97]; decide)
    rw [q97] at k1
    have e1 := zft_d (c := zlc l (b + 2)) k1.2
    have L1 : b + 2 < l.length := by have := k1.1; omega
    have hd : ∀ i, b < i → i ≤ b + 2 → i < l.length ∧ 48 ≤ zlc l i ∧ zlc l i ≤ 57 := by
      intro i h1 h2
      have h9 : i = b + 1 ∨ i = b + 2 := by omega
      rcases h9 with rfl | rfl
      · exact ⟨L0, e0⟩
      · exact ⟨L1, e1⟩
    refine zw_aload0 hB dX2_comes_0 ?_
    refine zw_getfR hB dX2_comes_1 zf_X2_9 rfl rfl ?_
    refine zw_iload2 hB dX2_comes_4 ?_
    refine zw_ialdV (x := nI 97) hB dX2_comes_5 rfl (by omega) (by decide) ((hA b hb).trans ((zlc_n hc hb).1.trans (by rw [q97]))) ?_
    refine zw_tabG (off := 104) (tgt := 110) hB dX2_comes_6 (by decide) (by decide) (by decide) ?_
    refine zw_aload1 hB dX2_comes_110 ?_
    refine zw_aload0 hB dX2_comes_111 ?_
    refine zw_iload2 hB dX2_comes_112 ?_
    refine zw_iconst (x := nI 1) hB dX2_comes_113 (by decide) ?_
    refine zw_iaddN hB dX2_comes_114 ?_
    refine zw_callV1P (M' := mX2_digit) hB dX2_comes_115 zl_X2_72 zg_X2_digit (zRc.of rfl rfl rfl) (s_X2_digit hL h96 hA hc (hd _ (by omega) (by omega)).1 (hd _ (by omega) (by omega)).2.1) ?_
    refine zw_aload0 hB dX2_comes_118 ?_
    refine zw_iload2 hB dX2_comes_119 ?_
    refine zw_iconst (x := nI 2) hB dX2_comes_120 (by decide) ?_
    refine zw_iaddN hB dX2_comes_121 ?_
    refine zw_callV1P (M' := mX2_digit) hB dX2_comes_122 zl_X2_72 zg_X2_digit (zRc.of rfl rfl rfl) (s_X2_digit hL h96 hA hc (hd _ (by omega) (by omega)).1 (hd _ (by omega) (by omega)).2.1) ?_
    refine zw_callS3 (M' := mX2_seatComes) hB dX2_comes_125 zl_X2_75 zg_X2_seatComes (s_X2_seatComes hg (by omega) (by omega)) (fun v125 σ125 hq125 => ?_)
    obtain ⟨rfl, z1, z2⟩ := hq125
    refine zw_zret hB hR dX2_comes_128 rfl (zb_nar _) ?_
    exact ⟨rfl, z1, z2⟩
  · have ez : zdo (zlc l) b (zrow σ 17) = zdO (zlc l (b + 1) - 48) (zrow σ 17) := by
      unfold zdo
      rw [if_neg (by omega), if_neg (by omega), if_neg (by omega), if_pos q111]
    rw [ez] at hR
    have k0 := hk 0 (by rw [q111]; decide)
    rw [q111] at k0
    have e0 := zft_d (c := zlc l (b + 1)) k0.2
    have L0 : b + 1 < l.length := by have := k0.1; omega
    have hd : ∀ i, b < i → i ≤ b + 1 → i < l.length ∧ 48 ≤ zlc l i ∧ zlc l i ≤ 57 := by
      intro i h1 h2
      have h9 : i = b + 1 := by omega
      subst h9
      exact ⟨L0, e0⟩
    refine zw_aload0 hB dX2_comes_0 ?_
    refine zw_getfR hB dX2_comes_1 zf_X2_9 rfl rfl ?_
    refine zw_iload2 hB dX2_comes_4 ?_
    refine zw_ialdV (x := nI 111) hB dX2_comes_5 rfl (by omega) (by decide) ((hA b hb).trans ((zlc_n hc hb).1.trans (by rw [q111]))) ?_
    refine zw_tabG (off := 123) (tgt := 129) hB dX2_comes_6 (by decide) (by decide) (by decide) ?_
    refine zw_aload1 hB dX2_comes_129 ?_
    refine zw_aload0 hB dX2_comes_130 ?_
    refine zw_iload2 hB dX2_comes_131 ?_
    refine zw_iconst (x := nI 1) hB dX2_comes_132 (by decide) ?_
    refine zw_iaddN hB dX2_comes_133 ?_
    refine zw_callV1P (M' := mX2_digit) hB dX2_comes_134 zl_X2_72 zg_X2_digit (zRc.of rfl rfl rfl) (s_X2_digit hL h96 hA hc (hd _ (by omega) (by omega)).1 (hd _ (by omega) (by omega)).2.1) ?_
    refine zw_callS2 (M' := mX2_leaveComes) hB dX2_comes_137 zl_X2_79 zg_X2_leaveComes (s_X2_leaveComes hg (by omega)) (fun v137 σ137 hq137 => ?_)
    obtain ⟨rfl, z1, z2⟩ := hq137
    refine zw_zret hB hR dX2_comes_140 rfl (zb_nar _) ?_
    exact ⟨rfl, z1, z2⟩
  · have ez : zdo (zlc l) b (zrow σ 17) = zdH (zlc l (b + 1) - 48) (zlc l (b + 2) - 48) (zn2 (zlc l) (b + 3)) (zrow σ 17) := by
      unfold zdo
      rw [if_neg (by omega), if_neg (by omega), if_neg (by omega), if_neg (by omega), if_pos q104]
    rw [ez] at hR
    have k0 := hk 0 (by rw [q104]; decide)
    rw [q104] at k0
    have e0 := zft_d (c := zlc l (b + 1)) k0.2
    have L0 : b + 1 < l.length := by have := k0.1; omega
    have k1 := hk 1 (by rw [q104]; decide)
    rw [q104] at k1
    have e1 := zft_d (c := zlc l (b + 2)) k1.2
    have L1 : b + 2 < l.length := by have := k1.1; omega
    have k2 := hk 2 (by rw [q104]; decide)
    rw [q104] at k2
    have e2 := zft_d (c := zlc l (b + 3)) k2.2
    have L2 : b + 3 < l.length := by have := k2.1; omega
    have k3 := hk 3 (by rw [q104]; decide)
    rw [q104] at k3
    have e3 := zft_d (c := zlc l (b + 4)) k3.2
    have L3 : b + 4 < l.length := by have := k3.1; omega
    have hd : ∀ i, b < i → i ≤ b + 4 → i < l.length ∧ 48 ≤ zlc l i ∧ zlc l i ≤ 57 := by
      intro i h1 h2
      have h9 : i = b + 1 ∨ i = b + 2 ∨ i = b + 3 ∨ i = b + 4 := by omega
      rcases h9 with rfl | rfl | rfl | rfl
      · exact ⟨L0, e0⟩
      · exact ⟨L1, e1⟩
      · exact ⟨L2, e2⟩
      · exact ⟨L3, e3⟩
    have bn : zn2 (zlc l) (b + 3) ≤ 99 := by unfold zn2; have h1 := (hd (b + 3) (by omega) (by omega)).2; have h2 := (hd (b + 3 + 1) (by omega) (by omega)).2; omega
    refine zw_aload0 hB dX2_comes_0 ?_
    refine zw_getfR hB dX2_comes_1 zf_X2_9 rfl rfl ?_
    refine zw_iload2 hB dX2_comes_4 ?_
    refine zw_ialdV (x := nI 104) hB dX2_comes_5 rfl (by omega) (by decide) ((hA b hb).trans ((zlc_n hc hb).1.trans (by rw [q104]))) ?_
    refine zw_tabG (off := 135) (tgt := 141) hB dX2_comes_6 (by decide) (by decide) (by decide) ?_
    refine zw_aload1 hB dX2_comes_141 ?_
    refine zw_aload0 hB dX2_comes_142 ?_
    refine zw_iload2 hB dX2_comes_143 ?_
    refine zw_iconst (x := nI 1) hB dX2_comes_144 (by decide) ?_
    refine zw_iaddN hB dX2_comes_145 ?_
    refine zw_callV1P (M' := mX2_digit) hB dX2_comes_146 zl_X2_72 zg_X2_digit (zRc.of rfl rfl rfl) (s_X2_digit hL h96 hA hc (hd _ (by omega) (by omega)).1 (hd _ (by omega) (by omega)).2.1) ?_
    refine zw_aload0 hB dX2_comes_149 ?_
    refine zw_iload2 hB dX2_comes_150 ?_
    refine zw_iconst (x := nI 2) hB dX2_comes_151 (by decide) ?_
    refine zw_iaddN hB dX2_comes_152 ?_
    refine zw_callV1P (M' := mX2_digit) hB dX2_comes_153 zl_X2_72 zg_X2_digit (zRc.of rfl rfl rfl) (s_X2_digit hL h96 hA hc (hd _ (by omega) (by omega)).1 (hd _ (by omega) (by omega)).2.1) ?_
    refine zw_aload0 hB dX2_comes_156 ?_
    refine zw_iload2 hB dX2_comes_157 ?_
    refine zw_iconst (x := nI 3) hB dX2_comes_158 (by decide) ?_
    refine zw_iaddN hB dX2_comes_159 ?_
    refine zw_callV1P (M' := mX2_number) hB dX2_comes_160 zl_X2_82 zg_X2_number (zRc.of rfl rfl rfl) (s_X2_number hL h96 hA hc (hd _ (by omega) (by omega)).1 (hd _ (by omega) (by omega)).2.1 (hd _ (by omega) (by omega)).2.1) ?_
    refine zw_callS4 (M' := mX2_heartComes) hB dX2_comes_163 zl_X2_85 zg_X2_heartComes (s_X2_heartComes hg (by omega) (by omega) (show zn2 (zlc l) (b + 3) < 100 by omega)) (fun v163 σ163 hq163 => ?_)
    obtain ⟨rfl, z1, z2⟩ := hq163
    refine zw_zret hB hR dX2_comes_166 rfl (zb_nar _) ?_
    exact ⟨rfl, z1, z2⟩
  · have ez : zdo (zlc l) b (zrow σ 17) = zdS (zlc l (b + 1) - 48) (zrow σ 17) := by
      unfold zdo
      rw [if_neg (by omega), if_neg (by omega), if_neg (by omega), if_neg (by omega), if_neg (by omega), if_pos q115]
    rw [ez] at hR
    have k0 := hk 0 (by rw [q115]; decide)
    rw [q115] at k0
    have e0 := zft_d (c := zlc l (b + 1)) k0.2
    have L0 : b + 1 < l.length := by have := k0.1; omega
    have hd : ∀ i, b < i → i ≤ b + 1 → i < l.length ∧ 48 ≤ zlc l i ∧ zlc l i ≤ 57 := by
      intro i h1 h2
      have h9 : i = b + 1 := by omega
      subst h9
      exact ⟨L0, e0⟩
    refine zw_aload0 hB dX2_comes_0 ?_
    refine zw_getfR hB dX2_comes_1 zf_X2_9 rfl rfl ?_
    refine zw_iload2 hB dX2_comes_4 ?_
    refine zw_ialdV (x := nI 115) hB dX2_comes_5 rfl (by omega) (by decide) ((hA b hb).trans ((zlc_n hc hb).1.trans (by rw [q115]))) ?_
    refine zw_tabG (off := 161) (tgt := 167) hB dX2_comes_6 (by decide) (by decide) (by decide) ?_
    refine zw_aload1 hB dX2_comes_167 ?_
    refine zw_aload0 hB dX2_comes_168 ?_
    refine zw_iload2 hB dX2_comes_169 ?_
    refine zw_iconst (x := nI 1) hB dX2_comes_170 (by decide) ?_
    refine zw_iaddN hB dX2_comes_171 ?_
    refine zw_callV1P (M' := mX2_digit) hB dX2_comes_172 zl_X2_72 zg_X2_digit (zRc.of rfl rfl rfl) (s_X2_digit hL h96 hA hc (hd _ (by omega) (by omega)).1 (hd _ (by omega) (by omega)).2.1) ?_
    refine zw_callS2 (M' := mX2_stepComes) hB dX2_comes_175 zl_X2_89 zg_X2_stepComes (s_X2_stepComes hg (by omega)) (fun v175 σ175 hq175 => ?_)
    obtain ⟨rfl, z1, z2⟩ := hq175
    refine zw_zret hB hR dX2_comes_178 rfl (zb_nar _) ?_
    exact ⟨rfl, z1, z2⟩
  · have ez : zdo (zlc l) b (zrow σ 17) = zdY (zn2 (zlc l) (b + 1)) (zrow σ 17) := by
      unfold zdo
      rw [if_neg (by omega), if_neg (by omega), if_neg (by omega), if_neg (by omega), if_neg (by omega), if_neg (by omega)]
    rw [ez] at hR
    have k0 := hk 0 (by rw [q121]; decide)
    rw [q121] at k0
    have e0 := zft_d (c := zlc l (b + 1)) k0.2
    have L0 : b + 1 < l.length := by have := k0.1; omega
    have k1 := hk 1 (by rw [q121]; decide)
    rw [q121] at k1
    have e1 := zft_d (c := zlc l (b + 2)) k1.2
    have L1 : b + 2 < l.length := by have := k1.1; omega
    have hd : ∀ i, b < i → i ≤ b + 2 → i < l.length ∧ 48 ≤ zlc l i ∧ zlc l i ≤ 57 := by
      intro i h1 h2
      have h9 : i = b + 1 ∨ i = b + 2 := by omega
      rcases h9 with rfl | rfl
      · exact ⟨L0, e0⟩
      · exact ⟨L1, e1⟩
    have bn : zn2 (zlc l) (b + 1) ≤ 99 := by unfold zn2; have h1 := (hd (b + 1) (by omega) (by omega)).2; have h2 := (hd (b + 1 + 1) (by omega) (by omega)).2; omega
    refine zw_aload0 hB dX2_comes_0 ?_
    refine zw_getfR hB dX2_comes_1 zf_X2_9 rfl rfl ?_
    refine zw_iload2 hB dX2_comes_4 ?_
    refine zw_ialdV (x := nI 121) hB dX2_comes_5 rfl (by omega) (by decide) ((hA b hb).trans ((zlc_n hc hb).1.trans (by rw [q121]))) ?_
    refine zw_tabG (off := 173) (tgt := 179) hB dX2_comes_6 (by decide) (by decide) (by decide) ?_
    refine zw_aload1 hB dX2_comes_179 ?_
    refine zw_aload0 hB dX2_comes_180 ?_
    refine zw_iload2 hB dX2_comes_181 ?_
    refine zw_iconst (x := nI 1) hB dX2_comes_182 (by decide) ?_
    refine zw_iaddN hB dX2_comes_183 ?_
    refine zw_callV1P (M' := mX2_number) hB dX2_comes_184 zl_X2_82 zg_X2_number (zRc.of rfl rfl rfl) (s_X2_number hL h96 hA hc (hd _ (by omega) (by omega)).1 (hd _ (by omega) (by omega)).2.1 (hd _ (by omega) (by omega)).2.1) ?_
    refine zw_callS2 (M' := mX2_yearsCome) hB dX2_comes_187 zl_X2_92 zg_X2_yearsCome (s_X2_yearsCome hg (show zn2 (zlc l) (b + 1) < 100 by omega) hy ey) (fun v187 σ187 hq187 => ?_)
    obtain ⟨rfl, z1, z2⟩ := hq187
    refine zw_zret hB hR dX2_comes_190 rfl (zb_nar _) ?_
    exact ⟨rfl, z1, z2⟩

