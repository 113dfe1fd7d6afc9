theorem s_X4_firstSeat {n : Nat} {σ : zSt} {F P : Nat} (hg : zGd (zrow σ 1) F P) (hT : ∀ q, q ≤ P → ∀ T, T < 2 ^ F → σ 45 (64 * q + T) = nI (zbs (zcg (zrow σ 1)) F P (P - q) T)) {p T : Nat} (hp : p < P) (hT2 : T < 2 ^ F) : zSem (n + 2) mX4_firstSeat [.ref 44, .ref 1, .int (nI p), .int (nI T)] σ (zP σ (.int (zopt (zse (zcg (zrow σ 1) p) (zbs (zcg (zrow σ 1)) F P (P - (p + 1))) T (zbs (zcg (zrow σ 1)) F P (P - p) T) F)))) := by
  have hF6 := hg.F6
  have hP6 := hg.P6
  have hP : σ 1 1 = nI P := hg.r1
  have hF : σ 1 0 = nI F := hg.r0
  refine zSem.of (by decide +kernel) (Nat.le_of_ble_eq_true rfl) (fun X hB hR => ?_)
  show zW X 0 [some (.ref 44), some (.ref 1), some (.int (nI p)), some (.int (nI T)), none, none] [] σ
  have h64 := z2F F hF6
  have hl : ∀ j, j ≤ F → ∀ a5 : Option Value, (zse (zcg (zrow σ 1) p) (zbs (zcg (zrow σ 1)) F P (P - (p + 1))) T (zbs (zcg (zrow σ 1)) F P (P - p) T) F) = zfst (fun j => decide (¬ T.testBit j = true ∧ zcg (zrow σ 1) p j + zbs (zcg (zrow σ 1)) F P (P - (p + 1)) (T ||| 2 ^ j) = zbs (zcg (zrow σ 1)) F P (P - p) T)) j (F - j) → zW X 3 [some (.ref 44), some (.ref 1), some (.int (nI p)), some (.int (nI T)), some (.int (nI j)), a5] [] σ := by
    refine zfor F (fun j hj ih => ?_)
    intro a5 hq
    refine zw_iload4 hB dX4_firstSeat_3 ?_
    refine zw_aload1 hB dX4_firstSeat_5 ?_
    refine zw_getfV (x := nI F) hB dX4_firstSeat_6 zf_X4_15 zld1.1 rfl (hF) ?_
    refine zw_icmp_geN (tgt := 67) hB dX4_firstSeat_9 (by decide) (by omega) (by omega) (fun c9 => ?_) (fun c9 => ?_)
    · refine zw_bipush (x := -9) hB dX4_firstSeat_67 (by decide) ?_
      refine zw_iret hB hR dX4_firstSeat_69 rfl ?_
      have e9 : (zse (zcg (zrow σ 1) p) (zbs (zcg (zrow σ 1)) F P (P - (p + 1))) T (zbs (zcg (zrow σ 1)) F P (P - p) T) F) = none := by rw [hq]; exact zfst_e (by omega)
      exact ⟨by rw [e9]; rfl, rfl⟩
    · refine zw_iload4 hB dX4_firstSeat_12 ?_
      refine zw_iload3 hB dX4_firstSeat_14 ?_
      refine zw_callS2P (M' := mX4_isOpen) hB dX4_firstSeat_15 zl_X4_35 zg_X4_isOpen (s_X4_isOpen (by omega) (by omega)) ?_
      refine zw_if_eqB (tgt := 61) hB dX4_firstSeat_18 (by decide) (fun c18 => ?_) (fun c18 => ?_)
      · refine zw_iinc4 hB dX4_firstSeat_61 (by first | exact zinc _ | rfl) (by first | rfl | assumption) ?_
        refine zw_goto (tgt := 3) hB dX4_firstSeat_64 (by decide) ?_
        exact ih c9 _ (by rw [hq, zfst_s c9, if_neg (by rw [decide_eq_true_eq]; exact fun z => c18 z.1)])
      · refine zw_aload1 hB dX4_firstSeat_21 ?_
        refine zw_iload2 hB dX4_firstSeat_22 ?_
        refine zw_iload4 hB dX4_firstSeat_23 ?_
        refine zw_callV2P (M' := mX1_grownAt) hB dX4_firstSeat_25 zl_X4_28 zg_X1_grownAt (zRc.of zld1.1 rfl rfl) (s_X1_grownAt zld1 hg hp (by omega)) ?_
        rw [(zcg_n hg (by omega)).1]
        refine zw_aload0 hB dX4_firstSeat_28 ?_
        refine zw_iload2 hB dX4_firstSeat_29 ?_
        refine zw_iload3 hB dX4_firstSeat_30 ?_
        refine zw_iconst (x := nI 1) hB dX4_firstSeat_31 (by decide) ?_
        refine zw_iload4 hB dX4_firstSeat_32 ?_
        refine zw_ishl hB dX4_firstSeat_34 ?_
        refine zw_ior hB dX4_firstSeat_35 ?_
        rw [zor T (by omega) j (by omega)]
        refine zw_callV2P (M' := mX4_mostBehind) hB dX4_firstSeat_36 zl_X4_24 zg_X4_mostBehind (zRc.of rfl rfl rfl) (s_X4_mostBehind (by omega) (by have := zor_lt hT2 c9; omega)) ?_
        rw [hT (p + 1) (by omega) _ (zor_lt hT2 c9)]
        refine zw_iadd hB dX4_firstSeat_39 ?_
        rw [nI_add]
        refine zw_istore5 hB dX4_firstSeat_40 (by first | rfl | assumption) ?_
        have b1 := (zcg_n (p := p) (f := j) hg (by omega)).2
        have b2 := zbs_le (c := zcg (zrow σ 1)) (F := F) (P := P) (fun q i hi => (zcg_n hg (by omega)).2) (P - (p + 1)) (T ||| 2 ^ j)
        have b3 := zbs_le (c := zcg (zrow σ 1)) (F := F) (P := P) (fun q i hi => (zcg_n hg (by omega)).2) (P - p) T
        refine zw_iload5 hB dX4_firstSeat_42 ?_
        refine zw_aload0 hB dX4_firstSeat_44 ?_
        refine zw_getfR hB dX4_firstSeat_45 zf_X4_11 rfl rfl ?_
        refine zw_bipush (x := nI 64) hB dX4_firstSeat_48 (by decide) ?_
        refine zw_iload2 hB dX4_firstSeat_50 ?_
        refine zw_imulN hB dX4_firstSeat_51 ?_
        refine zw_iload3 hB dX4_firstSeat_52 ?_
        refine zw_iaddN hB dX4_firstSeat_53 ?_
        refine zw_ialdV (x := nI (zbs (zcg (zrow σ 1)) F P (P - p) T)) hB dX4_firstSeat_54 rfl (by omega) (by decide) (hT p (by omega) T hT2) ?_
        refine zw_icmp_neN (tgt := 61) hB dX4_firstSeat_55 (by decide) (by omega) (by omega) (fun c55 => ?_) (fun c55 => ?_)
        · refine zw_iinc4 hB dX4_firstSeat_61 (by first | exact zinc _ | rfl) (by first | rfl | assumption) ?_
          refine zw_goto (tgt := 3) hB dX4_firstSeat_64 (by decide) ?_
          exact ih c9 _ (by rw [hq, zfst_s c9, if_neg (by rw [decide_eq_true_eq]; exact fun z => c55 z.2)])
        · refine zw_iload4 hB dX4_firstSeat_58 ?_
          refine zw_iret hB hR dX4_firstSeat_60 rfl ?_
          have e9 : (zse (zcg (zrow σ 1) p) (zbs (zcg (zrow σ 1)) F P (P - (p + 1))) T (zbs (zcg (zrow σ 1)) F P (P - p) T) F) = some j := by rw [hq, zfst_s c9, if_pos (decide_eq_true ⟨c18, c55⟩)]
          exact ⟨by rw [e9]; rfl, rfl⟩
  refine zw_iconst (x := nI 0) hB dX4_firstSeat_0 (by decide) ?_
  refine zw_istore4 hB dX4_firstSeat_1 (by first | rfl | assumption) ?_
  exact hl 0 (by omega) _ rfl
theorem zse_in {c N : Nat → Nat} {T b F : Nat} : ∀ j, zse c N T b F = some j → j < F := by
  intro j h
  have := zfst_lt _ _ h
  omega
theorem s_X4_seatOf {n : Nat} {σ : zSt} {F P : Nat} (hg : zGd (zrow σ 1) F P) (hT : ∀ q, q ≤ P → ∀ T, T < 2 ^ F → σ 45 (64 * q + T) = nI (zbs (zcg (zrow σ 1)) F P (P - q) T)) {q : Nat} (hq : q < P) : zSem (n + 3) mX4_seatOf [.ref 44, .ref 1, .int (nI q)] σ (zP σ (.int (zcp (zcg (zrow σ 1)) F P P 0 q))) := by
  have hF6 := hg.F6
  have hP6 := hg.P6
  have hP : σ 1 1 = nI P := hg.r1
  refine zSem.of (by decide +kernel) (Nat.le_of_ble_eq_true rfl) (fun X hB hR => ?_)
  show zW X 0 [some (.ref 44), some (.ref 1), some (.int (nI q)), none, none, none] [] σ
  have h64 := z2F F hF6
  have hl : ∀ i, i ≤ q + 1 → ∀ (T : Nat) (v : Int32), T < 2 ^ F → (i ≤ q → zcp (zcg (zrow σ 1)) F P P 0 q = zcp (zcg (zrow σ 1)) F P (P - i) (T) q) → (i = q + 1 → v = zcp (zcg (zrow σ 1)) F P P 0 q) → zW X 9 [some (.ref 44), some (.ref 1), some (.int (nI q)), some (.int (nI T)), some (.int v), some (.int (nI i))] [] σ := by
    refine zfor (q + 1) (fun i hi ih => ?_)
    intro T v hT2 h1 h2
    refine zw_iload5 hB dX4_seatOf_9 ?_
    refine zw_iload2 hB dX4_seatOf_11 ?_
    refine zw_icmp_gtN (tgt := 49) hB dX4_seatOf_12 (by decide) (by omega) (by omega) (fun c12 => ?_) (fun c12 => ?_)
    · refine zw_iload4 hB dX4_seatOf_49 ?_
      refine zw_iret hB hR dX4_seatOf_51 rfl ?_
      exact ⟨by rw [h2 (by omega)], rfl⟩
    · refine zw_aload0 hB dX4_seatOf_15 ?_
      refine zw_aload1 hB dX4_seatOf_16 ?_
      refine zw_iload5 hB dX4_seatOf_17 ?_
      refine zw_iload3 hB dX4_seatOf_19 ?_
      refine zw_callV3P (M' := mX4_firstSeat) hB dX4_seatOf_20 zl_X4_44 zg_X4_firstSeat (zRc.of rfl rfl rfl) (s_X4_firstSeat hg hT (by omega) hT2) ?_
      have e1 : zcp (zcg (zrow σ 1)) F P (P - i) T q = if q = i then zopt (zse (zcg (zrow σ 1) i) (zbs (zcg (zrow σ 1)) F P (P - (i + 1))) T (zbs (zcg (zrow σ 1)) F P (P - i) T) F) else zcp (zcg (zrow σ 1)) F P (P - (i + 1)) (zsp T (zse (zcg (zrow σ 1) i) (zbs (zcg (zrow σ 1)) F P (P - (i + 1))) T (zbs (zcg (zrow σ 1)) F P (P - i) T) F)) q := by
        rw [show P - i = (P - (i + 1)) + 1 by omega]
        show (if q = P - (P - (i + 1) + 1) then _ else _) = _
        rw [show P - (P - (i + 1) + 1) = i by omega]
      have hse := zse_in (c := zcg (zrow σ 1) i) (N := zbs (zcg (zrow σ 1)) F P (P - (i + 1))) (T := T) (b := zbs (zcg (zrow σ 1)) F P (P - i) T) (F := F)
      generalize (zse (zcg (zrow σ 1) i) (zbs (zcg (zrow σ 1)) F P (P - (i + 1))) T (zbs (zcg (zrow σ 1)) F P (P - i) T) F) = s at e1 hse ⊢
      refine zw_istore4 hB dX4_seatOf_23 (by first | rfl | assumption) ?_
      refine zw_iload3 hB dX4_seatOf_25 ?_
      refine zw_iload4 hB dX4_seatOf_26 ?_
      refine zw_bipush (x := -9) hB dX4_seatOf_28 (by decide) ?_
      have hs2 : (s = none ∧ zopt s = -9) ∨ ∃ j, s = some j ∧ j < F ∧ zopt s = nI j := by
        cases s with
        | none => exact Or.inl ⟨rfl, rfl⟩
        | some j => exact Or.inr ⟨j, rfl, hse j rfl, rfl⟩
      refine zw_icmp_ne (tgt := 37) hB dX4_seatOf_30 (by decide) (fun c30 => ?_) (fun c30 => ?_)
      · refine zw_iconst (x := nI 1) hB dX4_seatOf_37 (by decide) ?_
        obtain ⟨j, ej, hjF, ez⟩ := hs2.resolve_left (fun z => c30 z.2)
        rw [ez]
        refine zw_iload4 hB dX4_seatOf_38 ?_
        refine zw_ishl hB dX4_seatOf_40 ?_
        refine zw_ior hB dX4_seatOf_41 ?_
        rw [zor T (by omega) j (by omega)]
        refine zw_istore3 hB dX4_seatOf_42 (by first | rfl | assumption) ?_
        refine zw_iinc5 hB dX4_seatOf_43 (by first | exact zinc _ | rfl) (by first | rfl | assumption) ?_
        refine zw_goto (tgt := 9) hB dX4_seatOf_46 (by decide) ?_
        refine ih (by omega) _ _ (zor_lt hT2 hjF) (fun hq2 => ?_) (fun hq2 => ?_)
        · rw [h1 (by omega), e1, if_neg (by omega), ej]; rfl
        · rw [h1 (by omega), e1, if_pos (by omega), ez]
      · refine zw_iconst (x := nI 0) hB dX4_seatOf_33 (by decide) ?_
        refine zw_goto (tgt := 41) hB dX4_seatOf_34 (by decide) ?_
        refine zw_ior hB dX4_seatOf_41 ?_
        have es : s = none := by
          rcases hs2 with z | ⟨j, _, hjF, ez⟩
          · exact z.1
          · exact absurd (ez.symm.trans c30) (nI_n9 (by omega))
        refine zw_eqI (y := nI T) (by rw [nI_0]; exact Int32.or_zero) ?_
        refine zw_istore3 hB dX4_seatOf_42 (by first | rfl | assumption) ?_
        refine zw_iinc5 hB dX4_seatOf_43 (by first | exact zinc _ | rfl) (by first | rfl | assumption) ?_
        refine zw_goto (tgt := 9) hB dX4_seatOf_46 (by decide) ?_
        refine ih (by omega) T _ hT2 (fun hq2 => ?_) (fun hq2 => ?_)
        · rw [h1 (by omega), e1, if_neg (by omega), es]; rfl
        · rw [h1 (by omega), e1, if_pos (by omega)]
  refine zw_iconst (x := nI 0) hB dX4_seatOf_0 (by decide) ?_
  refine zw_istore3 hB dX4_seatOf_1 (by first | rfl | assumption) ?_
  refine zw_bipush (x := -9) hB dX4_seatOf_2 (by decide) ?_
  refine zw_istore4 hB dX4_seatOf_4 (by first | rfl | assumption) ?_
  refine zw_iconst (x := nI 0) hB dX4_seatOf_6 (by decide) ?_
  refine zw_istore5 hB dX4_seatOf_7 (by first | rfl | assumption) ?_
  exact hl 0 (by omega) 0 _ (by have := z2Fp F hF6; omega) (fun _ => rfl) (fun z => absurd z (by omega))
theorem s_X5_next {n : Nat} {σ : zSt} {S : zS} (hS : zOk S) (h : zCW S σ) (p : Int32) : zSem (n + 4) mX5_next [.ref 0, .int p] σ (zCQ (q_next S p) σ) := by
  obtain ⟨⟨⟨F, P, hg0⟩, y0, hy0, ey0⟩, hkp, hlt, hrw⟩ := id hS
  have hnF := hg0.nF
  have hnP := hg0.nP
  have hr0 := h.1
  have hg : zGd (zrow σ 1) F P := by rw [hr0]; exact hg0
  have hF6 := hg.F6
  have hP6 := hg.P6
  have hF : σ 1 0 = nI F := hg.r0
  have hP : σ 1 1 = nI P := hg.r1
  unfold q_next
  try rw [hnF]
  try rw [hnP]
  refine zSem.of (by decide +kernel) (Nat.le_of_ble_eq_true rfl) (fun X hB hR => ?_)
  show zW X 0 [some (.ref 0), some (.int p), none] [] σ
  refine zw_iload1 hB dX5_next_0 ?_
  refine zw_iconst (x := -1) hB dX5_next_1 (by decide) ?_
  refine zw_icmp_eq (tgt := 16) hB dX5_next_2 (by decide) (fun c2 => ?_) (fun c2 => ?_)
  · refine zw_iconst (x := nI 1) hB dX5_next_16 (by decide) ?_
    refine zw_goto (tgt := 21) hB dX5_next_17 (by decide) ?_
    refine zw_eqI (y := zb (p = -1 ∨ zIn p P)) (zb_t (Or.inl c2)).symm ?_
    refine zw_callS1P (M' := mX5_nobodyUnless) hB dX5_next_21 zl_X5_82 zg_X5_nobodyUnless (s_X5_nobodyUnless) ?_
    refine zw_istore2 hB dX5_next_24 (by first | rfl | assumption) ?_
    refine zw_iload2 hB dX5_next_25 ?_
    refine zw_if_eq (tgt := 35) hB dX5_next_26 (by decide) (fun c26 => ?_) (fun c26 => ?_)
    · refine zw_aload0 hB dX5_next_35 ?_
      refine zw_getfR hB dX5_next_36 zf_X5_32 rfl rfl ?_
      refine zw_getfR hB dX5_next_39 zf_X5_178 rfl rfl ?_
      refine zw_aload0 hB dX5_next_42 ?_
      refine zw_getfR hB dX5_next_43 zf_X5_10 rfl rfl ?_
      refine zw_callV1 (M' := mX4_plan) hB dX5_next_46 zl_X5_182 zg_X4_plan (zRc.of rfl rfl rfl) (s_X4_plan hg) (fun v46 σ46 hq46 => ?_)
      obtain ⟨rfl, x1, x2⟩ := hq46
      have r1 : zrow σ46 1 = zrow σ 1 := zrow_congr (fun d _ _ => x2 d (by omega))
      have g1 : zGd (zrow σ46 1) F P := by rw [r1]; exact hg
      have xT := x1
      rw [← r1] at x1
      refine zw_iload1 hB dX5_next_49 ?_
      refine zw_iconst (x := -1) hB dX5_next_50 (by decide) ?_
      refine zw_icmp_ne (tgt := 67) hB dX5_next_51 (by decide) (fun c51 => ?_) (fun c51 => ?_)
      · obtain ⟨j, hj, rfl⟩ := zIn_j (by omega) ((znb_0 c26).resolve_left c51)
        refine zw_aload0 hB dX5_next_67 ?_
        refine zw_getfR hB dX5_next_68 zf_X5_32 rfl rfl ?_
        refine zw_getfR hB dX5_next_71 zf_X5_178 rfl rfl ?_
        refine zw_aload0 hB dX5_next_74 ?_
        refine zw_getfR hB dX5_next_75 zf_X5_10 rfl rfl ?_
        refine zw_iload1 hB dX5_next_78 ?_
        refine zw_callV2P (M' := mX4_seatOf) hB dX5_next_79 zl_X5_190 zg_X4_seatOf (zRc.of rfl rfl rfl) (s_X4_seatOf g1 x1 hj) ?_
        refine zw_iret hB hR dX5_next_82 rfl ?_
        refine zCQ.ok h c26 ?_ (fun c hc => x2 c (by omega))
        rw [if_neg c51, nI_clamp (by omega), ← hr0, r1]
      · refine zw_aload0 hB dX5_next_54 ?_
        refine zw_getfR hB dX5_next_55 zf_X5_32 rfl rfl ?_
        refine zw_getfR hB dX5_next_58 zf_X5_178 rfl rfl ?_
        refine zw_callV0P (M' := mX4_most) hB dX5_next_61 zl_X5_187 zg_X4_most (zRc.of rfl rfl rfl) (s_X4_most) ?_
        refine zw_goto (tgt := 82) hB dX5_next_64 (by decide) ?_
        refine zw_iret hB hR dX5_next_82 rfl ?_
        refine zCQ.ok h c26 ?_ (fun c hc => x2 c (by omega))
        have xz := xT 0 (Nat.zero_le _) 0 (by have := z2Fp F hF6; omega)
        rw [Nat.mul_zero, Nat.add_zero, Nat.sub_zero] at xz
        rw [if_pos c51, ← hr0, xz]
    · obtain ⟨k, hk, hc⟩ := (zcd_nb).resolve_left c26
      refine zw_aload0 hB dX5_next_29 ?_
      refine zw_iload2 hB dX5_next_30 ?_
      refine zw_callV1 (M' := mX5_refuse) hB dX5_next_31 zl_X5_58 zg_X5_refuse (zRc.of rfl rfl rfl) (s_X5_refuse _ hc hk) (fun v31 σ31 hq31 => ?_)
      obtain ⟨rfl, rfl⟩ := hq31
      refine zw_iret hB hR dX5_next_34 rfl ?_
      exact zCQ.no h c26 hk hc
  · refine zw_aload0 hB dX5_next_5 ?_
    refine zw_getfR hB dX5_next_6 zf_X5_10 rfl rfl ?_
    refine zw_iload1 hB dX5_next_9 ?_
    refine zw_callV1P (M' := mX1_hasFarmer) hB dX5_next_10 zl_X5_98 zg_X1_hasFarmer (zRc.of zld1.1 rfl rfl) (s_hasFarmer zld1 hP _) ?_
    refine zw_if_eqB (tgt := 20) hB dX5_next_13 (by decide) (fun c13 => ?_) (fun c13 => ?_)
    · refine zw_iconst (x := nI 0) hB dX5_next_20 (by decide) ?_
      refine zw_eqI (y := zb (p = -1 ∨ zIn p P)) (zb_f (fun z => z.elim c2 c13)).symm ?_
      refine zw_callS1P (M' := mX5_nobodyUnless) hB dX5_next_21 zl_X5_82 zg_X5_nobodyUnless (s_X5_nobodyUnless) ?_
      refine zw_istore2 hB dX5_next_24 (by first | rfl | assumption) ?_
      refine zw_iload2 hB dX5_next_25 ?_
      refine zw_if_eq (tgt := 35) hB dX5_next_26 (by decide) (fun c26 => ?_) (fun c26 => ?_)
      · refine zw_aload0 hB dX5_next_35 ?_
        refine zw_getfR hB dX5_next_36 zf_X5_32 rfl rfl ?_
        refine zw_getfR hB dX5_next_39 zf_X5_178 rfl rfl ?_
        refine zw_aload0 hB dX5_next_42 ?_
        refine zw_getfR hB dX5_next_43 zf_X5_10 rfl rfl ?_
        refine zw_callV1 (M' := mX4_plan) hB dX5_next_46 zl_X5_182 zg_X4_plan (zRc.of rfl rfl rfl) (s_X4_plan hg) (fun v46 σ46 hq46 => ?_)
        obtain ⟨rfl, x1, x2⟩ := hq46
        have r1 : zrow σ46 1 = zrow σ 1 := zrow_congr (fun d _ _ => x2 d (by omega))
        have g1 : zGd (zrow σ46 1) F P := by rw [r1]; exact hg
        have xT := x1
        rw [← r1] at x1
        refine zw_iload1 hB dX5_next_49 ?_
        refine zw_iconst (x := -1) hB dX5_next_50 (by decide) ?_
        refine zw_icmp_ne (tgt := 67) hB dX5_next_51 (by decide) (fun c51 => ?_) (fun c51 => ?_)
        · obtain ⟨j, hj, rfl⟩ := zIn_j (by omega) ((znb_0 c26).resolve_left c51)
          refine zw_aload0 hB dX5_next_67 ?_
          refine zw_getfR hB dX5_next_68 zf_X5_32 rfl rfl ?_
          refine zw_getfR hB dX5_next_71 zf_X5_178 rfl rfl ?_
          refine zw_aload0 hB dX5_next_74 ?_
          refine zw_getfR hB dX5_next_75 zf_X5_10 rfl rfl ?_
          refine zw_iload1 hB dX5_next_78 ?_
          refine zw_callV2P (M' := mX4_seatOf) hB dX5_next_79 zl_X5_190 zg_X4_seatOf (zRc.of rfl rfl rfl) (s_X4_seatOf g1 x1 hj) ?_
          refine zw_iret hB hR dX5_next_82 rfl ?_
          refine zCQ.ok h c26 ?_ (fun c hc => x2 c (by omega))
          rw [if_neg c51, nI_clamp (by omega), ← hr0, r1]
        · refine zw_aload0 hB dX5_next_54 ?_
          refine zw_getfR hB dX5_next_55 zf_X5_32 rfl rfl ?_
          refine zw_getfR hB dX5_next_58 zf_X5_178 rfl rfl ?_
          refine zw_callV0P (M' := mX4_most) hB dX5_next_61 zl_X5_187 zg_X4_most (zRc.of rfl rfl rfl) (s_X4_most) ?_
          refine zw_goto (tgt := 82) hB dX5_next_64 (by decide) ?_
          refine zw_iret hB hR dX5_next_82 rfl ?_
          refine zCQ.ok h c26 ?_ (fun c hc => x2 c (by omega))
          have xz := xT 0 (Nat.zero_le _) 0 (by have := z2Fp F hF6; omega)
          rw [Nat.mul_zero, Nat.add_zero, Nat.sub_zero] at xz
          rw [if_pos c51, ← hr0, xz]
      · obtain ⟨k, hk, hc⟩ := (zcd_nb).resolve_left c26
        refine zw_aload0 hB dX5_next_29 ?_
        refine zw_iload2 hB dX5_next_30 ?_
        refine zw_callV1 (M' := mX5_refuse) hB dX5_next_31 zl_X5_58 zg_X5_refuse (zRc.of rfl rfl rfl) (s_X5_refuse _ hc hk) (fun v31 σ31 hq31 => ?_)
        obtain ⟨rfl, rfl⟩ := hq31
        refine zw_iret hB hR dX5_next_34 rfl ?_
        exact zCQ.no h c26 hk hc
    · refine zw_iconst (x := nI 1) hB dX5_next_16 (by decide) ?_
      refine zw_goto (tgt := 21) hB dX5_next_17 (by decide) ?_
      refine zw_eqI (y := zb (p = -1 ∨ zIn p P)) (zb_t (Or.inr c13)).symm ?_
      refine zw_callS1P (M' := mX5_nobodyUnless) hB dX5_next_21 zl_X5_82 zg_X5_nobodyUnless (s_X5_nobodyUnless) ?_
      refine zw_istore2 hB dX5_next_24 (by first | rfl | assumption) ?_
      refine zw_iload2 hB dX5_next_25 ?_
      refine zw_if_eq (tgt := 35) hB dX5_next_26 (by decide) (fun c26 => ?_) (fun c26 => ?_)
      · refine zw_aload0 hB dX5_next_35 ?_
        refine zw_getfR hB dX5_next_36 zf_X5_32 rfl rfl ?_
        refine zw_getfR hB dX5_next_39 zf_X5_178 rfl rfl ?_
        refine zw_aload0 hB dX5_next_42 ?_
        refine zw_getfR hB dX5_next_43 zf_X5_10 rfl rfl ?_
        refine zw_callV1 (M' := mX4_plan) hB dX5_next_46 zl_X5_182 zg_X4_plan (zRc.of rfl rfl rfl) (s_X4_plan hg) (fun v46 σ46 hq46 => ?_)
        obtain ⟨rfl, x1, x2⟩ := hq46
        have r1 : zrow σ46 1 = zrow σ 1 := zrow_congr (fun d _ _ => x2 d (by omega))
        have g1 : zGd (zrow σ46 1) F P := by rw [r1]; exact hg
        have xT := x1
        rw [← r1] at x1
        refine zw_iload1 hB dX5_next_49 ?_
        refine zw_iconst (x := -1) hB dX5_next_50 (by decide) ?_
        refine zw_icmp_ne (tgt := 67) hB dX5_next_51 (by decide) (fun c51 => ?_) (fun c51 => ?_)
        · obtain ⟨j, hj, rfl⟩ := zIn_j (by omega) ((znb_0 c26).resolve_left c51)
          refine zw_aload0 hB dX5_next_67 ?_
          refine zw_getfR hB dX5_next_68 zf_X5_32 rfl rfl ?_
          refine zw_getfR hB dX5_next_71 zf_X5_178 rfl rfl ?_
          refine zw_aload0 hB dX5_next_74 ?_
          refine zw_getfR hB dX5_next_75 zf_X5_10 rfl rfl ?_
          refine zw_iload1 hB dX5_next_78 ?_
          refine zw_callV2P (M' := mX4_seatOf) hB dX5_next_79 zl_X5_190 zg_X4_seatOf (zRc.of rfl rfl rfl) (s_X4_seatOf g1 x1 hj) ?_
          refine zw_iret hB hR dX5_next_82 rfl ?_
          refine zCQ.ok h c26 ?_ (fun c hc => x2 c (by omega))
          rw [if_neg c51, nI_clamp (by omega), ← hr0, r1]
        · refine zw_aload0 hB dX5_next_54 ?_
          refine zw_getfR hB dX5_next_55 zf_X5_32 rfl rfl ?_
          refine zw_getfR hB dX5_next_58 zf_X5_178 rfl rfl ?_
          refine zw_callV0P (M' := mX4_most) hB dX5_next_61 zl_X5_187 zg_X4_most (zRc.of rfl rfl rfl) (s_X4_most) ?_
          refine zw_goto (tgt := 82) hB dX5_next_64 (by decide) ?_
          refine zw_iret hB hR dX5_next_82 rfl ?_
          refine zCQ.ok h c26 ?_ (fun c hc => x2 c (by omega))
          have xz := xT 0 (Nat.zero_le _) 0 (by have := z2Fp F hF6; omega)
          rw [Nat.mul_zero, Nat.add_zero, Nat.sub_zero] at xz
          rw [if_pos c51, ← hr0, xz]
      · obtain ⟨k, hk, hc⟩ := (zcd_nb).resolve_left c26
        refine zw_aload0 hB dX5_next_29 ?_
        refine zw_iload2 hB dX5_next_30 ?_
        refine zw_callV1 (M' := mX5_refuse) hB dX5_next_31 zl_X5_58 zg_X5_refuse (zRc.of rfl rfl rfl) (s_X5_refuse _ hc hk) (fun v31 σ31 hq31 => ?_)
        obtain ⟨rfl, rfl⟩ := hq31
        refine zw_iret hB hR dX5_next_34 rfl ?_
        exact zCQ.no h c26 hk hc
