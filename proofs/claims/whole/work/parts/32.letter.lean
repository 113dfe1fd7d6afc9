/-! CLASS: letter -/
theorem zCW.letL {S : zS} {σ τ : zSt} {l : List Int32} (h : zCW S σ) (k : ∀ c, c ≠ 25 → c ≠ 26 → τ c = σ c) (h7 : τ 25 1 = nI l.length) (ha : zArr (τ 26) l) : zCW (S.1, S.2.1, l, S.2.2.2) τ := by
  refine ⟨(zrow_congr (fun c _ _ => k c (by omega) (by omega))).trans h.1, ?_, ⟨h7, ha⟩, ?_, fun j hj => by rw [k 49 (by omega) (by omega)]; exact h.2.2.2.2 j hj⟩
  · rw [k 0 (by omega) (by omega), show zrow τ 9 = zrow σ 9 from zrow_congr (fun c _ _ => k c (by omega) (by omega))]; exact h.2.1
  · rw [k 0 (by omega) (by omega), k 48 (by omega) (by omega)]; exact h.2.2.2.1
def q_letter (S : zS) (v : Int32) : Value × zS := zq S (zfo (zir v (nI 0) (nI 255)) (zrO (S.2.2.1.length < 96)) (nI 0)) (.int (nI (S.2.2.1.length + 1)), (S.1, S.2.1, S.2.2.1 ++ [v], S.2.2.2))

theorem s_X2_isFull {n : Nat} {σ : zSt}  {L : Nat} (hL : σ 25 1 = nI L) (hb : L ≤ 96) : zSem n mX2_isFull [.ref 25] σ (zP σ (.int (zb (¬ L < 96)))) := by
  refine zSem.of (by decide +kernel) (Nat.le_of_ble_eq_true rfl) (fun X hB hR => ?_)
  show zW X 0 [some (.ref 25)] [] σ
  refine zw_aload0 hB dX2_isFull_0 ?_
  refine zw_getfV (x := nI L) hB dX2_isFull_1 zf_X2_15 rfl rfl (hL) ?_
  refine zw_aload0 hB dX2_isFull_4 ?_
  refine zw_getfR hB dX2_isFull_5 zf_X2_9 rfl rfl ?_
  refine zw_alen hB dX2_isFull_8 rfl ?_
  refine zw_icmp_ltN (tgt := 16) hB dX2_isFull_9 (by decide) (by omega) (by omega) (fun c9 => ?_) (fun c9 => ?_)
  · refine zw_iconst (x := nI 0) hB dX2_isFull_16 (by decide) ?_
    refine zw_zret hB hR dX2_isFull_17 rfl rfl ?_
    exact ⟨by rw [zb_f (fun z => z (by omega))]; rfl, rfl⟩
  · refine zw_iconst (x := nI 1) hB dX2_isFull_12 (by decide) ?_
    refine zw_goto (tgt := 17) hB dX2_isFull_13 (by decide) ?_
    refine zw_zret hB hR dX2_isFull_17 rfl rfl ?_
    exact ⟨by rw [zb_t (show ¬ L < 96 by omega)]; rfl, rfl⟩
theorem s_X2_add {n : Nat} {σ : zSt}  {L : Nat} (hL : σ 25 1 = nI L) (hb : L < 96) (x : Int32) : zSem n mX2_add [.ref 25, .int x] σ (zVo (zC (zC σ 26 (upd (σ 26) L x)) 25 (upd (σ 25) 1 (nI (L + 1))))) := by
  refine zSem.of (by decide +kernel) (Nat.le_of_ble_eq_true rfl) (fun X hB hR => ?_)
  show zW X 0 [some (.ref 25), some (.int x)] [] σ
  refine zw_aload0 hB dX2_add_0 ?_
  refine zw_getfV (x := nI L) hB dX2_add_1 zf_X2_15 rfl rfl (hL) ?_
  refine zw_aload0 hB dX2_add_4 ?_
  refine zw_getfR hB dX2_add_5 zf_X2_9 rfl rfl ?_
  refine zw_alen hB dX2_add_8 rfl ?_
  refine zw_icmp_geN (tgt := 32) hB dX2_add_9 (by decide) (by omega) (by omega) (fun c9 => by first | exact absurd c9 (by omega) | exact absurd (by omega) c9 | omega) (fun c9 => ?_)
  refine zw_aload0 hB dX2_add_12 ?_
  refine zw_getfR hB dX2_add_13 zf_X2_9 rfl rfl ?_
  refine zw_aload0 hB dX2_add_16 ?_
  refine zw_getfV (x := nI L) hB dX2_add_17 zf_X2_15 rfl rfl (hL) ?_
  refine zw_iload1 hB dX2_add_20 ?_
  refine zw_iastN hB dX2_add_21 rfl (by omega) (by decide) ?_
  refine zw_aload0 hB dX2_add_22 ?_
  refine zw_dup hB dX2_add_23 rfl ?_
  refine zw_getfV (x := nI L) hB dX2_add_24 zf_X2_15 rfl rfl (by rw [zC_n (by omega)]; exact hL) ?_
  refine zw_iconst (x := nI 1) hB dX2_add_27 (by decide) ?_
  refine zw_iaddN hB dX2_add_28 ?_
  refine zw_putfI hB dX2_add_29 zfw_X2_15 rfl rfl ?_
  refine zw_vret hB hR dX2_add_32 rfl ?_
  exact ⟨rfl, by rw [zC_n (show 25 ≠ 26 by omega)]⟩
theorem s_X5_letter {n : Nat} {σ : zSt} {S : zS} (hS : zOk S) (h : zCW S σ) (v : Int32) : zSem (n + 1) mX5_letter [.ref 0, .int v] σ (zCQ (q_letter S v) σ) := by
  obtain ⟨⟨⟨F, P, hg0⟩, y0, hy0, ey0⟩, hkp, hlt, hrw⟩ := id hS
  have hnF := hg0.nF
  have hnP := hg0.nP
  have hr0 := h.1
  have hg : zGd (zrow σ 1) F P := by rw [hr0]; exact hg0
  have hF6 := hg.F6
  have hP6 := hg.P6
  have hF : σ 1 0 = nI F := hg.r0
  have hP : σ 1 1 = nI P := hg.r1
  unfold q_letter
  try rw [hnF]
  try rw [hnP]
  refine zSem.of (by decide +kernel) (Nat.le_of_ble_eq_true rfl) (fun X hB hR => ?_)
  show zW X 0 [some (.ref 0), some (.int v), none] [] σ
  refine zw_iload1 hB dX5_letter_0 ?_
  refine zw_iconst (x := nI 0) hB dX5_letter_1 (by decide) ?_
  refine zw_sipush (x := nI 255) hB dX5_letter_2 (by decide) ?_
  refine zw_callS3P (M' := mX5_inRange) hB dX5_letter_5 zl_X5_43 zg_X5_inRange (s_X5_inRange _ _ _) ?_
  refine zw_aload0 hB dX5_letter_8 ?_
  refine zw_getfR hB dX5_letter_9 zf_X5_25 rfl rfl ?_
  refine zw_callV0P (M' := mX2_isFull) hB dX5_letter_12 zl_X5_47 zg_X2_isFull (zRc.of rfl rfl rfl) (s_X2_isFull h.2.2.1.1 hlt.1) ?_
  refine zw_if_neB (tgt := 22) hB dX5_letter_15 (by decide) (fun c15 => ?_) (fun c15 => ?_)
  · refine zw_iconst (x := nI 0) hB dX5_letter_22 (by decide) ?_
    refine zw_eqI (y := zb (S.2.2.1.length < 96)) (zb_f c15).symm ?_
    refine zw_callS1P (M' := mX5_roomIf) hB dX5_letter_23 zl_X5_51 zg_X5_roomIf (s_X5_roomIf) ?_
    refine zw_iconst (x := nI 0) hB dX5_letter_26 (by decide) ?_
    refine zw_callS3P (M' := mX5_firstOf) hB dX5_letter_27 zl_X5_55 zg_X5_firstOf (s_X5_firstOf _ _ _) ?_
    refine zw_istore2 hB dX5_letter_30 rfl ?_
    refine zw_iload2 hB dX5_letter_31 ?_
    refine zw_if_eq (tgt := 41) hB dX5_letter_32 (by decide) (fun c32 => ?_) (fun c32 => ?_)
    · obtain ⟨-, e2, -⟩ := zfo_0 c32
      have hL : S.2.2.1.length < 96 := zrO_0 e2
      refine zw_aload0 hB dX5_letter_41 ?_
      refine zw_getfR hB dX5_letter_42 zf_X5_25 rfl rfl ?_
      refine zw_iload1 hB dX5_letter_45 ?_
      refine zw_callV1U (M' := mX2_add) hB dX5_letter_46 zl_X5_62 zg_X2_add (zRc.of rfl rfl rfl) (s_X2_add h.2.2.1.1 hL _) ?_
      refine zw_aload0 hB dX5_letter_49 ?_
      refine zw_getfR hB dX5_letter_50 zf_X5_25 rfl rfl ?_
      refine zw_getfV (x := nI (S.2.2.1.length + 1)) hB dX5_letter_53 zf_X5_66 rfl rfl (by rw [zC_s, zupd_s]) ?_
      refine zw_iret hB hR dX5_letter_56 rfl ?_
      rw [zq_t c32]
      refine ⟨rfl, h.letL (fun c h0 h8 => ?_) ?_ ?_, fun c hc => ?_⟩
      · rw [zC_n h0, zC_n h8]
      · rw [zC_s, zupd_s, List.length_append]; rfl
      · rw [zC_n (by omega), zC_s]; exact h.2.2.1.2.add
      · rw [zC_n (by omega), zC_n (by omega)]
    · obtain ⟨k, hk, hc⟩ := (zcd_fo zcd_ir zcd_rm zcd_0).resolve_left c32
      refine zw_aload0 hB dX5_letter_35 ?_
      refine zw_iload2 hB dX5_letter_36 ?_
      refine zw_callV1 (M' := mX5_refuse) hB dX5_letter_37 zl_X5_58 zg_X5_refuse (zRc.of rfl rfl rfl) (s_X5_refuse _ hc hk) (fun v37 σ37 hq37 => ?_)
      obtain ⟨rfl, rfl⟩ := hq37
      refine zw_iret hB hR dX5_letter_40 rfl ?_
      exact zCQ.no h c32 hk hc
  · refine zw_iconst (x := nI 1) hB dX5_letter_18 (by decide) ?_
    refine zw_goto (tgt := 23) hB dX5_letter_19 (by decide) ?_
    refine zw_eqI (y := zb (S.2.2.1.length < 96)) (zb_t (Decidable.not_not.mp c15)).symm ?_
    refine zw_callS1P (M' := mX5_roomIf) hB dX5_letter_23 zl_X5_51 zg_X5_roomIf (s_X5_roomIf) ?_
    refine zw_iconst (x := nI 0) hB dX5_letter_26 (by decide) ?_
    refine zw_callS3P (M' := mX5_firstOf) hB dX5_letter_27 zl_X5_55 zg_X5_firstOf (s_X5_firstOf _ _ _) ?_
    refine zw_istore2 hB dX5_letter_30 rfl ?_
    refine zw_iload2 hB dX5_letter_31 ?_
    refine zw_if_eq (tgt := 41) hB dX5_letter_32 (by decide) (fun c32 => ?_) (fun c32 => ?_)
    · obtain ⟨-, e2, -⟩ := zfo_0 c32
      have hL : S.2.2.1.length < 96 := zrO_0 e2
      refine zw_aload0 hB dX5_letter_41 ?_
      refine zw_getfR hB dX5_letter_42 zf_X5_25 rfl rfl ?_
      refine zw_iload1 hB dX5_letter_45 ?_
      refine zw_callV1U (M' := mX2_add) hB dX5_letter_46 zl_X5_62 zg_X2_add (zRc.of rfl rfl rfl) (s_X2_add h.2.2.1.1 hL _) ?_
      refine zw_aload0 hB dX5_letter_49 ?_
      refine zw_getfR hB dX5_letter_50 zf_X5_25 rfl rfl ?_
      refine zw_getfV (x := nI (S.2.2.1.length + 1)) hB dX5_letter_53 zf_X5_66 rfl rfl (by rw [zC_s, zupd_s]) ?_
      refine zw_iret hB hR dX5_letter_56 rfl ?_
      rw [zq_t c32]
      refine ⟨rfl, h.letL (fun c h0 h8 => ?_) ?_ ?_, fun c hc => ?_⟩
      · rw [zC_n h0, zC_n h8]
      · rw [zC_s, zupd_s, List.length_append]; rfl
      · rw [zC_n (by omega), zC_s]; exact h.2.2.1.2.add
      · rw [zC_n (by omega), zC_n (by omega)]
    · obtain ⟨k, hk, hc⟩ := (zcd_fo zcd_ir zcd_rm zcd_0).resolve_left c32
      refine zw_aload0 hB dX5_letter_35 ?_
      refine zw_iload2 hB dX5_letter_36 ?_
      refine zw_callV1 (M' := mX5_refuse) hB dX5_letter_37 zl_X5_58 zg_X5_refuse (zRc.of rfl rfl rfl) (s_X5_refuse _ hc hk) (fun v37 σ37 hq37 => ?_)
      obtain ⟨rfl, rfl⟩ := hq37
      refine zw_iret hB hR dX5_letter_40 rfl ?_
      exact zCQ.no h c32 hk hc
