/-! CLASS: lost, inHeart, bestStep, feed, crop -/
theorem zfst_lt {p : Nat → Bool} {q : Nat} : ∀ k i, zfst p i k = some q → q < i + k := by
  intro k
  induction k with
  | zero => intro i h; cases h
  | succ k ih =>
    intro i h
    unfold zfst at h
    split at h
    · cases h; omega
    · have := ih (i + 1) h; omega
theorem zLt_61 {r : zRw} {F m : Nat} (h : zLt r F = some m) : m < 61 := by have := zfst_lt _ _ h; omega
theorem zLt_n {r : zRw} {F : Nat} (h : zopt (zLt r F) = -9) : zLt r F = none := by
  cases e : zLt r F with
  | none => rfl
  | some m => rw [e] at h; exact absurd h (nI_n9 (by have := zLt_61 e; omega))
theorem zLt_s {r : zRw} {F : Nat} (h : ¬ zopt (zLt r F) = -9) : ∃ m, zLt r F = some m := by
  cases e : zLt r F with
  | none => rw [e] at h; exact absurd rfl h
  | some m => exact ⟨m, rfl⟩
def zLf (r : zRw) (F : Nat) : Option Nat := (zLt r F).bind fun m => zfst (zbar (zYs r m)) 0 F
theorem zgm_s {g : Nat → Int32} {x : Int32} : ∀ i, i ≤ 6 → ∃ s, s ≤ 5 ∧ (zgm nI g (nI 0, x) i).1 = nI s := by
  intro i
  induction i with
  | zero => intro _; exact ⟨0, by omega, rfl⟩
  | succ i ih =>
    intro hi
    by_cases c : (zgm nI g (nI 0, x) i).2 < g i
    · rw [zgm_t c]; exact ⟨i, by omega, rfl⟩
    · rw [zgm_f c]; exact ih (by omega)
def q_lost (S : zS) (w : Int32) : Value × zS := zq S (zou w (nI 1)) (.int (if w = nI 0 then zopt (zLf S.1 (zNF S.1)) else zopt (zLt S.1 (zNF S.1))), S)
def q_inHeart (S : zS) : Value × zS := (.int (nI ((zLt S.1 (zNF S.1)).getD 61)), S)
def q_bestStep (S : zS) (m w : Int32) : Value × zS := zq S (zfo (zir m (nI 1) (nI 30)) (zou w (nI 1)) (nI 0)) (.int (if w = nI 0 then (zgm nI (zgS S.1 (zNP S.1) m.toNatClampNeg) (nI 0, -1) 6).1 else zgS S.1 (zNP S.1) m.toNatClampNeg (zgm nI (zgS S.1 (zNP S.1) m.toNatClampNeg) (nI 0, -1) 6).1.toNatClampNeg), S)
def q_feed (S : zS) (f w : Int32) : Value × zS := zq S (zfo (znb (zIn f (zNF S.1))) (zou w (nI 1)) (nI 0)) (.int (if w = nI 0 then nI (zbk (zgfd S.1 f.toNatClampNeg) 5) else zgfd S.1 f.toNatClampNeg (zbk (zgfd S.1 f.toNatClampNeg) 5)), S)
def q_crop (S : zS) (f m : Int32) : Value × zS := zq S (zfo (znb (f = -1 ∨ zIn f (zNF S.1))) (zir m (nI 1) (nI 60)) (nI 0)) (.int (if f = -1 then zGs S.1 (zNP S.1) m.toNatClampNeg else zGf S.1 (zNP S.1) f.toNatClampNeg m.toNatClampNeg), S)

theorem s_X3_lostFarm {n : Nat} {σ : zSt} {F P : Nat} (hg : zGd (zrow σ 1) F P) : zSem (n + 5) mX3_lostFarm [.ref 27, .ref 1] σ (fun v τ => v = some (.int (zopt (zLf (zrow σ 1) F))) ∧ zOut 28 σ τ) := by
  have hF6 := hg.F6
  have hP6 := hg.P6
  refine zSem.of (by decide +kernel) (Nat.le_of_ble_eq_true rfl) (fun X hB hR => ?_)
  show zW X 0 [some (.ref 27), some (.ref 1)] [] σ
  refine zw_aload0 hB dX3_lostFarm_0 ?_
  refine zw_aload1 hB dX3_lostFarm_1 ?_
  refine zw_callV1 (M' := mX3_lostYear) hB dX3_lostFarm_2 zl_X3_56 zg_X3_lostYear (zRc.of rfl rfl rfl) (s_X3_lostYear hg) (fun v2 σ2 hq2 => ?_)
  obtain ⟨rfl, x1, x2⟩ := hq2
  refine zw_bipush (x := -9) hB dX3_lostFarm_5 (by decide) ?_
  refine zw_icmp_ne (tgt := 15) hB dX3_lostFarm_7 (by decide) (fun c7 => ?_) (fun c7 => ?_)
  · obtain ⟨m, em⟩ := zLt_s c7
    have z2 := x2 m em
    have g2 : zGd (zrow σ2 28) F P := by rw [z2]; exact zGd_Ys hg m
    refine zw_aload0 hB dX3_lostFarm_15 ?_
    refine zw_getfR hB dX3_lostFarm_16 zf_X3_12 rfl rfl ?_
    refine zw_callV0 (M' := mX1_firstBarrenFarm) hB dX3_lostFarm_19 zl_X3_52 zg_X1_firstBarrenFarm (zRc.of zld28.1 rfl rfl) (s_X1_firstBarrenFarm zld28 g2) (fun v19 σ19 hq19 => ?_)
    obtain ⟨rfl, rfl⟩ := hq19
    refine zw_iret hB hR dX3_lostFarm_22 rfl ?_
    exact ⟨by unfold zLf; rw [em, z2]; rfl, x1⟩
  · refine zw_bipush (x := -9) hB dX3_lostFarm_10 (by decide) ?_
    refine zw_goto (tgt := 22) hB dX3_lostFarm_12 (by decide) ?_
    refine zw_iret hB hR dX3_lostFarm_22 rfl ?_
    exact ⟨by unfold zLf; rw [zLt_n c7]; rfl, x1⟩
theorem s_X5_lost {n : Nat} {σ : zSt} {S : zS} (hS : zOk S) (h : zCW S σ) (w : Int32) : zSem (n + 6) mX5_lost [.ref 0, .int w] σ (zCQ (q_lost S w) σ) := by
  obtain ⟨⟨⟨F, P, hg0⟩, y0, hy0, ey0⟩, hkp, hlt, hrw⟩ := id hS
  have hnF := hg0.nF
  have hnP := hg0.nP
  have hr0 := h.1
  have hg : zGd (zrow σ 1) F P := by rw [hr0]; exact hg0
  have hF6 := hg.F6
  have hP6 := hg.P6
  have hF : σ 1 0 = nI F := hg.r0
  have hP : σ 1 1 = nI P := hg.r1
  unfold q_lost
  try rw [hnF]
  try rw [hnP]
  refine zSem.of (by decide +kernel) (Nat.le_of_ble_eq_true rfl) (fun X hB hR => ?_)
  show zW X 0 [some (.ref 0), some (.int w), none] [] σ
  refine zw_iload1 hB dX5_lost_0 ?_
  refine zw_iconst (x := nI 1) hB dX5_lost_1 (by decide) ?_
  refine zw_callS2P (M' := mX5_otherUnless) hB dX5_lost_2 zl_X5_85 zg_X5_otherUnless (s_X5_otherUnless _ _) ?_
  refine zw_istore2 hB dX5_lost_5 rfl ?_
  refine zw_iload2 hB dX5_lost_6 ?_
  refine zw_if_eq (tgt := 16) hB dX5_lost_7 (by decide) (fun c7 => ?_) (fun c7 => ?_)
  · refine zw_iload1 hB dX5_lost_16 ?_
    refine zw_if_ne (tgt := 34) hB dX5_lost_17 (by decide) (fun c17 => ?_) (fun c17 => ?_)
    · refine zw_aload0 hB dX5_lost_34 ?_
      refine zw_getfR hB dX5_lost_35 zf_X5_32 rfl rfl ?_
      refine zw_aload0 hB dX5_lost_38 ?_
      refine zw_getfR hB dX5_lost_39 zf_X5_10 rfl rfl ?_
      refine zw_callV1 (M' := mX3_lostYear) hB dX5_lost_42 zl_X5_155 zg_X3_lostYear (zRc.of rfl rfl rfl) (s_X3_lostYear hg) (fun v42 σ42 hq42 => ?_)
      obtain ⟨rfl, x1, x2⟩ := hq42
      refine zw_iret hB hR dX5_lost_45 rfl ?_
      refine zCQ.ok h c7 ?_ (fun c hc => x1 c (by omega))
      rw [if_neg (show ¬ w = nI 0 from c17), ← hr0]
    · refine zw_aload0 hB dX5_lost_20 ?_
      refine zw_getfR hB dX5_lost_21 zf_X5_32 rfl rfl ?_
      refine zw_aload0 hB dX5_lost_24 ?_
      refine zw_getfR hB dX5_lost_25 zf_X5_10 rfl rfl ?_
      refine zw_callV1 (M' := mX3_lostFarm) hB dX5_lost_28 zl_X5_152 zg_X3_lostFarm (zRc.of rfl rfl rfl) (s_X3_lostFarm hg) (fun v28 σ28 hq28 => ?_)
      obtain ⟨rfl, x1⟩ := hq28
      refine zw_goto (tgt := 45) hB dX5_lost_31 (by decide) ?_
      refine zw_iret hB hR dX5_lost_45 rfl ?_
      refine zCQ.ok h c7 ?_ (fun c hc => x1 c (by omega))
      rw [if_pos (show w = nI 0 from c17), ← hr0]
  · obtain ⟨k, hk, hc⟩ := (zcd_ou).resolve_left c7
    refine zw_aload0 hB dX5_lost_10 ?_
    refine zw_iload2 hB dX5_lost_11 ?_
    refine zw_callV1 (M' := mX5_refuse) hB dX5_lost_12 zl_X5_58 zg_X5_refuse (zRc.of rfl rfl rfl) (s_X5_refuse _ hc hk) (fun v12 σ12 hq12 => ?_)
    obtain ⟨rfl, rfl⟩ := hq12
    refine zw_iret hB hR dX5_lost_15 rfl ?_
    exact zCQ.no h c7 hk hc
theorem s_X5_inHeart {n : Nat} {σ : zSt} {S : zS} (hS : zOk S) (h : zCW S σ)  : zSem (n + 5) mX5_inHeart [.ref 0] σ (zCQ (q_inHeart S ) σ) := by
  obtain ⟨⟨⟨F, P, hg0⟩, y0, hy0, ey0⟩, hkp, hlt, hrw⟩ := id hS
  have hnF := hg0.nF
  have hnP := hg0.nP
  have hr0 := h.1
  have hg : zGd (zrow σ 1) F P := by rw [hr0]; exact hg0
  have hF6 := hg.F6
  have hP6 := hg.P6
  have hF : σ 1 0 = nI F := hg.r0
  have hP : σ 1 1 = nI P := hg.r1
  unfold q_inHeart
  try rw [hnF]
  try rw [hnP]
  refine zSem.of (by decide +kernel) (Nat.le_of_ble_eq_true rfl) (fun X hB hR => ?_)
  show zW X 0 [some (.ref 0), none] [] σ
  refine zw_aload0 hB dX5_inHeart_0 ?_
  refine zw_getfR hB dX5_inHeart_1 zf_X5_32 rfl rfl ?_
  refine zw_aload0 hB dX5_inHeart_4 ?_
  refine zw_getfR hB dX5_inHeart_5 zf_X5_10 rfl rfl ?_
  refine zw_callV1 (M' := mX3_lostYear) hB dX5_inHeart_8 zl_X5_155 zg_X3_lostYear (zRc.of rfl rfl rfl) (s_X3_lostYear hg) (fun v8 σ8 hq8 => ?_)
  obtain ⟨rfl, x1, x2⟩ := hq8
  refine zw_istore1 hB dX5_inHeart_11 rfl ?_
  refine zw_iload1 hB dX5_inHeart_12 ?_
  refine zw_bipush (x := -9) hB dX5_inHeart_13 (by decide) ?_
  refine zw_icmp_ne (tgt := 23) hB dX5_inHeart_15 (by decide) (fun c15 => ?_) (fun c15 => ?_)
  · refine zw_iload1 hB dX5_inHeart_23 ?_
    refine zw_iret hB hR dX5_inHeart_24 rfl ?_
    refine ⟨?_, h.keep (fun c hc => x1 c (by omega)), fun c hc => x1 c (by omega)⟩
    rw [← hr0]
    obtain ⟨m, em⟩ := zLt_s c15
    rw [em]; rfl
  · refine zw_bipush (x := nI 61) hB dX5_inHeart_18 (by decide) ?_
    refine zw_goto (tgt := 24) hB dX5_inHeart_20 (by decide) ?_
    refine zw_iret hB hR dX5_inHeart_24 rfl ?_
    refine ⟨?_, h.keep (fun c hc => x1 c (by omega)), fun c hc => x1 c (by omega)⟩
    rw [← hr0]
    rw [zLt_n c15]; rfl
theorem s_X5_bestStep {n : Nat} {σ : zSt} {S : zS} (hS : zOk S) (h : zCW S σ) (m w : Int32) : zSem (n + 7) mX5_bestStep [.ref 0, .int m, .int w] σ (zCQ (q_bestStep S m w) σ) := by
  obtain ⟨⟨⟨F, P, hg0⟩, y0, hy0, ey0⟩, hkp, hlt, hrw⟩ := id hS
  have hnF := hg0.nF
  have hnP := hg0.nP
  have hr0 := h.1
  have hg : zGd (zrow σ 1) F P := by rw [hr0]; exact hg0
  have hF6 := hg.F6
  have hP6 := hg.P6
  have hF : σ 1 0 = nI F := hg.r0
  have hP : σ 1 1 = nI P := hg.r1
  unfold q_bestStep
  try rw [hnF]
  try rw [hnP]
  refine zSem.of (by decide +kernel) (Nat.le_of_ble_eq_true rfl) (fun X hB hR => ?_)
  show zW X 0 [some (.ref 0), some (.int m), some (.int w), none, none] [] σ
  refine zw_iload1 hB dX5_bestStep_0 ?_
  refine zw_iconst (x := nI 1) hB dX5_bestStep_1 (by decide) ?_
  refine zw_bipush (x := nI 30) hB dX5_bestStep_2 (by decide) ?_
  refine zw_callS3P (M' := mX5_inRange) hB dX5_bestStep_4 zl_X5_43 zg_X5_inRange (s_X5_inRange _ _ _) ?_
  refine zw_iload2 hB dX5_bestStep_7 ?_
  refine zw_iconst (x := nI 1) hB dX5_bestStep_8 (by decide) ?_
  refine zw_callS2P (M' := mX5_otherUnless) hB dX5_bestStep_9 zl_X5_85 zg_X5_otherUnless (s_X5_otherUnless _ _) ?_
  refine zw_iconst (x := nI 0) hB dX5_bestStep_12 (by decide) ?_
  refine zw_callS3P (M' := mX5_firstOf) hB dX5_bestStep_13 zl_X5_55 zg_X5_firstOf (s_X5_firstOf _ _ _) ?_
  refine zw_istore3 hB dX5_bestStep_16 rfl ?_
  refine zw_iload3 hB dX5_bestStep_17 ?_
  refine zw_if_eq (tgt := 27) hB dX5_bestStep_18 (by decide) (fun c18 => ?_) (fun c18 => ?_)
  · obtain ⟨e1, e2, -⟩ := zfo_0 c18
    obtain ⟨m, -, hm, rfl⟩ := zir_0 (by omega) (by omega) e1
    refine zw_aload0 hB dX5_bestStep_27 ?_
    refine zw_getfR hB dX5_bestStep_28 zf_X5_32 rfl rfl ?_
    refine zw_aload0 hB dX5_bestStep_31 ?_
    refine zw_getfR hB dX5_bestStep_32 zf_X5_10 rfl rfl ?_
    refine zw_iload1 hB dX5_bestStep_35 ?_
    refine zw_callV2 (M' := mX3_stepOfMost) hB dX5_bestStep_36 zl_X5_166 zg_X3_stepOfMost (zRc.of rfl rfl rfl) (s_X3_stepOfMost hg (by omega)) (fun v36 σ36 hq36 => ?_)
    obtain ⟨rfl, x1⟩ := hq36
    obtain ⟨s, hs, es⟩ := zgm_s (g := zgS (zrow σ 1) P m) (x := -1) 6 (by omega)
    rw [es]
    have r1 : zrow σ36 1 = zrow σ 1 := zrow_congr (fun c _ _ => x1 c (by omega))
    have g1 : zGd (zrow σ36 1) F P := by rw [r1]; exact hg
    refine zw_istore4 hB dX5_bestStep_39 rfl ?_
    refine zw_iload2 hB dX5_bestStep_41 ?_
    refine zw_if_ne (tgt := 50) hB dX5_bestStep_42 (by decide) (fun c42 => ?_) (fun c42 => ?_)
    · refine zw_aload0 hB dX5_bestStep_50 ?_
      refine zw_getfR hB dX5_bestStep_51 zf_X5_32 rfl rfl ?_
      refine zw_aload0 hB dX5_bestStep_54 ?_
      refine zw_getfR hB dX5_bestStep_55 zf_X5_10 rfl rfl ?_
      refine zw_iload4 hB dX5_bestStep_58 ?_
      refine zw_iload1 hB dX5_bestStep_60 ?_
      refine zw_callV3 (M' := mX3_grownByStep) hB dX5_bestStep_61 zl_X5_169 zg_X3_grownByStep (zRc.of rfl rfl rfl) (s_X3_grownByStep g1 hs (by omega)) (fun v61 σ61 hq61 => ?_)
      obtain ⟨rfl, y1⟩ := hq61
      refine zw_iret hB hR dX5_bestStep_64 rfl ?_
      refine zCQ.ok h c18 ?_ (fun c hc => (y1 c (by omega)).trans (x1 c (by omega)))
      rw [if_neg (show ¬ w = nI 0 from c42), nI_clamp (by omega), ← hr0, es, nI_clamp (by omega), r1]
    · refine zw_iload4 hB dX5_bestStep_45 ?_
      refine zw_goto (tgt := 64) hB dX5_bestStep_47 (by decide) ?_
      refine zw_iret hB hR dX5_bestStep_64 rfl ?_
      refine zCQ.ok h c18 ?_ (fun c hc => x1 c (by omega))
      rw [if_pos (show w = nI 0 from c42), nI_clamp (by omega), ← hr0, es]
  · obtain ⟨k, hk, hc⟩ := (zcd_fo zcd_ir zcd_ou zcd_0).resolve_left c18
    refine zw_aload0 hB dX5_bestStep_21 ?_
    refine zw_iload3 hB dX5_bestStep_22 ?_
    refine zw_callV1 (M' := mX5_refuse) hB dX5_bestStep_23 zl_X5_58 zg_X5_refuse (zRc.of rfl rfl rfl) (s_X5_refuse _ hc hk) (fun v23 σ23 hq23 => ?_)
    obtain ⟨rfl, rfl⟩ := hq23
    refine zw_iret hB hR dX5_bestStep_26 rfl ?_
    exact zCQ.no h c18 hk hc
theorem s_X5_feed {n : Nat} {σ : zSt} {S : zS} (hS : zOk S) (h : zCW S σ) (f w : Int32) : zSem (n + 4) mX5_feed [.ref 0, .int f, .int w] σ (zCQ (q_feed S f w) σ) := by
  obtain ⟨⟨⟨F, P, hg0⟩, y0, hy0, ey0⟩, hkp, hlt, hrw⟩ := id hS
  have hnF := hg0.nF
  have hnP := hg0.nP
  have hr0 := h.1
  have hg : zGd (zrow σ 1) F P := by rw [hr0]; exact hg0
  have hF6 := hg.F6
  have hP6 := hg.P6
  have hF : σ 1 0 = nI F := hg.r0
  have hP : σ 1 1 = nI P := hg.r1
  unfold q_feed
  try rw [hnF]
  try rw [hnP]
  refine zSem.of (by decide +kernel) (Nat.le_of_ble_eq_true rfl) (fun X hB hR => ?_)
  show zW X 0 [some (.ref 0), some (.int f), some (.int w), none, none] [] σ
  refine zw_aload0 hB dX5_feed_0 ?_
  refine zw_getfR hB dX5_feed_1 zf_X5_10 rfl rfl ?_
  refine zw_iload1 hB dX5_feed_4 ?_
  refine zw_callV1P (M' := mX1_hasFarm) hB dX5_feed_5 zl_X5_78 zg_X1_hasFarm (zRc.of zld1.1 rfl rfl) (s_hasFarm zld1 hF _) ?_
  refine zw_callS1P (M' := mX5_nobodyUnless) hB dX5_feed_8 zl_X5_82 zg_X5_nobodyUnless (s_X5_nobodyUnless) ?_
  refine zw_iload2 hB dX5_feed_11 ?_
  refine zw_iconst (x := nI 1) hB dX5_feed_12 (by decide) ?_
  refine zw_callS2P (M' := mX5_otherUnless) hB dX5_feed_13 zl_X5_85 zg_X5_otherUnless (s_X5_otherUnless _ _) ?_
  refine zw_iconst (x := nI 0) hB dX5_feed_16 (by decide) ?_
  refine zw_callS3P (M' := mX5_firstOf) hB dX5_feed_17 zl_X5_55 zg_X5_firstOf (s_X5_firstOf _ _ _) ?_
  refine zw_istore3 hB dX5_feed_20 rfl ?_
  refine zw_iload3 hB dX5_feed_21 ?_
  refine zw_if_eq (tgt := 31) hB dX5_feed_22 (by decide) (fun c22 => ?_) (fun c22 => ?_)
  · obtain ⟨e1, e2, -⟩ := zfo_0 c22
    obtain ⟨j, hj, rfl⟩ := zIn_j (by omega) (znb_0 e1)
    have hz := zbk_le (zgfd (zrow σ 1) j) 5
    refine zw_aload0 hB dX5_feed_31 ?_
    refine zw_getfR hB dX5_feed_32 zf_X5_10 rfl rfl ?_
    refine zw_iload1 hB dX5_feed_35 ?_
    refine zw_callV1P (M' := mX1_feedingKind) hB dX5_feed_36 zl_X5_193 zg_X1_feedingKind (zRc.of zld1.1 rfl rfl) (s_X1_feedingKind zld1 (by omega)) ?_
    refine zw_istore4 hB dX5_feed_39 rfl ?_
    refine zw_iload2 hB dX5_feed_41 ?_
    refine zw_if_ne (tgt := 50) hB dX5_feed_42 (by decide) (fun c42 => ?_) (fun c42 => ?_)
    · refine zw_aload0 hB dX5_feed_50 ?_
      refine zw_getfR hB dX5_feed_51 zf_X5_10 rfl rfl ?_
      refine zw_iload1 hB dX5_feed_54 ?_
      refine zw_iload4 hB dX5_feed_55 ?_
      refine zw_callV2P (M' := mX1_greenFedBy) hB dX5_feed_57 zl_X5_196 zg_X1_greenFedBy (zRc.of zld1.1 rfl rfl) (s_X1_greenFedBy zld1 (by omega) (by omega)) ?_
      refine zw_iret hB hR dX5_feed_60 rfl ?_
      refine zCQ.ok h c22 ?_ (fun _ _ => rfl)
      rw [if_neg (show ¬ w = nI 0 from c42), nI_clamp (by omega), ← hr0]
    · refine zw_iload4 hB dX5_feed_45 ?_
      refine zw_goto (tgt := 60) hB dX5_feed_47 (by decide) ?_
      refine zw_iret hB hR dX5_feed_60 rfl ?_
      refine zCQ.ok h c22 ?_ (fun _ _ => rfl)
      rw [if_pos (show w = nI 0 from c42), nI_clamp (by omega), ← hr0]
  · obtain ⟨k, hk, hc⟩ := (zcd_fo zcd_nb zcd_ou zcd_0).resolve_left c22
    refine zw_aload0 hB dX5_feed_25 ?_
    refine zw_iload3 hB dX5_feed_26 ?_
    refine zw_callV1 (M' := mX5_refuse) hB dX5_feed_27 zl_X5_58 zg_X5_refuse (zRc.of rfl rfl rfl) (s_X5_refuse _ hc hk) (fun v27 σ27 hq27 => ?_)
    obtain ⟨rfl, rfl⟩ := hq27
    refine zw_iret hB hR dX5_feed_30 rfl ?_
    exact zCQ.no h c22 hk hc
theorem s_X5_crop {n : Nat} {σ : zSt} {S : zS} (hS : zOk S) (h : zCW S σ) (f m : Int32) : zSem (n + 7) mX5_crop [.ref 0, .int f, .int m] σ (zCQ (q_crop S f m) σ) := by
  obtain ⟨⟨⟨F, P, hg0⟩, y0, hy0, ey0⟩, hkp, hlt, hrw⟩ := id hS
  have hnF := hg0.nF
  have hnP := hg0.nP
  have hr0 := h.1
  have hg : zGd (zrow σ 1) F P := by rw [hr0]; exact hg0
  have hF6 := hg.F6
  have hP6 := hg.P6
  have hF : σ 1 0 = nI F := hg.r0
  have hP : σ 1 1 = nI P := hg.r1
  unfold q_crop
  try rw [hnF]
  try rw [hnP]
  refine zSem.of (by decide +kernel) (Nat.le_of_ble_eq_true rfl) (fun X hB hR => ?_)
  show zW X 0 [some (.ref 0), some (.int f), some (.int m), none] [] σ
  refine zw_iload1 hB dX5_crop_0 ?_
  refine zw_iconst (x := -1) hB dX5_crop_1 (by decide) ?_
  refine zw_icmp_eq (tgt := 16) hB dX5_crop_2 (by decide) (fun c2 => ?_) (fun c2 => ?_)
  · refine zw_iconst (x := nI 1) hB dX5_crop_16 (by decide) ?_
    refine zw_goto (tgt := 21) hB dX5_crop_17 (by decide) ?_
    refine zw_eqI (y := zb (f = -1 ∨ zIn f F)) (zb_t (Or.inl c2)).symm ?_
    refine zw_callS1P (M' := mX5_nobodyUnless) hB dX5_crop_21 zl_X5_82 zg_X5_nobodyUnless (s_X5_nobodyUnless) ?_
    refine zw_iload2 hB dX5_crop_24 ?_
    refine zw_iconst (x := nI 1) hB dX5_crop_25 (by decide) ?_
    refine zw_bipush (x := nI 60) hB dX5_crop_26 (by decide) ?_
    refine zw_callS3P (M' := mX5_inRange) hB dX5_crop_28 zl_X5_43 zg_X5_inRange (s_X5_inRange _ _ _) ?_
    refine zw_iconst (x := nI 0) hB dX5_crop_31 (by decide) ?_
    refine zw_callS3P (M' := mX5_firstOf) hB dX5_crop_32 zl_X5_55 zg_X5_firstOf (s_X5_firstOf _ _ _) ?_
    refine zw_istore3 hB dX5_crop_35 rfl ?_
    refine zw_iload3 hB dX5_crop_36 ?_
    refine zw_if_eq (tgt := 46) hB dX5_crop_37 (by decide) (fun c37 => ?_) (fun c37 => ?_)
    · obtain ⟨e1, e2, -⟩ := zfo_0 c37
      obtain ⟨m, -, hm, rfl⟩ := zir_0 (by omega) (by omega) e2
      refine zw_iload1 hB dX5_crop_46 ?_
      refine zw_iconst (x := -1) hB dX5_crop_47 (by decide) ?_
      refine zw_icmp_ne (tgt := 66) hB dX5_crop_48 (by decide) (fun c48 => ?_) (fun c48 => ?_)
      · obtain ⟨j, hj, rfl⟩ := zIn_j (by omega) ((znb_0 e1).resolve_left c48)
        refine zw_aload0 hB dX5_crop_66 ?_
        refine zw_getfR hB dX5_crop_67 zf_X5_32 rfl rfl ?_
        refine zw_aload0 hB dX5_crop_70 ?_
        refine zw_getfR hB dX5_crop_71 zf_X5_10 rfl rfl ?_
        refine zw_iload1 hB dX5_crop_74 ?_
        refine zw_iload2 hB dX5_crop_75 ?_
        refine zw_callV3 (M' := mX3_grownOn) hB dX5_crop_76 zl_X5_162 zg_X3_grownOn (zRc.of rfl rfl rfl) (s_X3_grownOn hg hj (by omega)) (fun v76 σ76 hq76 => ?_)
        obtain ⟨rfl, x1⟩ := hq76
        refine zw_iret hB hR dX5_crop_79 rfl ?_
        refine zCQ.ok h c37 ?_ (fun c hc => x1 c (by omega))
        rw [if_neg c48, nI_clamp (by omega), nI_clamp (by omega), ← hr0]
      · refine zw_aload0 hB dX5_crop_51 ?_
        refine zw_getfR hB dX5_crop_52 zf_X5_32 rfl rfl ?_
        refine zw_aload0 hB dX5_crop_55 ?_
        refine zw_getfR hB dX5_crop_56 zf_X5_10 rfl rfl ?_
        refine zw_iload2 hB dX5_crop_59 ?_
        refine zw_callV2 (M' := mX3_grownOfAll) hB dX5_crop_60 zl_X5_158 zg_X3_grownOfAll (zRc.of rfl rfl rfl) (s_X3_grownOfAll hg (by omega)) (fun v60 σ60 hq60 => ?_)
        obtain ⟨rfl, x1⟩ := hq60
        refine zw_goto (tgt := 79) hB dX5_crop_63 (by decide) ?_
        refine zw_iret hB hR dX5_crop_79 rfl ?_
        refine zCQ.ok h c37 ?_ (fun c hc => x1 c (by omega))
        rw [if_pos c48, nI_clamp (by omega), ← hr0]
    · obtain ⟨k, hk, hc⟩ := (zcd_fo zcd_nb zcd_ir zcd_0).resolve_left c37
      refine zw_aload0 hB dX5_crop_40 ?_
      refine zw_iload3 hB dX5_crop_41 ?_
      refine zw_callV1 (M' := mX5_refuse) hB dX5_crop_42 zl_X5_58 zg_X5_refuse (zRc.of rfl rfl rfl) (s_X5_refuse _ hc hk) (fun v42 σ42 hq42 => ?_)
      obtain ⟨rfl, rfl⟩ := hq42
      refine zw_iret hB hR dX5_crop_45 rfl ?_
      exact zCQ.no h c37 hk hc
  · refine zw_aload0 hB dX5_crop_5 ?_
    refine zw_getfR hB dX5_crop_6 zf_X5_10 rfl rfl ?_
    refine zw_iload1 hB dX5_crop_9 ?_
    refine zw_callV1P (M' := mX1_hasFarm) hB dX5_crop_10 zl_X5_78 zg_X1_hasFarm (zRc.of zld1.1 rfl rfl) (s_hasFarm zld1 hF _) ?_
    refine zw_if_eqB (tgt := 20) hB dX5_crop_13 (by decide) (fun c13 => ?_) (fun c13 => ?_)
    · refine zw_iconst (x := nI 0) hB dX5_crop_20 (by decide) ?_
      refine zw_eqI (y := zb (f = -1 ∨ zIn f F)) (zb_f (fun z => z.elim c2 c13)).symm ?_
      refine zw_callS1P (M' := mX5_nobodyUnless) hB dX5_crop_21 zl_X5_82 zg_X5_nobodyUnless (s_X5_nobodyUnless) ?_
      refine zw_iload2 hB dX5_crop_24 ?_
      refine zw_iconst (x := nI 1) hB dX5_crop_25 (by decide) ?_
      refine zw_bipush (x := nI 60) hB dX5_crop_26 (by decide) ?_
      refine zw_callS3P (M' := mX5_inRange) hB dX5_crop_28 zl_X5_43 zg_X5_inRange (s_X5_inRange _ _ _) ?_
      refine zw_iconst (x := nI 0) hB dX5_crop_31 (by decide) ?_
      refine zw_callS3P (M' := mX5_firstOf) hB dX5_crop_32 zl_X5_55 zg_X5_firstOf (s_X5_firstOf _ _ _) ?_
      refine zw_istore3 hB dX5_crop_35 rfl ?_
      refine zw_iload3 hB dX5_crop_36 ?_
      refine zw_if_eq (tgt := 46) hB dX5_crop_37 (by decide) (fun c37 => ?_) (fun c37 => ?_)
      · obtain ⟨e1, e2, -⟩ := zfo_0 c37
        obtain ⟨m, -, hm, rfl⟩ := zir_0 (by omega) (by omega) e2
        refine zw_iload1 hB dX5_crop_46 ?_
        refine zw_iconst (x := -1) hB dX5_crop_47 (by decide) ?_
        refine zw_icmp_ne (tgt := 66) hB dX5_crop_48 (by decide) (fun c48 => ?_) (fun c48 => ?_)
        · obtain ⟨j, hj, rfl⟩ := zIn_j (by omega) ((znb_0 e1).resolve_left c48)
          refine zw_aload0 hB dX5_crop_66 ?_
          refine zw_getfR hB dX5_crop_67 zf_X5_32 rfl rfl ?_
          refine zw_aload0 hB dX5_crop_70 ?_
          refine zw_getfR hB dX5_crop_71 zf_X5_10 rfl rfl ?_
          refine zw_iload1 hB dX5_crop_74 ?_
          refine zw_iload2 hB dX5_crop_75 ?_
          refine zw_callV3 (M' := mX3_grownOn) hB dX5_crop_76 zl_X5_162 zg_X3_grownOn (zRc.of rfl rfl rfl) (s_X3_grownOn hg hj (by omega)) (fun v76 σ76 hq76 => ?_)
          obtain ⟨rfl, x1⟩ := hq76
          refine zw_iret hB hR dX5_crop_79 rfl ?_
          refine zCQ.ok h c37 ?_ (fun c hc => x1 c (by omega))
          rw [if_neg c48, nI_clamp (by omega), nI_clamp (by omega), ← hr0]
        · refine zw_aload0 hB dX5_crop_51 ?_
          refine zw_getfR hB dX5_crop_52 zf_X5_32 rfl rfl ?_
          refine zw_aload0 hB dX5_crop_55 ?_
          refine zw_getfR hB dX5_crop_56 zf_X5_10 rfl rfl ?_
          refine zw_iload2 hB dX5_crop_59 ?_
          refine zw_callV2 (M' := mX3_grownOfAll) hB dX5_crop_60 zl_X5_158 zg_X3_grownOfAll (zRc.of rfl rfl rfl) (s_X3_grownOfAll hg (by omega)) (fun v60 σ60 hq60 => ?_)
          obtain ⟨rfl, x1⟩ := hq60
          refine zw_goto (tgt := 79) hB dX5_crop_63 (by decide) ?_
          refine zw_iret hB hR dX5_crop_79 rfl ?_
          refine zCQ.ok h c37 ?_ (fun c hc => x1 c (by omega))
          rw [if_pos c48, nI_clamp (by omega), ← hr0]
      · obtain ⟨k, hk, hc⟩ := (zcd_fo zcd_nb zcd_ir zcd_0).resolve_left c37
        refine zw_aload0 hB dX5_crop_40 ?_
        refine zw_iload3 hB dX5_crop_41 ?_
        refine zw_callV1 (M' := mX5_refuse) hB dX5_crop_42 zl_X5_58 zg_X5_refuse (zRc.of rfl rfl rfl) (s_X5_refuse _ hc hk) (fun v42 σ42 hq42 => ?_)
        obtain ⟨rfl, rfl⟩ := hq42
        refine zw_iret hB hR dX5_crop_45 rfl ?_
        exact zCQ.no h c37 hk hc
    · refine zw_iconst (x := nI 1) hB dX5_crop_16 (by decide) ?_
      refine zw_goto (tgt := 21) hB dX5_crop_17 (by decide) ?_
      refine zw_eqI (y := zb (f = -1 ∨ zIn f F)) (zb_t (Or.inr c13)).symm ?_
      refine zw_callS1P (M' := mX5_nobodyUnless) hB dX5_crop_21 zl_X5_82 zg_X5_nobodyUnless (s_X5_nobodyUnless) ?_
      refine zw_iload2 hB dX5_crop_24 ?_
      refine zw_iconst (x := nI 1) hB dX5_crop_25 (by decide) ?_
      refine zw_bipush (x := nI 60) hB dX5_crop_26 (by decide) ?_
      refine zw_callS3P (M' := mX5_inRange) hB dX5_crop_28 zl_X5_43 zg_X5_inRange (s_X5_inRange _ _ _) ?_
      refine zw_iconst (x := nI 0) hB dX5_crop_31 (by decide) ?_
      refine zw_callS3P (M' := mX5_firstOf) hB dX5_crop_32 zl_X5_55 zg_X5_firstOf (s_X5_firstOf _ _ _) ?_
      refine zw_istore3 hB dX5_crop_35 rfl ?_
      refine zw_iload3 hB dX5_crop_36 ?_
      refine zw_if_eq (tgt := 46) hB dX5_crop_37 (by decide) (fun c37 => ?_) (fun c37 => ?_)
      · obtain ⟨e1, e2, -⟩ := zfo_0 c37
        obtain ⟨m, -, hm, rfl⟩ := zir_0 (by omega) (by omega) e2
        refine zw_iload1 hB dX5_crop_46 ?_
        refine zw_iconst (x := -1) hB dX5_crop_47 (by decide) ?_
        refine zw_icmp_ne (tgt := 66) hB dX5_crop_48 (by decide) (fun c48 => ?_) (fun c48 => ?_)
        · obtain ⟨j, hj, rfl⟩ := zIn_j (by omega) ((znb_0 e1).resolve_left c48)
          refine zw_aload0 hB dX5_crop_66 ?_
          refine zw_getfR hB dX5_crop_67 zf_X5_32 rfl rfl ?_
          refine zw_aload0 hB dX5_crop_70 ?_
          refine zw_getfR hB dX5_crop_71 zf_X5_10 rfl rfl ?_
          refine zw_iload1 hB dX5_crop_74 ?_
          refine zw_iload2 hB dX5_crop_75 ?_
          refine zw_callV3 (M' := mX3_grownOn) hB dX5_crop_76 zl_X5_162 zg_X3_grownOn (zRc.of rfl rfl rfl) (s_X3_grownOn hg hj (by omega)) (fun v76 σ76 hq76 => ?_)
          obtain ⟨rfl, x1⟩ := hq76
          refine zw_iret hB hR dX5_crop_79 rfl ?_
          refine zCQ.ok h c37 ?_ (fun c hc => x1 c (by omega))
          rw [if_neg c48, nI_clamp (by omega), nI_clamp (by omega), ← hr0]
        · refine zw_aload0 hB dX5_crop_51 ?_
          refine zw_getfR hB dX5_crop_52 zf_X5_32 rfl rfl ?_
          refine zw_aload0 hB dX5_crop_55 ?_
          refine zw_getfR hB dX5_crop_56 zf_X5_10 rfl rfl ?_
          refine zw_iload2 hB dX5_crop_59 ?_
          refine zw_callV2 (M' := mX3_grownOfAll) hB dX5_crop_60 zl_X5_158 zg_X3_grownOfAll (zRc.of rfl rfl rfl) (s_X3_grownOfAll hg (by omega)) (fun v60 σ60 hq60 => ?_)
          obtain ⟨rfl, x1⟩ := hq60
          refine zw_goto (tgt := 79) hB dX5_crop_63 (by decide) ?_
          refine zw_iret hB hR dX5_crop_79 rfl ?_
          refine zCQ.ok h c37 ?_ (fun c hc => x1 c (by omega))
          rw [if_pos c48, nI_clamp (by omega), ← hr0]
      · obtain ⟨k, hk, hc⟩ := (zcd_fo zcd_nb zcd_ir zcd_0).resolve_left c37
        refine zw_aload0 hB dX5_crop_40 ?_
        refine zw_iload3 hB dX5_crop_41 ?_
        refine zw_callV1 (M' := mX5_refuse) hB dX5_crop_42 zl_X5_58 zg_X5_refuse (zRc.of rfl rfl rfl) (s_X5_refuse _ hc hk) (fun v42 σ42 hq42 => ?_)
        obtain ⟨rfl, rfl⟩ := hq42
        refine zw_iret hB hR dX5_crop_45 rfl ?_
        exact zCQ.no h c37 hk hc
