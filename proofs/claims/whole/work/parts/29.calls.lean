/-! CLASS: calls of the mind -/
def q_settles (S : zS) : Value × zS := (.int (zopt (zSy S.1 (zNF S.1) (zNP S.1))), S)
def q_round (S : zS) : Value × zS := (.int (zopt (zRy S.1 (zNP S.1))), S)
def q_even (S : zS) : Value × zS := (.int (zmost S.1 - zmin (zgn S.1) (zmost S.1) (zNF S.1)), S)
def q_send (S : zS) (m : Int32) : Value × zS := zq S (zir m (nI 1) (nI 30)) (.int (zgm nI (zgL S.1 (zNP S.1) m.toNatClampNeg) (-9, zGs S.1 (zNP S.1) m.toNatClampNeg) (zNP S.1)).1, S)
def q_change (S : zS) (m : Int32) : Value × zS := zq S (zir m (nI 1) (nI 30)) (.int (zgP S.1 (zNP S.1) m.toNatClampNeg (-9, zGs S.1 (zNP S.1) m.toNatClampNeg) (zNP S.1)).1, S)
def q_free (S : zS) (w : Int32) : Value × zS := zq S (zou w (nI 2)) (.int (if w = nI 0 then zfm S.1 (zNF S.1) else if w = nI 1 then zset (fun p => decide (zat S.1 p = -9)) (zNP S.1) else zset (fun p => decide (¬ ztd S.1 p < nI 10)) (zNP S.1)), S)

theorem s_X5_settles {n : Nat} {σ : zSt} {S : zS} (hS : zOk S) (h : zCW S σ)  : zSem (n + 5) mX5_settles [.ref 0] σ (zCQ (q_settles S ) σ) := by
  obtain ⟨⟨⟨F, P, hg0⟩, y0, hy0, ey0⟩, hkp, hlt, hrw⟩ := id hS
  have hnF := hg0.nF
  have hnP := hg0.nP
  have hr0 := h.1
  have hg : zGd (zrow σ 1) F P := by rw [hr0]; exact hg0
  have hF6 := hg.F6
  have hP6 := hg.P6
  have hF : σ 1 0 = nI F := hg.r0
  have hP : σ 1 1 = nI P := hg.r1
  unfold q_settles
  try rw [hnF]
  try rw [hnP]
  refine zSem.of (by decide +kernel) (Nat.le_of_ble_eq_true rfl) (fun X hB hR => ?_)
  show zW X 0 [some (.ref 0)] [] σ
  refine zw_aload0 hB dX5_settles_0 ?_
  refine zw_getfR hB dX5_settles_1 zf_X5_32 rfl rfl ?_
  refine zw_aload0 hB dX5_settles_4 ?_
  refine zw_getfR hB dX5_settles_5 zf_X5_10 rfl rfl ?_
  refine zw_callV1 (M' := mX3_settledYear) hB dX5_settles_8 zl_X5_199 zg_X3_settledYear (zRc.of rfl rfl rfl) (s_X3_settledYear hg) (fun v8 σ8 hq8 => ?_)
  obtain ⟨rfl, x1⟩ := hq8
  refine zw_iret hB hR dX5_settles_11 rfl ?_
  exact ⟨by rw [← hr0], h.keep (fun c hc => x1 c (by omega)), fun c hc => x1 c (by omega)⟩
theorem s_X5_round {n : Nat} {σ : zSt} {S : zS} (hS : zOk S) (h : zCW S σ)  : zSem (n + 5) mX5_round [.ref 0] σ (zCQ (q_round S ) σ) := by
  obtain ⟨⟨⟨F, P, hg0⟩, y0, hy0, ey0⟩, hkp, hlt, hrw⟩ := id hS
  have hnF := hg0.nF
  have hnP := hg0.nP
  have hr0 := h.1
  have hg : zGd (zrow σ 1) F P := by rw [hr0]; exact hg0
  have hF6 := hg.F6
  have hP6 := hg.P6
  have hF : σ 1 0 = nI F := hg.r0
  have hP : σ 1 1 = nI P := hg.r1
  unfold q_round
  try rw [hnF]
  try rw [hnP]
  refine zSem.of (by decide +kernel) (Nat.le_of_ble_eq_true rfl) (fun X hB hR => ?_)
  show zW X 0 [some (.ref 0)] [] σ
  refine zw_aload0 hB dX5_round_0 ?_
  refine zw_getfR hB dX5_round_1 zf_X5_32 rfl rfl ?_
  refine zw_aload0 hB dX5_round_4 ?_
  refine zw_getfR hB dX5_round_5 zf_X5_10 rfl rfl ?_
  refine zw_callV1 (M' := mX3_roundYear) hB dX5_round_8 zl_X5_202 zg_X3_roundYear (zRc.of rfl rfl rfl) (s_X3_roundYear hg) (fun v8 σ8 hq8 => ?_)
  obtain ⟨rfl, x1⟩ := hq8
  refine zw_iret hB hR dX5_round_11 rfl ?_
  exact ⟨by rw [← hr0], h.keep (fun c hc => x1 c (by omega)), fun c hc => x1 c (by omega)⟩
theorem s_X5_even {n : Nat} {σ : zSt} {S : zS} (hS : zOk S) (h : zCW S σ)  : zSem (n + 5) mX5_even [.ref 0] σ (zCQ (q_even S ) σ) := by
  obtain ⟨⟨⟨F, P, hg0⟩, y0, hy0, ey0⟩, hkp, hlt, hrw⟩ := id hS
  have hnF := hg0.nF
  have hnP := hg0.nP
  have hr0 := h.1
  have hg : zGd (zrow σ 1) F P := by rw [hr0]; exact hg0
  have hF6 := hg.F6
  have hP6 := hg.P6
  have hF : σ 1 0 = nI F := hg.r0
  have hP : σ 1 1 = nI P := hg.r1
  unfold q_even
  try rw [hnF]
  try rw [hnP]
  refine zSem.of (by decide +kernel) (Nat.le_of_ble_eq_true rfl) (fun X hB hR => ?_)
  show zW X 0 [some (.ref 0)] [] σ
  refine zw_aload0 hB dX5_even_0 ?_
  refine zw_getfR hB dX5_even_1 zf_X5_10 rfl rfl ?_
  refine zw_callV0P (M' := mX1_mostGreen) hB dX5_even_4 zl_X5_214 zg_X1_mostGreen (zRc.of zld1.1 rfl rfl) (s_X1_mostGreen zld1 hg) ?_
  refine zw_aload0 hB dX5_even_7 ?_
  refine zw_getfR hB dX5_even_8 zf_X5_10 rfl rfl ?_
  refine zw_callV0P (M' := mX1_leastGreen) hB dX5_even_11 zl_X5_217 zg_X1_leastGreen (zRc.of zld1.1 rfl rfl) (s_X1_leastGreen zld1 hg) ?_
  refine zw_isub hB dX5_even_14 ?_
  refine zw_iret hB hR dX5_even_15 rfl ?_
  exact ⟨by rw [← hr0], h, fun _ _ => rfl⟩
theorem s_X5_send {n : Nat} {σ : zSt} {S : zS} (hS : zOk S) (h : zCW S σ) (m : Int32) : zSem (n + 7) mX5_send [.ref 0, .int m] σ (zCQ (q_send S m) σ) := by
  obtain ⟨⟨⟨F, P, hg0⟩, y0, hy0, ey0⟩, hkp, hlt, hrw⟩ := id hS
  have hnF := hg0.nF
  have hnP := hg0.nP
  have hr0 := h.1
  have hg : zGd (zrow σ 1) F P := by rw [hr0]; exact hg0
  have hF6 := hg.F6
  have hP6 := hg.P6
  have hF : σ 1 0 = nI F := hg.r0
  have hP : σ 1 1 = nI P := hg.r1
  unfold q_send
  try rw [hnF]
  try rw [hnP]
  refine zSem.of (by decide +kernel) (Nat.le_of_ble_eq_true rfl) (fun X hB hR => ?_)
  show zW X 0 [some (.ref 0), some (.int m), none] [] σ
  refine zw_iload1 hB dX5_send_0 ?_
  refine zw_iconst (x := nI 1) hB dX5_send_1 (by decide) ?_
  refine zw_bipush (x := nI 30) hB dX5_send_2 (by decide) ?_
  refine zw_callS3P (M' := mX5_inRange) hB dX5_send_4 zl_X5_43 zg_X5_inRange (s_X5_inRange _ _ _) ?_
  refine zw_istore2 hB dX5_send_7 rfl ?_
  refine zw_iload2 hB dX5_send_8 ?_
  refine zw_if_eq (tgt := 20) hB dX5_send_9 (by decide) (fun c9 => ?_) (fun c9 => ?_)
  · obtain ⟨m, -, hm, rfl⟩ := zir_0 (by omega) (by omega) c9
    refine zw_aload0 hB dX5_send_20 ?_
    refine zw_getfR hB dX5_send_21 zf_X5_32 rfl rfl ?_
    refine zw_aload0 hB dX5_send_24 ?_
    refine zw_getfR hB dX5_send_25 zf_X5_10 rfl rfl ?_
    refine zw_iload1 hB dX5_send_28 ?_
    refine zw_callV2 (M' := mX3_farmerToSend) hB dX5_send_29 zl_X5_172 zg_X3_farmerToSend (zRc.of rfl rfl rfl) (s_X3_farmerToSend hg (by omega)) (fun v29 σ29 hq29 => ?_)
    obtain ⟨rfl, x1⟩ := hq29
    refine zw_iret hB hR dX5_send_32 rfl ?_
    refine zCQ.ok h c9 ?_ (fun c hc => x1 c (by omega))
    rw [nI_clamp (by omega), ← hr0]
  · obtain ⟨k, hk, hc⟩ := (zcd_ir).resolve_left c9
    refine zw_aload0 hB dX5_send_12 ?_
    refine zw_iload2 hB dX5_send_13 ?_
    refine zw_callV1 (M' := mX5_refuse) hB dX5_send_14 zl_X5_58 zg_X5_refuse (zRc.of rfl rfl rfl) (s_X5_refuse _ hc hk) (fun v14 σ14 hq14 => ?_)
    obtain ⟨rfl, rfl⟩ := hq14
    refine zw_goto (tgt := 32) hB dX5_send_17 (by decide) ?_
    refine zw_iret hB hR dX5_send_32 rfl ?_
    exact zCQ.no h c9 hk hc
theorem s_X5_change {n : Nat} {σ : zSt} {S : zS} (hS : zOk S) (h : zCW S σ) (m : Int32) : zSem (n + 7) mX5_change [.ref 0, .int m] σ (zCQ (q_change S m) σ) := by
  obtain ⟨⟨⟨F, P, hg0⟩, y0, hy0, ey0⟩, hkp, hlt, hrw⟩ := id hS
  have hnF := hg0.nF
  have hnP := hg0.nP
  have hr0 := h.1
  have hg : zGd (zrow σ 1) F P := by rw [hr0]; exact hg0
  have hF6 := hg.F6
  have hP6 := hg.P6
  have hF : σ 1 0 = nI F := hg.r0
  have hP : σ 1 1 = nI P := hg.r1
  unfold q_change
  try rw [hnF]
  try rw [hnP]
  refine zSem.of (by decide +kernel) (Nat.le_of_ble_eq_true rfl) (fun X hB hR => ?_)
  show zW X 0 [some (.ref 0), some (.int m), none] [] σ
  refine zw_iload1 hB dX5_change_0 ?_
  refine zw_iconst (x := nI 1) hB dX5_change_1 (by decide) ?_
  refine zw_bipush (x := nI 30) hB dX5_change_2 (by decide) ?_
  refine zw_callS3P (M' := mX5_inRange) hB dX5_change_4 zl_X5_43 zg_X5_inRange (s_X5_inRange _ _ _) ?_
  refine zw_istore2 hB dX5_change_7 rfl ?_
  refine zw_iload2 hB dX5_change_8 ?_
  refine zw_if_eq (tgt := 20) hB dX5_change_9 (by decide) (fun c9 => ?_) (fun c9 => ?_)
  · obtain ⟨m, -, hm, rfl⟩ := zir_0 (by omega) (by omega) c9
    refine zw_aload0 hB dX5_change_20 ?_
    refine zw_getfR hB dX5_change_21 zf_X5_32 rfl rfl ?_
    refine zw_aload0 hB dX5_change_24 ?_
    refine zw_getfR hB dX5_change_25 zf_X5_10 rfl rfl ?_
    refine zw_iload1 hB dX5_change_28 ?_
    refine zw_callV2 (M' := mX3_pairToChange) hB dX5_change_29 zl_X5_175 zg_X3_pairToChange (zRc.of rfl rfl rfl) (s_X3_pairToChange hg (by omega)) (fun v29 σ29 hq29 => ?_)
    obtain ⟨rfl, x1⟩ := hq29
    refine zw_iret hB hR dX5_change_32 rfl ?_
    refine zCQ.ok h c9 ?_ (fun c hc => x1 c (by omega))
    rw [nI_clamp (by omega), ← hr0]
  · obtain ⟨k, hk, hc⟩ := (zcd_ir).resolve_left c9
    refine zw_aload0 hB dX5_change_12 ?_
    refine zw_iload2 hB dX5_change_13 ?_
    refine zw_callV1 (M' := mX5_refuse) hB dX5_change_14 zl_X5_58 zg_X5_refuse (zRc.of rfl rfl rfl) (s_X5_refuse _ hc hk) (fun v14 σ14 hq14 => ?_)
    obtain ⟨rfl, rfl⟩ := hq14
    refine zw_goto (tgt := 32) hB dX5_change_17 (by decide) ?_
    refine zw_iret hB hR dX5_change_32 rfl ?_
    exact zCQ.no h c9 hk hc
theorem s_X5_free {n : Nat} {σ : zSt} {S : zS} (hS : zOk S) (h : zCW S σ) (w : Int32) : zSem (n + 2) mX5_free [.ref 0, .int w] σ (zCQ (q_free S w) σ) := by
  obtain ⟨⟨⟨F, P, hg0⟩, y0, hy0, ey0⟩, hkp, hlt, hrw⟩ := id hS
  have hnF := hg0.nF
  have hnP := hg0.nP
  have hr0 := h.1
  have hg : zGd (zrow σ 1) F P := by rw [hr0]; exact hg0
  have hF6 := hg.F6
  have hP6 := hg.P6
  have hF : σ 1 0 = nI F := hg.r0
  have hP : σ 1 1 = nI P := hg.r1
  unfold q_free
  try rw [hnF]
  try rw [hnP]
  refine zSem.of (by decide +kernel) (Nat.le_of_ble_eq_true rfl) (fun X hB hR => ?_)
  show zW X 0 [some (.ref 0), some (.int w), none] [] σ
  refine zw_iload1 hB dX5_free_0 ?_
  refine zw_iconst (x := nI 2) hB dX5_free_1 (by decide) ?_
  refine zw_callS2P (M' := mX5_otherUnless) hB dX5_free_2 zl_X5_85 zg_X5_otherUnless (s_X5_otherUnless _ _) ?_
  refine zw_istore2 hB dX5_free_5 rfl ?_
  refine zw_iload2 hB dX5_free_6 ?_
  refine zw_if_eq (tgt := 16) hB dX5_free_7 (by decide) (fun c7 => ?_) (fun c7 => ?_)
  · refine zw_iload1 hB dX5_free_16 ?_
    refine zw_if_ne (tgt := 28) hB dX5_free_17 (by decide) (fun c17 => ?_) (fun c17 => ?_)
    · refine zw_iload1 hB dX5_free_28 ?_
      refine zw_iconst (x := nI 1) hB dX5_free_29 (by decide) ?_
      refine zw_icmp_ne (tgt := 43) hB dX5_free_30 (by decide) (fun c30 => ?_) (fun c30 => ?_)
      · refine zw_aload0 hB dX5_free_43 ?_
        refine zw_getfR hB dX5_free_44 zf_X5_10 rfl rfl ?_
        refine zw_callV0P (M' := mX1_wornFarmers) hB dX5_free_47 zl_X5_211 zg_X1_wornFarmers (zRc.of zld1.1 rfl rfl) (s_X1_wornFarmers zld1 hg) ?_
        refine zw_iret hB hR dX5_free_50 rfl ?_
        refine zCQ.ok h c7 ?_ (fun _ _ => rfl)
        rw [if_neg (show ¬ w = nI 0 from c17), if_neg (show ¬ w = nI 1 from c30), ← hr0]
      · refine zw_aload0 hB dX5_free_33 ?_
        refine zw_getfR hB dX5_free_34 zf_X5_10 rfl rfl ?_
        refine zw_callV0P (M' := mX1_idleFarmers) hB dX5_free_37 zl_X5_208 zg_X1_idleFarmers (zRc.of zld1.1 rfl rfl) (s_X1_idleFarmers zld1 hg) ?_
        refine zw_goto (tgt := 50) hB dX5_free_40 (by decide) ?_
        refine zw_iret hB hR dX5_free_50 rfl ?_
        refine zCQ.ok h c7 ?_ (fun _ _ => rfl)
        rw [if_neg (show ¬ w = nI 0 from c17), if_pos (show w = nI 1 from c30), ← hr0]
    · refine zw_aload0 hB dX5_free_20 ?_
      refine zw_getfR hB dX5_free_21 zf_X5_10 rfl rfl ?_
      refine zw_callV0P (M' := mX1_freeFarms) hB dX5_free_24 zl_X5_205 zg_X1_freeFarms (zRc.of zld1.1 rfl rfl) (s_X1_freeFarms zld1 hg) ?_
      refine zw_iret hB hR dX5_free_27 rfl ?_
      refine zCQ.ok h c7 ?_ (fun _ _ => rfl)
      rw [if_pos (show w = nI 0 from c17), ← hr0]
  · obtain ⟨k, hk, hc⟩ := (zcd_ou).resolve_left c7
    refine zw_aload0 hB dX5_free_10 ?_
    refine zw_iload2 hB dX5_free_11 ?_
    refine zw_callV1 (M' := mX5_refuse) hB dX5_free_12 zl_X5_58 zg_X5_refuse (zRc.of rfl rfl rfl) (s_X5_refuse _ hc hk) (fun v12 σ12 hq12 => ?_)
    obtain ⟨rfl, rfl⟩ := hq12
    refine zw_iret hB hR dX5_free_15 rfl ?_
    exact zCQ.no h c7 hk hc
