/-! THE REFERENCE'S CALLS: send, change, bestStep, farmerThen -/
/-- all but the reference's cells for thought -/
def zR3 (σ τ : zSt) : Prop := ∀ a, a ≠ 52 → a ≠ 54 → a ≠ 55 → a ≠ 56 → τ a = σ a
theorem zR3.rf {σ : zSt} : zR3 σ σ := fun _ _ _ _ _ => rfl
theorem zR3.tr {σ τ υ : zSt} (h : zR3 σ τ) (k : zR3 τ υ) : zR3 σ υ := fun a h1 h2 h3 h4 => (k a h1 h2 h3 h4).trans (h a h1 h2 h3 h4)
theorem zR3.a {σ τ : zSt} (h : ∀ a, a ≠ 52 → τ a = σ a) : zR3 σ τ := fun a h1 _ _ _ => h a h1
theorem zR3.b {σ τ : zSt} (h : ∀ a, a ≠ 52 → a ≠ 55 → a ≠ 56 → τ a = σ a) : zR3 σ τ := fun a h1 _ h3 h4 => h a h1 h3 h4
theorem zR3.c {σ : zSt} {f : Nat → Int32} : zR3 σ (zC σ 52 f) := fun _ h1 _ _ _ => zC_n h1
theorem zR3.d {σ τ : zSt} (h : ∀ a, a ≠ 54 → τ a = σ a) : zR3 σ τ := fun a _ h2 _ _ => h a h2
theorem zR3.ro {σ τ : zSt} (h : zR3 σ τ) : zro τ 51 = zro σ 51 := zro_congr (h 51 (by omega) (by omega) (by omega) (by omega))
theorem zR3.k {σ τ : zSt} (h : zR3 σ τ) (k : Nat) : τ 51 k = σ 51 k := congrFun (h 51 (by omega) (by omega) (by omega) (by omega)) k
theorem zRQ.ok3 {S : zS} {σ τ : zSt} {e : Int32} {v v' : Value} (h : zRW S σ) (he : e = 0) (hv : v = v') (k : zR3 σ τ) : zRQ (zq S e (v', S)) σ (some v) τ :=
  zRQ.ok h he hv (by rw [k 50 (by omega) (by omega) (by omega) (by omega)]; exact ⟨rfl, rfl, rfl⟩) (fun c hc => k c (by omega) (by omega) (by omega) (by omega))
theorem zRQ.ok4 {S : zS} {σ τ : zSt} {v v' : Value} (h : zRW S σ) (hv : v = v') (k : zR3 σ τ) : zRQ (v', S) σ (some v) τ :=
  ⟨by rw [hv], h.keep (by rw [k 50 (by omega) (by omega) (by omega) (by omega)]; exact ⟨rfl, rfl, rfl⟩) (fun c hc => k c (by omega) (by omega) (by omega) (by omega)), fun c hc => k c (by omega) (by omega) (by omega) (by omega)⟩
theorem zfo_n {a b c : Int32} (h : ¬ zfo a b (nI 0) = 0) : zfo a b c = zfo a b (nI 0) := by
  unfold zfo at h ⊢
  by_cases ha : a = 0
  · rw [if_pos ha] at h ⊢
    rw [if_pos ha]
    by_cases hb : b = 0
    · rw [if_pos hb] at h; exact absurd nI_0 h
    · rw [if_neg hb, if_neg hb]
  · rw [if_neg ha, if_neg ha]
theorem zfo_z {a b c : Int32} (h : zfo a b (nI 0) = 0) : zfo a b c = c := by
  obtain ⟨ha, hb, -⟩ := zfo_0 h
  unfold zfo
  rw [if_pos ha, if_pos hb]
theorem zfo_y {b c : Int32} {a : Int32} (h : a = 0) (g : ¬ b = 0) : zfo a b c = b := by
  unfold zfo
  rw [if_pos h, if_neg g]
theorem zfo_x {b c : Int32} {a : Int32} (h : a = 0) (g : b = 0) : zfo a b c = c := by
  unfold zfo
  rw [if_pos h, if_pos g]

theorem s_X6_send {n : Nat} {σ : zSt} {S : zS} (hS : zOk S) (h : zRW S σ) (mm : Int32) : zSem (n + 6) mX6_send [.ref 50, .int mm] σ (zRQ (q_send S mm) σ) := by
  obtain ⟨⟨⟨F, P, hg0⟩, y0, hy0, ey0⟩, hkp, hlt, hrw⟩ := id hS
  have hnF := hg0.nF
  have hnP := hg0.nP
  have hr0 := h.1
  have hg : zGd (zro σ 51) F P := by rw [hr0]; exact hg0
  have hF6 := hg.F6
  have hP6 := hg.P6
  have hF : σ 51 0 = nI F := (zro_k (by omega)).symm.trans hg.r0
  have hP : σ 51 1 = nI P := (zro_k (by omega)).symm.trans hg.r1
  unfold q_send
  try rw [hnF]
  try rw [hnP]
  refine zSem.of (by decide +kernel) (Nat.le_of_ble_eq_true rfl) (fun X hB hR => ?_)
  show zW X 0 [some (.ref 50), some (.int mm), none, none, none, none, none] [] σ
  have hl : ∀ m, mm = nI m → zir (nI m) (nI 1) (nI 30) = 0 → m < 2 ^ 31 → ∀ i, i ≤ P → ∀ (υ : zSt) (a2 a6 : Option Value) (u v : Int32), zc1 a2 = true → zR3 σ υ → (u, v) = zgm nI (zgL (zro σ 51) P m) (-9, zGs (zro σ 51) P m) i → zW X 31 [some (.ref 50), some (.int (nI m)), a2, some (.int v), some (.int u), some (.int (nI i)), a6] [] υ := by
    rintro m rfl e0 hm
    refine zfor P (fun i hi ih => ?_)
    intro υ a2 a6 u v k2 ou e
    have k1 : υ 51 1 = nI P := (ou.k 1).trans hP
    have e2 : v = (zgm nI (zgL (zro σ 51) P m) (-9, zGs (zro σ 51) P m) i).2 := by rw [← e]
    refine zw_iload5 hB dX6_send_31 ?_
    refine zw_aload0 hB dX6_send_33 ?_
    refine zw_getfR hB dX6_send_34 zf_X6_9 rfl rfl ?_
    refine zw_iconst (x := nI 1) hB dX6_send_37 (by decide) ?_
    refine zw_ialdV (x := nI P) hB dX6_send_38 rfl (by omega) (by decide) (k1) ?_
    refine zw_icmp_geN (tgt := 99) hB dX6_send_39 (by decide) (by omega) (by omega) (fun c39 => ?_) (fun c39 => ?_)
    · refine zw_iload4 hB dX6_send_99 ?_
      refine zw_iret hB hR dX6_send_101 rfl ?_
      have ePi : i = P := by omega
      subst ePi
      exact zRQ.ok3 h e0 (by rw [nI_clamp hm, ← hr0, ← e]) ou
    · refine zw_aload0 hB dX6_send_42 ?_
      refine zw_getfR hB dX6_send_43 zf_X6_9 rfl rfl ?_
      refine zw_aload0 hB dX6_send_46 ?_
      refine zw_getfR hB dX6_send_47 zf_X6_13 rfl rfl ?_
      refine zw_callS2 (M' := mX6_copies) hB dX6_send_50 zl_X6_130 zg_X6_copies (s_X6_copies (c := 51) (d := 52) rfl rfl (by decide)) (fun v50 σ50 hq50 => ?_)
      obtain ⟨rfl, x1, x2⟩ := hq50
      refine zw_aload0 hB dX6_send_53 ?_
      refine zw_getfR hB dX6_send_54 zf_X6_13 rfl rfl ?_
      refine zw_iload5 hB dX6_send_57 ?_
      refine zw_iconst (x := nI 3) hB dX6_send_59 (by decide) ?_
      refine zw_callS2P (M' := mX6_of) hB dX6_send_60 zl_X6_56 zg_X6_of (s_X6_of) ?_
      refine zw_bipush (x := -9) hB dX6_send_63 (by decide) ?_
      refine zw_iastN hB dX6_send_65 rfl (by omega) (by decide) ?_
      have z5 : zro (zC σ50 52 (upd (σ50 52) (23 + 4 * i + 3) (-9))) 52 = upd (zro σ 51) (26 + 4 * i) (-9) := by rw [zro_set (by omega), x1, ou.ro, show 23 + 4 * i + 3 = 26 + 4 * i by omega]
      have g5 : zGd (zro (zC σ50 52 (upd (σ50 52) (23 + 4 * i + 3) (-9))) 52) F P := by rw [z5]; exact zGd_none hg c39
      have o5 := ou.tr ((zR3.a x2).tr (zR3.c (f := upd (σ50 52) (23 + 4 * i + 3) (-9))))
      refine zw_aload0 hB dX6_send_66 ?_
      refine zw_aload0 hB dX6_send_67 ?_
      refine zw_getfR hB dX6_send_68 zf_X6_13 rfl rfl ?_
      refine zw_iload1 hB dX6_send_71 ?_
      refine zw_callV2 (M' := mX6_yearsOn) hB dX6_send_72 zl_X6_124 zg_X6_yearsOn (zRc.of rfl rfl rfl) (s_X6_yearsOn (c := 52) rfl (by omega) g5 hm) (fun v72 σ72 hq72 => ?_)
      obtain ⟨rfl, y1, y2, y3, y4⟩ := hq72
      rw [z5]
      refine zw_istore6 hB dX6_send_75 (by first | rfl | assumption) ?_
      refine zw_iload6 hB dX6_send_77 ?_
      refine zw_iload3 hB dX6_send_79 ?_
      refine zw_icmp_gt (tgt := 86) hB dX6_send_80 (by decide) (fun c80 => ?_) (fun c80 => ?_)
      · refine zw_iload5 hB dX6_send_86 ?_
        refine zw_istore4 hB dX6_send_88 (by first | rfl | assumption) ?_
        refine zw_iload6 hB dX6_send_90 ?_
        refine zw_istore3 hB dX6_send_92 (by first | rfl | assumption) ?_
        refine zw_iinc5 hB dX6_send_93 (by first | exact zinc _ | rfl) (by first | rfl | assumption) ?_
        refine zw_goto (tgt := 31) hB dX6_send_96 (by decide) ?_
        exact ih c39 _ _ _ _ _ k2 (o5.tr (zR3.b y4)) (by rw [zgm_t (by rw [← e2]; exact c80)]; rfl)
      · refine zw_goto (tgt := 93) hB dX6_send_83 (by decide) ?_
        refine zw_iinc5 hB dX6_send_93 (by first | exact zinc _ | rfl) (by first | rfl | assumption) ?_
        refine zw_goto (tgt := 31) hB dX6_send_96 (by decide) ?_
        exact ih c39 _ _ _ _ _ k2 (o5.tr (zR3.b y4)) (by rw [zgm_f (by rw [← e2]; exact c80)]; exact e)
  refine zw_iload1 hB dX6_send_0 ?_
  refine zw_iconst (x := nI 1) hB dX6_send_1 (by decide) ?_
  refine zw_bipush (x := nI 30) hB dX6_send_2 (by decide) ?_
  refine zw_callS3P (M' := mX6_wrongBy) hB dX6_send_4 zl_X6_137 zg_X6_wrongBy (s_X6_wrongBy _ _ _) ?_
  refine zw_istore2 hB dX6_send_7 (by first | rfl | assumption) ?_
  refine zw_iload2 hB dX6_send_8 ?_
  refine zw_if_eq (tgt := 18) hB dX6_send_9 (by decide) (fun c9 => ?_) (fun c9 => ?_)
  · have e0 := c9
    obtain ⟨m, hm1, hm, rfl⟩ := zir_0 (by omega) (by omega) c9
    refine zw_aload0 hB dX6_send_18 ?_
    refine zw_iload1 hB dX6_send_19 ?_
    refine zw_callV1 (M' := mX6_takes) hB dX6_send_20 zl_X6_141 zg_X6_takes (zRc.of rfl rfl rfl) (s_X6_takes hg (by omega)) (fun v20 σ20 hq20 => ?_)
    obtain ⟨rfl, x1, x2, x3, x4⟩ := hq20
    refine zw_istore3 hB dX6_send_23 (by first | rfl | assumption) ?_
    refine zw_bipush (x := -9) hB dX6_send_24 (by decide) ?_
    refine zw_istore4 hB dX6_send_26 (by first | rfl | assumption) ?_
    refine zw_iconst (x := nI 0) hB dX6_send_28 (by decide) ?_
    refine zw_istore5 hB dX6_send_29 (by first | rfl | assumption) ?_
    exact hl m rfl e0 (by omega) 0 (by omega) _ _ _ _ _ rfl (zR3.b x4) rfl
  · obtain ⟨k, hk, hc⟩ := (zcd_ir (v := mm) (a := nI 1) (m := nI 30)).resolve_left c9
    refine zw_aload0 hB dX6_send_12 ?_
    refine zw_iload2 hB dX6_send_13 ?_
    refine zw_callV1 (M' := mX6_no) hB dX6_send_14 zl_X6_48 zg_X6_no (zRc.of rfl rfl rfl) (s_X6_no _ hc hk) (fun v14 σ14 hq14 => ?_)
    obtain ⟨rfl, rfl⟩ := hq14
    refine zw_iret hB hR dX6_send_17 rfl ?_
    exact zRQ.no h c9 hk hc
theorem s_X6_change {n : Nat} {σ : zSt} {S : zS} (hS : zOk S) (h : zRW S σ) (mm : Int32) : zSem (n + 6) mX6_change [.ref 50, .int mm] σ (zRQ (q_change S mm) σ) := by
  obtain ⟨⟨⟨F, P, hg0⟩, y0, hy0, ey0⟩, hkp, hlt, hrw⟩ := id hS
  have hnF := hg0.nF
  have hnP := hg0.nP
  have hr0 := h.1
  have hg : zGd (zro σ 51) F P := by rw [hr0]; exact hg0
  have hF6 := hg.F6
  have hP6 := hg.P6
  have hF : σ 51 0 = nI F := (zro_k (by omega)).symm.trans hg.r0
  have hP : σ 51 1 = nI P := (zro_k (by omega)).symm.trans hg.r1
  unfold q_change
  try rw [hnF]
  try rw [hnP]
  refine zSem.of (by decide +kernel) (Nat.le_of_ble_eq_true rfl) (fun X hB hR => ?_)
  show zW X 0 [some (.ref 50), some (.int mm), none, none, none, none, none, none] [] σ
  have hl : ∀ m, mm = nI m → zir (nI m) (nI 1) (nI 30) = 0 → m < 2 ^ 31 → ∀ a, a ≤ P → ∀ (υ : zSt) (a2 a6 a7 : Option Value) (u v : Int32), zc1 a2 = true → zR3 σ υ → (u, v) = zgP (zro σ 51) P m (-9, zGs (zro σ 51) P m) a → zW X 31 [some (.ref 50), some (.int (nI m)), a2, some (.int v), some (.int u), some (.int (nI a)), a6, a7] [] υ := by
    rintro m rfl e0 hm
    refine zfor P (fun a ha iha => ?_)
    intro υ a2 a6 a7 u v k2 ou e
    have k1 : υ 51 1 = nI P := (ou.k 1).trans hP
    have hin : a < P → ∀ j, j ≤ P - (a + 1) → ∀ (υ : zSt) (a7 : Option Value) (u v : Int32), zR3 σ υ → (u, v) = zgm (fun j => nI (10 * a + (a + 1 + j))) (fun j => zgX (zro σ 51) P m a (a + 1 + j)) (zgP (zro σ 51) P m (-9, zGs (zro σ 51) P m) a) j → zW X 48 [some (.ref 50), some (.int (nI m)), a2, some (.int v), some (.int u), some (.int (nI a)), some (.int (nI (a + 1 + j))), a7] [] υ := by
      intro haP
      refine zfor (P - (a + 1)) (fun j hj ih => ?_)
      intro υ a7 u v ou e
      have k1 : υ 51 1 = nI P := (ou.k 1).trans hP
      have e2 : v = (zgm (fun j => nI (10 * a + (a + 1 + j))) (fun j => zgX (zro σ 51) P m a (a + 1 + j)) (zgP (zro σ 51) P m (-9, zGs (zro σ 51) P m) a) j).2 := by rw [← e]
      refine zw_iload6 hB dX6_change_48 ?_
      refine zw_aload0 hB dX6_change_50 ?_
      refine zw_getfR hB dX6_change_51 zf_X6_9 rfl rfl ?_
      refine zw_iconst (x := nI 1) hB dX6_change_54 (by decide) ?_
      refine zw_ialdV (x := nI P) hB dX6_change_55 rfl (by omega) (by decide) (k1) ?_
      refine zw_icmp_geN (tgt := 153) hB dX6_change_56 (by decide) (by omega) (by omega) (fun c56 => ?_) (fun c56 => ?_)
      · refine zw_iinc5 hB dX6_change_153 (by first | exact zinc _ | rfl) (by first | rfl | assumption) ?_
        refine zw_goto (tgt := 31) hB dX6_change_156 (by decide) ?_
        exact iha (by omega) _ _ _ _ _ _ k2 ou (by rw [e, show j = P - (a + 1) by omega]; rfl)
      · refine zw_aload0 hB dX6_change_59 ?_
        refine zw_getfR hB dX6_change_60 zf_X6_9 rfl rfl ?_
        refine zw_aload0 hB dX6_change_63 ?_
        refine zw_getfR hB dX6_change_64 zf_X6_13 rfl rfl ?_
        refine zw_callS2 (M' := mX6_copies) hB dX6_change_67 zl_X6_130 zg_X6_copies (s_X6_copies (c := 51) (d := 52) rfl rfl (by decide)) (fun v67 σ67 hq67 => ?_)
        obtain ⟨rfl, x1, x2⟩ := hq67
        refine zw_aload0 hB dX6_change_70 ?_
        refine zw_getfR hB dX6_change_71 zf_X6_13 rfl rfl ?_
        refine zw_iload5 hB dX6_change_74 ?_
        refine zw_iconst (x := nI 3) hB dX6_change_76 (by decide) ?_
        refine zw_callS2P (M' := mX6_of) hB dX6_change_77 zl_X6_56 zg_X6_of (s_X6_of) ?_
        refine zw_aload0 hB dX6_change_80 ?_
        refine zw_getfR hB dX6_change_81 zf_X6_9 rfl rfl ?_
        refine zw_iload6 hB dX6_change_84 ?_
        refine zw_iconst (x := nI 3) hB dX6_change_86 (by decide) ?_
        refine zw_callS2P (M' := mX6_of) hB dX6_change_87 zl_X6_56 zg_X6_of (s_X6_of) ?_
        refine zw_ialdN hB dX6_change_90 rfl (by omega) (by decide) ?_
        refine zw_iastN hB dX6_change_91 rfl (by omega) (by decide) ?_
        refine zw_aload0 hB dX6_change_92 ?_
        refine zw_getfR hB dX6_change_93 zf_X6_13 rfl rfl ?_
        refine zw_iload6 hB dX6_change_96 ?_
        refine zw_iconst (x := nI 3) hB dX6_change_98 (by decide) ?_
        refine zw_callS2P (M' := mX6_of) hB dX6_change_99 zl_X6_56 zg_X6_of (s_X6_of) ?_
        refine zw_aload0 hB dX6_change_102 ?_
        refine zw_getfR hB dX6_change_103 zf_X6_9 rfl rfl ?_
        refine zw_iload5 hB dX6_change_106 ?_
        refine zw_iconst (x := nI 3) hB dX6_change_108 (by decide) ?_
        refine zw_callS2P (M' := mX6_of) hB dX6_change_109 zl_X6_56 zg_X6_of (s_X6_of) ?_
        refine zw_ialdN hB dX6_change_112 rfl (by omega) (by decide) ?_
        refine zw_iastN hB dX6_change_113 rfl (by omega) (by decide) ?_
        have r67 : σ67 51 = σ 51 := (x2 51 (by omega)).trans (ou 51 (by omega) (by omega) (by omega) (by omega))
        have z5 : zro (zC (zC σ67 52 (upd (σ67 52) (23 + 4 * a + 3) (σ67 51 (23 + 4 * (a + 1 + j) + 3)))) 52 (upd (zC σ67 52 (upd (σ67 52) (23 + 4 * a + 3) (σ67 51 (23 + 4 * (a + 1 + j) + 3))) 52) (23 + 4 * (a + 1 + j) + 3) (zC σ67 52 (upd (σ67 52) (23 + 4 * a + 3) (σ67 51 (23 + 4 * (a + 1 + j) + 3))) 51 (23 + 4 * a + 3)))) 52 = zEx (zro σ 51) a (a + 1 + j) := by
          rw [zro_set (by omega), zro_set (by omega), x1, ou.ro, zC_n (show 51 ≠ 52 by omega), r67]
          have s1 : σ 51 (23 + 4 * (a + 1 + j) + 3) = (zro σ 51) (26 + 4 * (a + 1 + j)) := by rw [zro_k (by omega)]; congr 1; omega
          have s2 : σ 51 (23 + 4 * a + 3) = (zro σ 51) (26 + 4 * a) := by rw [zro_k (by omega)]; congr 1; omega
          rw [s1, s2, show 23 + 4 * a + 3 = 26 + 4 * a by omega, show 23 + 4 * (a + 1 + j) + 3 = 26 + 4 * (a + 1 + j) by omega]
          funext k
          unfold zEx
          by_cases q2 : k = 26 + 4 * (a + 1 + j)
          · subst q2; rw [zupd_s, if_neg (by omega), if_pos rfl]
          · rw [zupd_o q2]
            by_cases q1 : k = 26 + 4 * a
            · subst q1; rw [zupd_s, if_pos rfl]
            · rw [zupd_o q1, if_neg q1, if_neg q2]
        have g5 : zGd (zro (zC (zC σ67 52 (upd (σ67 52) (23 + 4 * a + 3) (σ67 51 (23 + 4 * (a + 1 + j) + 3)))) 52 (upd (zC σ67 52 (upd (σ67 52) (23 + 4 * a + 3) (σ67 51 (23 + 4 * (a + 1 + j) + 3))) 52) (23 + 4 * (a + 1 + j) + 3) (zC σ67 52 (upd (σ67 52) (23 + 4 * a + 3) (σ67 51 (23 + 4 * (a + 1 + j) + 3))) 51 (23 + 4 * a + 3)))) 52) F P := by rw [z5]; exact zGd_Ex hg (by omega) (by omega) (by omega)
        have o5 := ou.tr ((zR3.a x2).tr ((zR3.c (f := upd (σ67 52) (23 + 4 * a + 3) (σ67 51 (23 + 4 * (a + 1 + j) + 3)))).tr (zR3.c (f := upd (zC σ67 52 (upd (σ67 52) (23 + 4 * a + 3) (σ67 51 (23 + 4 * (a + 1 + j) + 3))) 52) (23 + 4 * (a + 1 + j) + 3) (zC σ67 52 (upd (σ67 52) (23 + 4 * a + 3) (σ67 51 (23 + 4 * (a + 1 + j) + 3))) 51 (23 + 4 * a + 3))))))
        refine zw_aload0 hB dX6_change_114 ?_
        refine zw_aload0 hB dX6_change_115 ?_
        refine zw_getfR hB dX6_change_116 zf_X6_13 rfl rfl ?_
        refine zw_iload1 hB dX6_change_119 ?_
        refine zw_callV2 (M' := mX6_yearsOn) hB dX6_change_120 zl_X6_124 zg_X6_yearsOn (zRc.of rfl rfl rfl) (s_X6_yearsOn (c := 52) rfl (by omega) g5 hm) (fun v120 σ120 hq120 => ?_)
        obtain ⟨rfl, y1, y2, y3, y4⟩ := hq120
        rw [z5]
        refine zw_istore7 hB dX6_change_123 (by first | rfl | assumption) ?_
        refine zw_iload7 hB dX6_change_125 ?_
        refine zw_iload3 hB dX6_change_127 ?_
        refine zw_icmp_gt (tgt := 134) hB dX6_change_128 (by decide) (fun c128 => ?_) (fun c128 => ?_)
        · refine zw_bipush (x := nI 10) hB dX6_change_134 (by decide) ?_
          refine zw_iload5 hB dX6_change_136 ?_
          refine zw_imulN hB dX6_change_138 ?_
          refine zw_iload6 hB dX6_change_139 ?_
          refine zw_iaddN hB dX6_change_141 ?_
          refine zw_istore4 hB dX6_change_142 (by first | rfl | assumption) ?_
          refine zw_iload7 hB dX6_change_144 ?_
          refine zw_istore3 hB dX6_change_146 (by first | rfl | assumption) ?_
          refine zw_iinc6 hB dX6_change_147 (by first | exact zinc _ | rfl) (by first | rfl | assumption) ?_
          refine zw_goto (tgt := 48) hB dX6_change_150 (by decide) ?_
          exact ih (by omega) _ _ _ _ (o5.tr (zR3.b y4)) (by rw [zgm_t (by rw [← e2]; exact c128)]; rfl)
        · refine zw_goto (tgt := 147) hB dX6_change_131 (by decide) ?_
          refine zw_iinc6 hB dX6_change_147 (by first | exact zinc _ | rfl) (by first | rfl | assumption) ?_
          refine zw_goto (tgt := 48) hB dX6_change_150 (by decide) ?_
          exact ih (by omega) _ _ _ _ (o5.tr (zR3.b y4)) (by rw [zgm_f (by rw [← e2]; exact c128)]; exact e)
    refine zw_iload5 hB dX6_change_31 ?_
    refine zw_aload0 hB dX6_change_33 ?_
    refine zw_getfR hB dX6_change_34 zf_X6_9 rfl rfl ?_
    refine zw_iconst (x := nI 1) hB dX6_change_37 (by decide) ?_
    refine zw_ialdV (x := nI P) hB dX6_change_38 rfl (by omega) (by decide) (k1) ?_
    refine zw_icmp_geN (tgt := 159) hB dX6_change_39 (by decide) (by omega) (by omega) (fun c39 => ?_) (fun c39 => ?_)
    · refine zw_iload4 hB dX6_change_159 ?_
      refine zw_iret hB hR dX6_change_161 rfl ?_
      have ePi : a = P := by omega
      subst ePi
      exact zRQ.ok3 h e0 (by rw [nI_clamp hm, ← hr0, ← e]) ou
    · refine zw_iload5 hB dX6_change_42 ?_
      refine zw_iconst (x := nI 1) hB dX6_change_44 (by decide) ?_
      refine zw_iaddN hB dX6_change_45 ?_
      refine zw_istore6 hB dX6_change_46 (by first | rfl | assumption) ?_
      exact hin c39 0 (by omega) _ _ _ _ ou e
  refine zw_iload1 hB dX6_change_0 ?_
  refine zw_iconst (x := nI 1) hB dX6_change_1 (by decide) ?_
  refine zw_bipush (x := nI 30) hB dX6_change_2 (by decide) ?_
  refine zw_callS3P (M' := mX6_wrongBy) hB dX6_change_4 zl_X6_137 zg_X6_wrongBy (s_X6_wrongBy _ _ _) ?_
  refine zw_istore2 hB dX6_change_7 (by first | rfl | assumption) ?_
  refine zw_iload2 hB dX6_change_8 ?_
  refine zw_if_eq (tgt := 18) hB dX6_change_9 (by decide) (fun c9 => ?_) (fun c9 => ?_)
  · have e0 := c9
    obtain ⟨m, hm1, hm, rfl⟩ := zir_0 (by omega) (by omega) c9
    refine zw_aload0 hB dX6_change_18 ?_
    refine zw_iload1 hB dX6_change_19 ?_
    refine zw_callV1 (M' := mX6_takes) hB dX6_change_20 zl_X6_141 zg_X6_takes (zRc.of rfl rfl rfl) (s_X6_takes hg (by omega)) (fun v20 σ20 hq20 => ?_)
    obtain ⟨rfl, x1, x2, x3, x4⟩ := hq20
    refine zw_istore3 hB dX6_change_23 (by first | rfl | assumption) ?_
    refine zw_bipush (x := -9) hB dX6_change_24 (by decide) ?_
    refine zw_istore4 hB dX6_change_26 (by first | rfl | assumption) ?_
    refine zw_iconst (x := nI 0) hB dX6_change_28 (by decide) ?_
    refine zw_istore5 hB dX6_change_29 (by first | rfl | assumption) ?_
    exact hl m rfl e0 (by omega) 0 (by omega) _ _ _ _ _ _ rfl (zR3.b x4) rfl
  · obtain ⟨k, hk, hc⟩ := (zcd_ir (v := mm) (a := nI 1) (m := nI 30)).resolve_left c9
    refine zw_aload0 hB dX6_change_12 ?_
    refine zw_iload2 hB dX6_change_13 ?_
    refine zw_callV1 (M' := mX6_no) hB dX6_change_14 zl_X6_48 zg_X6_no (zRc.of rfl rfl rfl) (s_X6_no _ hc hk) (fun v14 σ14 hq14 => ?_)
    obtain ⟨rfl, rfl⟩ := hq14
    refine zw_iret hB hR dX6_change_17 rfl ?_
    exact zRQ.no h c9 hk hc

theorem s_X6_farmerThen {n : Nat} {σ : zSt} {S : zS} (hS : zOk S) (h : zRW S σ) (p m w : Int32) : zSem (n + 6) mX6_farmerThen [.ref 50, .int p, .int m, .int w] σ (zRQ (q_farmerThen S p m w) σ) := by
  obtain ⟨⟨⟨F, P, hg0⟩, y0, hy0, ey0⟩, hkp, hlt, hrw⟩ := id hS
  have hnF := hg0.nF
  have hnP := hg0.nP
  have hr0 := h.1
  have hg : zGd (zro σ 51) F P := by rw [hr0]; exact hg0
  have hF6 := hg.F6
  have hP6 := hg.P6
  have hF : σ 51 0 = nI F := (zro_k (by omega)).symm.trans hg.r0
  have hP : σ 51 1 = nI P := (zro_k (by omega)).symm.trans hg.r1
  unfold q_farmerThen
  try rw [hnF]
  try rw [hnP]
  refine zSem.of (by decide +kernel) (Nat.le_of_ble_eq_true rfl) (fun X hB hR => ?_)
  show zW X 0 [some (.ref 50), some (.int p), some (.int m), some (.int w), none, none] [] σ
  refine zw_aload0 hB dX6_farmerThen_0 ?_
  refine zw_iload1 hB dX6_farmerThen_1 ?_
  refine zw_callV1P (M' := mX6_isFarmer) hB dX6_farmerThen_2 zl_X6_113 zg_X6_isFarmer (zRc.of rfl rfl rfl) (s_X6_isFarmer hP hP6 _) ?_
  refine zw_if_eqB (tgt := 18) hB dX6_farmerThen_5 (by decide) (fun c5 => ?_) (fun c5 => ?_)
  · refine zw_iconst (x := -1) hB dX6_farmerThen_18 (by decide) ?_
    refine zw_eqI (y := zfo (znb (zIn p P)) (zir m (nI 0) (nI 60)) (nI 0)) (zfo_1 c5).symm ?_
    refine zw_istore4 hB dX6_farmerThen_19 (by first | rfl | assumption) ?_
    refine zw_iload4 hB dX6_farmerThen_21 ?_
    refine zw_if_ne (tgt := 39) hB dX6_farmerThen_23 (by decide) (fun c23 => ?_) (fun c23 => ?_)
    · refine zw_iload4 hB dX6_farmerThen_39 ?_
      refine zw_if_eq (tgt := 51) hB dX6_farmerThen_41 (by decide) (fun c41 => by first | exact absurd c41 c23 | exact absurd c23 c41 | omega) (fun c41 => ?_)
      obtain ⟨k, hk, hc⟩ := (zcd_fo (zcd_nb (c := zIn p P)) (zcd_ir (v := m) (a := nI 0) (m := nI 60)) zcd_0).resolve_left c23
      refine zw_aload0 hB dX6_farmerThen_44 ?_
      refine zw_iload4 hB dX6_farmerThen_45 ?_
      refine zw_callV1 (M' := mX6_no) hB dX6_farmerThen_47 zl_X6_48 zg_X6_no (zRc.of rfl rfl rfl) (s_X6_no _ hc hk) (fun v47 σ47 hq47 => ?_)
      obtain ⟨rfl, rfl⟩ := hq47
      refine zw_iret hB hR dX6_farmerThen_50 rfl ?_
      rw [zfo_n c23]
      exact zRQ.no h c23 hk hc
    · refine zw_iload3 hB dX6_farmerThen_26 ?_
      refine zw_iconst (x := nI 0) hB dX6_farmerThen_27 (by decide) ?_
      refine zw_iconst (x := nI 1) hB dX6_farmerThen_28 (by decide) ?_
      refine zw_callS3P (M' := mX6_isIn) hB dX6_farmerThen_29 zl_X6_52 zg_X6_isIn (s_X6_isIn _ _ _) ?_
      refine zw_if_neB (tgt := 39) hB dX6_farmerThen_32 (by decide) (fun c32 => ?_) (fun c32 => ?_)
      · refine zw_iload4 hB dX6_farmerThen_39 ?_
        refine zw_if_eq (tgt := 51) hB dX6_farmerThen_41 (by decide) (fun c41 => ?_) (fun c41 => by first | exact absurd c23 c41 | exact absurd c41 c23 | omega)
        obtain ⟨e1, e2, -⟩ := zfo_0 c23
        obtain ⟨q, hq, rfl⟩ := zIn_j (by omega) (znb_0 e1)
        obtain ⟨m, -, hm, rfl⟩ := zir_0 (by omega) (by omega) e2
        obtain ⟨j, hj, rfl⟩ := zIn_j (n := 2) (by omega) ((zis (by omega)).mp c32)
        refine zw_aload0 hB dX6_farmerThen_51 ?_
        refine zw_iload2 hB dX6_farmerThen_52 ?_
        refine zw_callV1 (M' := mX6_takes) hB dX6_farmerThen_53 zl_X6_141 zg_X6_takes (zRc.of rfl rfl rfl) (s_X6_takes hg (by omega)) (fun v53 σ53 hq53 => ?_)
        obtain ⟨rfl, x1, x2, x3, x4⟩ := hq53
        refine zw_istore5 hB dX6_farmerThen_56 (by first | rfl | assumption) ?_
        refine zw_aload0 hB dX6_farmerThen_58 ?_
        refine zw_getfR hB dX6_farmerThen_59 zf_X6_13 rfl rfl ?_
        refine zw_iload1 hB dX6_farmerThen_62 ?_
        refine zw_iconst (x := nI 2) hB dX6_farmerThen_63 (by decide) ?_
        refine zw_iload3 hB dX6_farmerThen_64 ?_
        refine zw_iaddN hB dX6_farmerThen_65 ?_
        refine zw_callS2P (M' := mX6_of) hB dX6_farmerThen_66 zl_X6_56 zg_X6_of (s_X6_of) ?_
        refine zw_ialdN hB dX6_farmerThen_69 rfl (by omega) (by decide) ?_
        refine zw_iret hB hR dX6_farmerThen_70 rfl ?_
        refine zRQ.ok3 h ((zfo_z c23).trans (zou_t (m := 1) (by omega) c32)) ?_ (zR3.b x4)
        rw [nI_clamp (by omega), nI_clamp (by omega), ← hr0, ← x1]
        have j2 : j = 0 ∨ j = 1 := by omega
        rcases j2 with rfl | rfl
        · rw [if_pos rfl]; exact congrArg (fun z => Value.int z) (zro_td (by omega))
        · rw [if_neg (by decide)]; exact congrArg (fun z => Value.int z) (zro_at (by omega))
      · refine zw_bipush (x := -2) hB dX6_farmerThen_35 (by decide) ?_
        refine zw_istore4 hB dX6_farmerThen_37 (by first | rfl | assumption) ?_
        refine zw_iload4 hB dX6_farmerThen_39 ?_
        refine zw_if_eq (tgt := 51) hB dX6_farmerThen_41 (by decide) (fun c41 => by first | exact absurd c41 (by decide) | exact absurd (by decide) c41 | omega) (fun c41 => ?_)
        have hk : 2 < 7 := by omega
        have hc : -(-2 : Int32) = nI 2 := by decide
        refine zw_aload0 hB dX6_farmerThen_44 ?_
        refine zw_iload4 hB dX6_farmerThen_45 ?_
        refine zw_callV1 (M' := mX6_no) hB dX6_farmerThen_47 zl_X6_48 zg_X6_no (zRc.of rfl rfl rfl) (s_X6_no _ hc hk) (fun v47 σ47 hq47 => ?_)
        obtain ⟨rfl, rfl⟩ := hq47
        refine zw_iret hB hR dX6_farmerThen_50 rfl ?_
        rw [show zfo (znb (zIn p P)) (zir m (nI 0) (nI 60)) (zou w (nI 1)) = -2 from (zfo_z c23).trans (zou_f (m := 1) (by omega) c32)]
        exact zRQ.no h (by decide) (by omega) (by decide)
  · refine zw_iload2 hB dX6_farmerThen_8 ?_
    refine zw_iconst (x := nI 0) hB dX6_farmerThen_9 (by decide) ?_
    refine zw_bipush (x := nI 60) hB dX6_farmerThen_10 (by decide) ?_
    refine zw_callS3P (M' := mX6_wrongBy) hB dX6_farmerThen_12 zl_X6_137 zg_X6_wrongBy (s_X6_wrongBy _ _ _) ?_
    refine zw_goto (tgt := 19) hB dX6_farmerThen_15 (by decide) ?_
    refine zw_eqI (y := zfo (znb (zIn p P)) (zir m (nI 0) (nI 60)) (nI 0)) (zfo_2 c5).symm ?_
    refine zw_istore4 hB dX6_farmerThen_19 (by first | rfl | assumption) ?_
    refine zw_iload4 hB dX6_farmerThen_21 ?_
    refine zw_if_ne (tgt := 39) hB dX6_farmerThen_23 (by decide) (fun c23 => ?_) (fun c23 => ?_)
    · refine zw_iload4 hB dX6_farmerThen_39 ?_
      refine zw_if_eq (tgt := 51) hB dX6_farmerThen_41 (by decide) (fun c41 => by first | exact absurd c41 c23 | exact absurd c23 c41 | omega) (fun c41 => ?_)
      obtain ⟨k, hk, hc⟩ := (zcd_fo (zcd_nb (c := zIn p P)) (zcd_ir (v := m) (a := nI 0) (m := nI 60)) zcd_0).resolve_left c23
      refine zw_aload0 hB dX6_farmerThen_44 ?_
      refine zw_iload4 hB dX6_farmerThen_45 ?_
      refine zw_callV1 (M' := mX6_no) hB dX6_farmerThen_47 zl_X6_48 zg_X6_no (zRc.of rfl rfl rfl) (s_X6_no _ hc hk) (fun v47 σ47 hq47 => ?_)
      obtain ⟨rfl, rfl⟩ := hq47
      refine zw_iret hB hR dX6_farmerThen_50 rfl ?_
      rw [zfo_n c23]
      exact zRQ.no h c23 hk hc
    · refine zw_iload3 hB dX6_farmerThen_26 ?_
      refine zw_iconst (x := nI 0) hB dX6_farmerThen_27 (by decide) ?_
      refine zw_iconst (x := nI 1) hB dX6_farmerThen_28 (by decide) ?_
      refine zw_callS3P (M' := mX6_isIn) hB dX6_farmerThen_29 zl_X6_52 zg_X6_isIn (s_X6_isIn _ _ _) ?_
      refine zw_if_neB (tgt := 39) hB dX6_farmerThen_32 (by decide) (fun c32 => ?_) (fun c32 => ?_)
      · refine zw_iload4 hB dX6_farmerThen_39 ?_
        refine zw_if_eq (tgt := 51) hB dX6_farmerThen_41 (by decide) (fun c41 => ?_) (fun c41 => by first | exact absurd c23 c41 | exact absurd c41 c23 | omega)
        obtain ⟨e1, e2, -⟩ := zfo_0 c23
        obtain ⟨q, hq, rfl⟩ := zIn_j (by omega) (znb_0 e1)
        obtain ⟨m, -, hm, rfl⟩ := zir_0 (by omega) (by omega) e2
        obtain ⟨j, hj, rfl⟩ := zIn_j (n := 2) (by omega) ((zis (by omega)).mp c32)
        refine zw_aload0 hB dX6_farmerThen_51 ?_
        refine zw_iload2 hB dX6_farmerThen_52 ?_
        refine zw_callV1 (M' := mX6_takes) hB dX6_farmerThen_53 zl_X6_141 zg_X6_takes (zRc.of rfl rfl rfl) (s_X6_takes hg (by omega)) (fun v53 σ53 hq53 => ?_)
        obtain ⟨rfl, x1, x2, x3, x4⟩ := hq53
        refine zw_istore5 hB dX6_farmerThen_56 (by first | rfl | assumption) ?_
        refine zw_aload0 hB dX6_farmerThen_58 ?_
        refine zw_getfR hB dX6_farmerThen_59 zf_X6_13 rfl rfl ?_
        refine zw_iload1 hB dX6_farmerThen_62 ?_
        refine zw_iconst (x := nI 2) hB dX6_farmerThen_63 (by decide) ?_
        refine zw_iload3 hB dX6_farmerThen_64 ?_
        refine zw_iaddN hB dX6_farmerThen_65 ?_
        refine zw_callS2P (M' := mX6_of) hB dX6_farmerThen_66 zl_X6_56 zg_X6_of (s_X6_of) ?_
        refine zw_ialdN hB dX6_farmerThen_69 rfl (by omega) (by decide) ?_
        refine zw_iret hB hR dX6_farmerThen_70 rfl ?_
        refine zRQ.ok3 h ((zfo_z c23).trans (zou_t (m := 1) (by omega) c32)) ?_ (zR3.b x4)
        rw [nI_clamp (by omega), nI_clamp (by omega), ← hr0, ← x1]
        have j2 : j = 0 ∨ j = 1 := by omega
        rcases j2 with rfl | rfl
        · rw [if_pos rfl]; exact congrArg (fun z => Value.int z) (zro_td (by omega))
        · rw [if_neg (by decide)]; exact congrArg (fun z => Value.int z) (zro_at (by omega))
      · refine zw_bipush (x := -2) hB dX6_farmerThen_35 (by decide) ?_
        refine zw_istore4 hB dX6_farmerThen_37 (by first | rfl | assumption) ?_
        refine zw_iload4 hB dX6_farmerThen_39 ?_
        refine zw_if_eq (tgt := 51) hB dX6_farmerThen_41 (by decide) (fun c41 => by first | exact absurd c41 (by decide) | exact absurd (by decide) c41 | omega) (fun c41 => ?_)
        have hk : 2 < 7 := by omega
        have hc : -(-2 : Int32) = nI 2 := by decide
        refine zw_aload0 hB dX6_farmerThen_44 ?_
        refine zw_iload4 hB dX6_farmerThen_45 ?_
        refine zw_callV1 (M' := mX6_no) hB dX6_farmerThen_47 zl_X6_48 zg_X6_no (zRc.of rfl rfl rfl) (s_X6_no _ hc hk) (fun v47 σ47 hq47 => ?_)
        obtain ⟨rfl, rfl⟩ := hq47
        refine zw_iret hB hR dX6_farmerThen_50 rfl ?_
        rw [show zfo (znb (zIn p P)) (zir m (nI 0) (nI 60)) (zou w (nI 1)) = -2 from (zfo_z c23).trans (zou_f (m := 1) (by omega) c32)]
        exact zRQ.no h (by decide) (by omega) (by decide)
theorem zgw_s {r : zRw} {F P : Nat} (h : zGd r F P) : ∀ i, i ≤ P → ∃ b, b ≤ 18 * i ∧ zAl r i = nI b := fun i hi => zAl_b h hi
theorem zGs_b {r : zRw} {F P : Nat} (h : zGd r F P) : ∀ m, m < 10000 → ∃ b, b ≤ 108 * m ∧ zGs r P m = nI b := by
  intro m
  induction m with
  | zero => intro _; exact ⟨0, by omega, rfl⟩
  | succ m ih =>
    intro hm
    obtain ⟨b, hb, eb⟩ := ih (by omega)
    obtain ⟨d, hd, ed⟩ := zAl_b (zGd_Ys h m) (i := P) (Nat.le_refl _)
    have := h.P6
    exact ⟨b + d, by omega, by show zGs r P m + zAl (zYs r m) P = _; rw [eb, ed, nI_add]⟩
theorem s_X6_bestStep {n : Nat} {σ : zSt} {S : zS} (hS : zOk S) (h : zRW S σ) (m0 w : Int32) : zSem (n + 6) mX6_bestStep [.ref 50, .int m0, .int w] σ (zRQ (q_bestStep S m0 w) σ) := by
  obtain ⟨⟨⟨F, P, hg0⟩, y0, hy0, ey0⟩, hkp, hlt, hrw⟩ := id hS
  have hnF := hg0.nF
  have hnP := hg0.nP
  have hr0 := h.1
  have hg : zGd (zro σ 51) F P := by rw [hr0]; exact hg0
  have hF6 := hg.F6
  have hP6 := hg.P6
  have hF : σ 51 0 = nI F := (zro_k (by omega)).symm.trans hg.r0
  have hP : σ 51 1 = nI P := (zro_k (by omega)).symm.trans hg.r1
  unfold q_bestStep
  try rw [hnF]
  try rw [hnP]
  refine zSem.of (by decide +kernel) (Nat.le_of_ble_eq_true rfl) (fun X hB hR => ?_)
  show zW X 0 [some (.ref 50), some (.int m0), some (.int w), none, none, none, none, none] [] σ
  have hl : ∀ m, m0 = nI m → zfo (zir (nI m) (nI 1) (nI 30)) (zou w (nI 1)) (nI 0) = 0 → m < 100 → ∀ i, i ≤ 6 → ∀ (υ : zSt) (a3 a7 : Option Value) (u v : Int32), zc1 a3 = true → zR3 σ υ → (u, v) = zgm nI (zgS (zro σ 51) P m) (nI 0, -1) i → (v = -1 ∧ i = 0 ∨ ∃ s, u = nI s ∧ s ≤ 5 ∧ v = zgS (zro σ 51) P m s) → zW X 43 [some (.ref 50), some (.int (nI m)), some (.int w), a3, some (.int u), some (.int v), some (.int (nI i)), a7] [] υ := by
    rintro m rfl e0 hm
    refine zfor 6 (fun i hi ih => ?_)
    intro υ a3 a7 u v k3 ou e hv
    have e2 : v = (zgm nI (zgS (zro σ 51) P m) (nI 0, -1) i).2 := by rw [← e]
    refine zw_iload6 hB dX6_bestStep_43 ?_
    refine zw_bipush (x := nI 6) hB dX6_bestStep_45 (by decide) ?_
    refine zw_icmp_geN (tgt := 104) hB dX6_bestStep_47 (by decide) (by omega) (by omega) (fun c47 => ?_) (fun c47 => ?_)
    · refine zw_iload2 hB dX6_bestStep_104 ?_
      refine zw_if_ne (tgt := 113) hB dX6_bestStep_105 (by decide) (fun c105 => ?_) (fun c105 => ?_)
      · refine zw_iload5 hB dX6_bestStep_113 ?_
        refine zw_iret hB hR dX6_bestStep_115 rfl ?_
        have ePi : i = 6 := by omega
        subst ePi
        obtain ⟨s, es, hs, ev⟩ := hv.resolve_left (fun z => absurd z.2 (by omega))
        refine zRQ.ok3 h e0 ?_ ou
        rw [if_neg (show ¬ w = nI 0 from c105), nI_clamp (by omega), ← hr0, ← e]
        show Value.int v = Value.int (zgS (zro σ 51) P m u.toNatClampNeg)
        rw [es, nI_clamp (by omega), ev]
      · refine zw_iload4 hB dX6_bestStep_108 ?_
        refine zw_goto (tgt := 115) hB dX6_bestStep_110 (by decide) ?_
        refine zw_iret hB hR dX6_bestStep_115 rfl ?_
        have ePi : i = 6 := by omega
        subst ePi
        refine zRQ.ok3 h e0 ?_ ou
        rw [if_pos (show w = nI 0 from c105), nI_clamp (by omega), ← hr0, ← e]
    · refine zw_aload0 hB dX6_bestStep_50 ?_
      refine zw_getfR hB dX6_bestStep_51 zf_X6_9 rfl rfl ?_
      refine zw_aload0 hB dX6_bestStep_54 ?_
      refine zw_getfR hB dX6_bestStep_55 zf_X6_13 rfl rfl ?_
      refine zw_callS2 (M' := mX6_copies) hB dX6_bestStep_58 zl_X6_130 zg_X6_copies (s_X6_copies (c := 51) (d := 52) rfl rfl (by decide)) (fun v58 σ58 hq58 => ?_)
      obtain ⟨rfl, x1, x2⟩ := hq58
      refine zw_aload0 hB dX6_bestStep_61 ?_
      refine zw_getfR hB dX6_bestStep_62 zf_X6_13 rfl rfl ?_
      refine zw_iconst (x := nI 2) hB dX6_bestStep_65 (by decide) ?_
      refine zw_iload6 hB dX6_bestStep_66 ?_
      refine zw_iastN hB dX6_bestStep_68 rfl (by omega) (by decide) ?_
      have z5 : zro (zC σ58 52 (upd (σ58 52) 2 (nI i))) 52 = upd (zro σ 51) 2 (nI i) := by rw [zro_set (by omega), x1, ou.ro]
      have g5 : zGd (zro (zC σ58 52 (upd (σ58 52) 2 (nI i))) 52) F P := by rw [z5]; exact zGd_step hg (by omega)
      have o5 := ou.tr ((zR3.a x2).tr (zR3.c (f := upd (σ58 52) 2 (nI i))))
      refine zw_aload0 hB dX6_bestStep_69 ?_
      refine zw_aload0 hB dX6_bestStep_70 ?_
      refine zw_getfR hB dX6_bestStep_71 zf_X6_13 rfl rfl ?_
      refine zw_iload1 hB dX6_bestStep_74 ?_
      refine zw_callV2 (M' := mX6_yearsOn) hB dX6_bestStep_75 zl_X6_124 zg_X6_yearsOn (zRc.of rfl rfl rfl) (s_X6_yearsOn (c := 52) rfl (by omega) g5 (by omega)) (fun v75 σ75 hq75 => ?_)
      obtain ⟨rfl, y1, y2, y3, y4⟩ := hq75
      rw [z5]
      refine zw_istore7 hB dX6_bestStep_78 (by first | rfl | assumption) ?_
      refine zw_iload7 hB dX6_bestStep_80 ?_
      refine zw_iload5 hB dX6_bestStep_82 ?_
      refine zw_icmp_gt (tgt := 90) hB dX6_bestStep_84 (by decide) (fun c84 => ?_) (fun c84 => ?_)
      · refine zw_iload6 hB dX6_bestStep_90 ?_
        refine zw_istore4 hB dX6_bestStep_92 (by first | rfl | assumption) ?_
        refine zw_iload7 hB dX6_bestStep_94 ?_
        refine zw_istore5 hB dX6_bestStep_96 (by first | rfl | assumption) ?_
        refine zw_iinc6 hB dX6_bestStep_98 (by first | exact zinc _ | rfl) (by first | rfl | assumption) ?_
        refine zw_goto (tgt := 43) hB dX6_bestStep_101 (by decide) ?_
        exact ih c47 _ _ _ _ _ k3 (o5.tr (zR3.b y4)) (by rw [zgm_t (by rw [← e2]; exact c84)]; rfl) (Or.inr ⟨i, rfl, by omega, rfl⟩)
      · refine zw_goto (tgt := 98) hB dX6_bestStep_87 (by decide) ?_
        refine zw_iinc6 hB dX6_bestStep_98 (by first | exact zinc _ | rfl) (by first | rfl | assumption) ?_
        refine zw_goto (tgt := 43) hB dX6_bestStep_101 (by decide) ?_
        rcases hv with ⟨z1, z2⟩ | hv
        · exfalso
          subst z1
          obtain ⟨b, hb, eb⟩ := zGs_b (r := upd (zro σ 51) 2 (nI i)) (by rw [← z5]; exact g5) m (by omega)
          rw [eb] at c84
          exact c84 (Int32.lt_of_lt_of_le (show (-1 : Int32) < 0 by decide) (Int32.not_lt.mp (nI_pos (by omega))))
        · exact ih c47 _ _ _ _ _ k3 (o5.tr (zR3.b y4)) (by rw [zgm_f (by rw [← e2]; exact c84)]; exact e) (Or.inr hv)
  refine zw_iload1 hB dX6_bestStep_0 ?_
  refine zw_iconst (x := nI 1) hB dX6_bestStep_1 (by decide) ?_
  refine zw_bipush (x := nI 30) hB dX6_bestStep_2 (by decide) ?_
  refine zw_callS3P (M' := mX6_wrongBy) hB dX6_bestStep_4 zl_X6_137 zg_X6_wrongBy (s_X6_wrongBy _ _ _) ?_
  refine zw_istore3 hB dX6_bestStep_7 (by first | rfl | assumption) ?_
  refine zw_iload3 hB dX6_bestStep_8 ?_
  refine zw_if_ne (tgt := 24) hB dX6_bestStep_9 (by decide) (fun c9 => ?_) (fun c9 => ?_)
  · refine zw_iload3 hB dX6_bestStep_24 ?_
    refine zw_if_eq (tgt := 34) hB dX6_bestStep_25 (by decide) (fun c25 => by first | exact absurd c25 c9 | exact absurd c9 c25 | omega) (fun c25 => ?_)
    obtain ⟨k, hk, hc⟩ := (zcd_ir (v := m0) (a := nI 1) (m := nI 30)).resolve_left c9
    refine zw_aload0 hB dX6_bestStep_28 ?_
    refine zw_iload3 hB dX6_bestStep_29 ?_
    refine zw_callV1 (M' := mX6_no) hB dX6_bestStep_30 zl_X6_48 zg_X6_no (zRc.of rfl rfl rfl) (s_X6_no _ hc hk) (fun v30 σ30 hq30 => ?_)
    obtain ⟨rfl, rfl⟩ := hq30
    refine zw_iret hB hR dX6_bestStep_33 rfl ?_
    rw [zfo_r5 c9]
    exact zRQ.no h c9 hk hc
  · refine zw_iload2 hB dX6_bestStep_12 ?_
    refine zw_iconst (x := nI 0) hB dX6_bestStep_13 (by decide) ?_
    refine zw_iconst (x := nI 1) hB dX6_bestStep_14 (by decide) ?_
    refine zw_callS3P (M' := mX6_isIn) hB dX6_bestStep_15 zl_X6_52 zg_X6_isIn (s_X6_isIn _ _ _) ?_
    refine zw_if_neB (tgt := 24) hB dX6_bestStep_18 (by decide) (fun c18 => ?_) (fun c18 => ?_)
    · refine zw_iload3 hB dX6_bestStep_24 ?_
      refine zw_if_eq (tgt := 34) hB dX6_bestStep_25 (by decide) (fun c25 => ?_) (fun c25 => by first | exact absurd c9 c25 | exact absurd c25 c9 | omega)
      have e0 : zfo (zir m0 (nI 1) (nI 30)) (zou w (nI 1)) (nI 0) = 0 := (zfo_x c9 (zou_t (m := 1) (by omega) c18)).trans nI_0
      obtain ⟨m, hm1, hm, rfl⟩ := zir_0 (by omega) (by omega) c9
      refine zw_iconst (x := nI 0) hB dX6_bestStep_34 (by decide) ?_
      refine zw_istore4 hB dX6_bestStep_35 (by first | rfl | assumption) ?_
      refine zw_iconst (x := -1) hB dX6_bestStep_37 (by decide) ?_
      refine zw_istore5 hB dX6_bestStep_38 (by first | rfl | assumption) ?_
      refine zw_iconst (x := nI 0) hB dX6_bestStep_40 (by decide) ?_
      refine zw_istore6 hB dX6_bestStep_41 (by first | rfl | assumption) ?_
      exact hl m rfl e0 (by omega) 0 (by omega) _ _ _ _ _ rfl zR3.rf rfl (Or.inl ⟨rfl, rfl⟩)
    · refine zw_bipush (x := -2) hB dX6_bestStep_21 (by decide) ?_
      refine zw_istore3 hB dX6_bestStep_23 (by first | rfl | assumption) ?_
      refine zw_iload3 hB dX6_bestStep_24 ?_
      refine zw_if_eq (tgt := 34) hB dX6_bestStep_25 (by decide) (fun c25 => by first | exact absurd c25 (by decide) | exact absurd (by decide) c25 | omega) (fun c25 => ?_)
      have hk : 2 < 7 := by omega
      have hc : -(-2 : Int32) = nI 2 := by decide
      refine zw_aload0 hB dX6_bestStep_28 ?_
      refine zw_iload3 hB dX6_bestStep_29 ?_
      refine zw_callV1 (M' := mX6_no) hB dX6_bestStep_30 zl_X6_48 zg_X6_no (zRc.of rfl rfl rfl) (s_X6_no _ hc hk) (fun v30 σ30 hq30 => ?_)
      obtain ⟨rfl, rfl⟩ := hq30
      refine zw_iret hB hR dX6_bestStep_33 rfl ?_
      rw [show zfo (zir m0 (nI 1) (nI 30)) (zou w (nI 1)) (nI 0) = -2 from (zfo_y c9 (by rw [zou_f (m := 1) (by omega) c18]; decide)).trans (zou_f (m := 1) (by omega) c18)]
      exact zRQ.no h (by decide) (by omega) (by decide)
