/-! MIND: pairs, years of rest -/
theorem zgm_lab {lab g : Nat → Int32} {s : Int32 × Int32} {a b : Nat} : zgm lab g s (a + b) = zgm (fun j => lab (a + j)) (fun j => g (a + j)) (zgm lab g s a) b := by
  induction b with
  | zero => rfl
  | succ b ih =>
    show (if (zgm lab g s (a + b)).2 < g (a + b) then (lab (a + b), g (a + b)) else zgm lab g s (a + b)) = _
    rw [ih]; rfl

theorem s_X3_pairToChange {n : Nat} {σ : zSt} {F P : Nat} (hg : zGd (zrow σ 1) F P) {m : Nat} (hm : m < 2 ^ 31) : zSem (n + 6) mX3_pairToChange [.ref 27, .ref 1, .int (nI m)] σ (fun v τ => v = some (.int (zgP (zrow σ 1) P m (-9, zGs (zrow σ 1) P m) P).1) ∧ zOut 28 σ τ) := by
  have hF6 := hg.F6
  have hP6 := hg.P6
  have hP : σ 1 1 = nI P := hg.r1
  refine zSem.of (by decide +kernel) (Nat.le_of_ble_eq_true rfl) (fun X hB hR => ?_)
  show zW X 0 [some (.ref 27), some (.ref 1), some (.int (nI m)), none, none, none, none, none] [] σ
  have hl : ∀ a, a ≤ P → ∀ (υ : zSt) (a6 a7 : Option Value) (u v : Int32), zOut 28 σ υ → (u, v) = zgP (zrow σ 1) P m (-9, zGs (zrow σ 1) P m) a → zW X 14 [some (.ref 27), some (.ref 1), some (.int (nI m)), some (.int v), some (.int u), some (.int (nI a)), a6, a7] [] υ := by
    refine zfor P (fun a ha iha => ?_)
    intro υ a6 a7 u v ou e
    have k1 : υ 1 1 = nI P := (congrFun (ou 1 (by omega)) 1).trans hP
    have hin : a < P → ∀ j, j ≤ P - (a + 1) → ∀ (υ : zSt) (a7 : Option Value) (u v : Int32), zOut 28 σ υ → (u, v) = zgm (fun j => nI (10 * a + (a + 1 + j))) (fun j => zgX (zrow σ 1) P m a (a + 1 + j)) (zgP (zrow σ 1) P m (-9, zGs (zrow σ 1) P m) a) j → zW X 29 [some (.ref 27), some (.ref 1), some (.int (nI m)), some (.int v), some (.int u), some (.int (nI a)), some (.int (nI (a + 1 + j))), a7] [] υ := by
      intro haP
      refine zfor (P - (a + 1)) (fun j hj ih => ?_)
      intro υ a7 u v ou e
      have r1 : zrow υ 1 = zrow σ 1 := zrow_congr (fun c _ _ => ou c (by omega))
      have k1 : υ 1 1 = nI P := (congrFun (ou 1 (by omega)) 1).trans hP
      have e2 : v = (zgm (fun j => nI (10 * a + (a + 1 + j))) (fun j => zgX (zrow σ 1) P m a (a + 1 + j)) (zgP (zrow σ 1) P m (-9, zGs (zrow σ 1) P m) a) j).2 := by rw [← e]
      refine zw_iload6 hB dX3_pairToChange_29 ?_
      refine zw_aload1 hB dX3_pairToChange_31 ?_
      refine zw_getfV (x := nI P) hB dX3_pairToChange_32 zf_X3_75 zld1.1 rfl (k1) ?_
      refine zw_icmp_geN (tgt := 92) hB dX3_pairToChange_35 (by decide) (by omega) (by omega) (fun c35 => ?_) (fun c35 => ?_)
      · refine zw_iinc5 hB dX3_pairToChange_92 (by first | exact zinc _ | rfl) rfl ?_
        refine zw_goto (tgt := 14) hB dX3_pairToChange_95 (by decide) ?_
        exact iha (by omega) _ _ _ _ _ ou (by rw [e, show j = P - (a + 1) by omega]; rfl)
      · refine zw_aload0 hB dX3_pairToChange_38 ?_
        refine zw_getfR hB dX3_pairToChange_39 zf_X3_12 rfl rfl ?_
        refine zw_aload1 hB dX3_pairToChange_42 ?_
        refine zw_callV1 (M' := mX1_become) hB dX3_pairToChange_43 zl_X3_35 zg_X1_become (zRc.of zld28.1 rfl rfl) (s_X1_become zld28 zld1 (by omega)) (fun v43 σ43 hq43 => ?_)
        obtain ⟨rfl, x1, x2⟩ := hq43
        refine zw_aload0 hB dX3_pairToChange_46 ?_
        refine zw_getfR hB dX3_pairToChange_47 zf_X3_12 rfl rfl ?_
        refine zw_iload5 hB dX3_pairToChange_50 ?_
        refine zw_iload6 hB dX3_pairToChange_52 ?_
        refine zw_callV2 (M' := mX1_exchange) hB dX3_pairToChange_54 zl_X3_81 zg_X1_exchange (zRc.of zld28.1 rfl rfl) (s_X1_exchange zld28 (by omega) (by omega) (by omega)) (fun v54 σ54 hq54 => ?_)
        obtain ⟨rfl, y1, y2⟩ := hq54
        have z5 : zrow σ54 28 = zEx (zrow σ 1) a (a + 1 + j) := by rw [y1, x1, r1]
        have g5 : zGd (zrow σ54 28) F P := by rw [z5]; exact zGd_Ex hg (by omega) (by omega) (by omega)
        have o5 : zOut 28 σ43 σ54 := fun d hd => y2 d (by omega)
        refine zw_aload0 hB dX3_pairToChange_57 ?_
        refine zw_getfR hB dX3_pairToChange_58 zf_X3_12 rfl rfl ?_
        refine zw_iload2 hB dX3_pairToChange_61 ?_
        refine zw_callV1 (M' := mX1_grownIn) hB dX3_pairToChange_62 zl_X3_39 zg_X1_grownIn (zRc.of zld28.1 rfl rfl) (s_X1_grownIn zld28 g5 hm) (fun v62 σ62 hq62 => ?_)
        obtain ⟨rfl, w1, w2⟩ := hq62
        rw [z5]
        refine zw_istore7 hB dX3_pairToChange_65 rfl ?_
        refine zw_iload7 hB dX3_pairToChange_67 ?_
        refine zw_iload3 hB dX3_pairToChange_69 ?_
        refine zw_icmp_le (tgt := 86) hB dX3_pairToChange_70 (by decide) (fun c70 => ?_) (fun c70 => ?_)
        · refine zw_iinc6 hB dX3_pairToChange_86 (by first | exact zinc _ | rfl) rfl ?_
          refine zw_goto (tgt := 29) hB dX3_pairToChange_89 (by decide) ?_
          exact ih (by omega) _ _ _ _ (ou.tr (x2.tr (o5.tr w2))) (by rw [zgm_f (by rw [← e2]; exact Int32.not_lt.mpr c70)]; exact e)
        · refine zw_iload7 hB dX3_pairToChange_73 ?_
          refine zw_istore3 hB dX3_pairToChange_75 rfl ?_
          refine zw_bipush (x := nI 10) hB dX3_pairToChange_76 (by decide) ?_
          refine zw_iload5 hB dX3_pairToChange_78 ?_
          refine zw_imulN hB dX3_pairToChange_80 ?_
          refine zw_iload6 hB dX3_pairToChange_81 ?_
          refine zw_iaddN hB dX3_pairToChange_83 ?_
          refine zw_istore4 hB dX3_pairToChange_84 rfl ?_
          refine zw_iinc6 hB dX3_pairToChange_86 (by first | exact zinc _ | rfl) rfl ?_
          refine zw_goto (tgt := 29) hB dX3_pairToChange_89 (by decide) ?_
          exact ih (by omega) _ _ _ _ (ou.tr (x2.tr (o5.tr w2))) (by rw [zgm_t (by rw [← e2]; exact Int32.not_le.mp c70)]; rfl)
    refine zw_iload5 hB dX3_pairToChange_14 ?_
    refine zw_aload1 hB dX3_pairToChange_16 ?_
    refine zw_getfV (x := nI P) hB dX3_pairToChange_17 zf_X3_75 zld1.1 rfl (k1) ?_
    refine zw_icmp_geN (tgt := 98) hB dX3_pairToChange_20 (by decide) (by omega) (by omega) (fun c20 => ?_) (fun c20 => ?_)
    · refine zw_iload4 hB dX3_pairToChange_98 ?_
      refine zw_iret hB hR dX3_pairToChange_100 rfl ?_
      have ePi : a = P := by omega
      subst ePi
      exact ⟨by rw [← e], ou⟩
    · refine zw_iload5 hB dX3_pairToChange_23 ?_
      refine zw_iconst (x := nI 1) hB dX3_pairToChange_25 (by decide) ?_
      refine zw_iaddN hB dX3_pairToChange_26 ?_
      refine zw_istore6 hB dX3_pairToChange_27 rfl ?_
      exact hin c20 0 (by omega) _ _ _ _ ou e
  refine zw_aload0 hB dX3_pairToChange_0 ?_
  refine zw_aload1 hB dX3_pairToChange_1 ?_
  refine zw_iload2 hB dX3_pairToChange_2 ?_
  refine zw_callV2 (M' := mX3_grownOfAll) hB dX3_pairToChange_3 zl_X3_71 zg_X3_grownOfAll (zRc.of rfl rfl rfl) (s_X3_grownOfAll hg hm) (fun v3 σ3 hq3 => ?_)
  obtain ⟨rfl, y2⟩ := hq3
  refine zw_istore3 hB dX3_pairToChange_6 rfl ?_
  refine zw_bipush (x := -9) hB dX3_pairToChange_7 (by decide) ?_
  refine zw_istore4 hB dX3_pairToChange_9 rfl ?_
  refine zw_iconst (x := nI 0) hB dX3_pairToChange_11 (by decide) ?_
  refine zw_istore5 hB dX3_pairToChange_12 rfl ?_
  exact hl 0 (by omega) _ _ _ _ _ y2 rfl
theorem s_X3_grownOn {n : Nat} {σ : zSt} {F P : Nat} (hg : zGd (zrow σ 1) F P) {f m : Nat} (hf : f < F) (hm : m < 2 ^ 31) : zSem (n + 4) mX3_grownOn [.ref 27, .ref 1, .int (nI f), .int (nI m)] σ (fun v τ => v = some (.int (zGf (zrow σ 1) P f m)) ∧ zOut 28 σ τ) := by
  have hF6 := hg.F6
  have hP6 := hg.P6
  have hP : σ 1 1 = nI P := hg.r1
  refine zSem.of (by decide +kernel) (Nat.le_of_ble_eq_true rfl) (fun X hB hR => ?_)
  show zW X 0 [some (.ref 27), some (.ref 1), some (.int (nI f)), some (.int (nI m)), none, none] [] σ
  have hl : ∀ i, i ≤ m → ∀ υ : zSt, zOut 28 σ υ → zrow υ 28 = zYs (zrow σ 1) i → zW X 14 [some (.ref 27), some (.ref 1), some (.int (nI f)), some (.int (nI m)), some (.int (zGf (zrow σ 1) P f i)), some (.int (nI i))] [] υ := by
    refine zfor m (fun i hi ih => ?_)
    intro υ ou zu
    have gu : zGd (zrow υ 28) F P := by rw [zu]; exact zGd_Ys hg i
    refine zw_iload5 hB dX3_grownOn_14 ?_
    refine zw_iload3 hB dX3_grownOn_16 ?_
    refine zw_icmp_geN (tgt := 47) hB dX3_grownOn_17 (by decide) (by omega) (by omega) (fun c17 => ?_) (fun c17 => ?_)
    · refine zw_iload4 hB dX3_grownOn_47 ?_
      refine zw_iret hB hR dX3_grownOn_49 rfl ?_
      exact ⟨by rw [show m = i by omega], ou⟩
    · refine zw_aload0 hB dX3_grownOn_20 ?_
      refine zw_getfR hB dX3_grownOn_21 zf_X3_12 rfl rfl ?_
      refine zw_callV0 (M' := mX1_passYear) hB dX3_grownOn_24 zl_X3_49 zg_X1_passYear (zRc.of zld28.1 rfl rfl) (s_X1_passYear zld28 gu) (fun v24 σ24 hq24 => ?_)
      obtain ⟨rfl, y1, y2, y3, y4, y5⟩ := hq24
      refine zw_iload4 hB dX3_grownOn_27 ?_
      refine zw_aload0 hB dX3_grownOn_29 ?_
      refine zw_getfR hB dX3_grownOn_30 zf_X3_12 rfl rfl ?_
      refine zw_getfR hB dX3_grownOn_33 zf_X3_60 zld28.1 rfl ?_
      refine zw_iload2 hB dX3_grownOn_36 ?_
      refine zw_ialdV (x := zgF (zYs (zrow σ 1) i) f P) hB dX3_grownOn_37 zld28.2.2.1 (by omega) (by decide) (by rw [← zu]; exact y3 f hf) ?_
      refine zw_iadd hB dX3_grownOn_38 ?_
      refine zw_istore4 hB dX3_grownOn_39 rfl ?_
      refine zw_iinc5 hB dX3_grownOn_41 (by first | exact zinc _ | rfl) rfl ?_
      refine zw_goto (tgt := 14) hB dX3_grownOn_44 (by decide) ?_
      exact ih c17 σ24 (ou.tr y5) (by rw [y1, zu]; rfl)
  refine zw_aload0 hB dX3_grownOn_0 ?_
  refine zw_getfR hB dX3_grownOn_1 zf_X3_12 rfl rfl ?_
  refine zw_aload1 hB dX3_grownOn_4 ?_
  refine zw_callV1 (M' := mX1_become) hB dX3_grownOn_5 zl_X3_35 zg_X1_become (zRc.of zld28.1 rfl rfl) (s_X1_become zld28 zld1 (by omega)) (fun v5 σ5 hq5 => ?_)
  obtain ⟨rfl, x1, x2⟩ := hq5
  refine zw_iconst (x := nI 0) hB dX3_grownOn_8 (by decide) ?_
  refine zw_istore4 hB dX3_grownOn_9 rfl ?_
  refine zw_iconst (x := nI 0) hB dX3_grownOn_11 (by decide) ?_
  refine zw_istore5 hB dX3_grownOn_12 rfl ?_
  exact hl 0 (by omega) σ5 x2 x1
