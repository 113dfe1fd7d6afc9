/-! MIND: the settled year, the round year -/
def zFeb (r s : zRw) (F P : Nat) : Bool := @decide (zFe r s F P) (inferInstanceAs (Decidable ((∀ i, i < 3 * F → r (5 + i) = s (5 + i)) ∧ ∀ p, p < P → ztd r p = ztd s p)))
theorem zFeb_t {r s : zRw} {F P : Nat} (h : zFe r s F P) : zFeb r s F P = true := @decide_eq_true _ (_) h
theorem zFeb_f {r s : zRw} {F P : Nat} (h : ¬ zFe r s F P) : ¬ zFeb r s F P = true := fun z => h (@of_decide_eq_true _ (_) z)
def zSeb (r s : zRw) (P : Nat) : Bool := @decide (zSe r s P) (inferInstanceAs (Decidable (∀ p, p < P → zat r p = zat s p)))
theorem zSeb_t {r s : zRw} {P : Nat} (h : zSe r s P) : zSeb r s P = true := @decide_eq_true _ (_) h
theorem zSeb_f {r s : zRw} {P : Nat} (h : ¬ zSe r s P) : ¬ zSeb r s P = true := fun z => h (@of_decide_eq_true _ (_) z)
def zSy (r : zRw) (F P : Nat) : Option Nat := zfst (fun n => zFeb (zYs r (n + 1)) (zYs r n) F P) 0 61
def zRy (r : zRw) (P : Nat) : Option Nat := zfst (fun n => zSeb (zYs r n) r P) 1 60
def zO2 (σ τ : zSt) : Prop := ∀ d, d < 28 ∨ 44 ≤ d → τ d = σ d
theorem zO2.rf {σ : zSt} : zO2 σ σ := fun _ _ => rfl
theorem zO2.tr {σ τ υ : zSt} (h : zO2 σ τ) (g : zO2 τ υ) : zO2 σ υ := fun d hd => (g d hd).trans (h d hd)
theorem zO2.a {σ τ : zSt} (h : zOut 28 σ τ) : zO2 σ τ := fun d hd => h d (by omega)
theorem zO2.b {σ τ : zSt} (h : zOut 36 σ τ) : zO2 σ τ := fun d hd => h d (by omega)

theorem s_X3_settledYear {n : Nat} {σ : zSt} {F P : Nat} (hg : zGd (zrow σ 1) F P) : zSem (n + 4) mX3_settledYear [.ref 27, .ref 1] σ (fun v τ => v = some (.int (zopt (zSy (zrow σ 1) F P))) ∧ zO2 σ τ) := by
  have hF6 := hg.F6
  have hP6 := hg.P6
  have hP : σ 1 1 = nI P := hg.r1
  refine zSem.of (by decide +kernel) (Nat.le_of_ble_eq_true rfl) (fun X hB hR => ?_)
  show zW X 0 [some (.ref 27), some (.ref 1), none] [] σ
  have hl : ∀ i, i ≤ 61 → ∀ υ : zSt, zO2 σ υ → zrow υ 28 = zYs (zrow σ 1) i → zSy (zrow σ 1) F P = zfst (fun n => zFeb (zYs (zrow σ 1) (n + 1)) (zYs (zrow σ 1) n) F P) i (61 - i) → zW X 10 [some (.ref 27), some (.ref 1), some (.int (nI i))] [] υ := by
    refine zfor 61 (fun i hi ih => ?_)
    intro υ ou zu hq
    have gu : zGd (zrow υ 28) F P := by rw [zu]; exact zGd_Ys hg i
    refine zw_iload2 hB dX3_settledYear_10 ?_
    refine zw_bipush (x := nI 60) hB dX3_settledYear_11 (by decide) ?_
    refine zw_icmp_gtN (tgt := 56) hB dX3_settledYear_13 (by decide) (by omega) (by omega) (fun c13 => ?_) (fun c13 => ?_)
    · refine zw_bipush (x := -9) hB dX3_settledYear_56 (by decide) ?_
      refine zw_iret hB hR dX3_settledYear_58 rfl ?_
      have e9 : zSy (zrow σ 1) F P = none := by rw [hq]; exact zfst_e (N := 61) (by omega)
      exact ⟨by rw [e9]; rfl, ou⟩
    · refine zw_aload0 hB dX3_settledYear_16 ?_
      refine zw_getfR hB dX3_settledYear_17 zf_X3_18 rfl rfl ?_
      refine zw_aload0 hB dX3_settledYear_20 ?_
      refine zw_getfR hB dX3_settledYear_21 zf_X3_12 rfl rfl ?_
      refine zw_callV1 (M' := mX1_become) hB dX3_settledYear_24 zl_X3_35 zg_X1_become (zRc.of zld36.1 rfl rfl) (s_X1_become zld36 zld28 (by omega)) (fun v24 σ24 hq24 => ?_)
      obtain ⟨rfl, x1, x2⟩ := hq24
      have z24 : zrow σ24 28 = zrow υ 28 := zrow_congr (fun c _ _ => x2 c (by omega))
      have g24 : zGd (zrow σ24 28) F P := by rw [z24]; exact gu
      refine zw_aload0 hB dX3_settledYear_27 ?_
      refine zw_getfR hB dX3_settledYear_28 zf_X3_12 rfl rfl ?_
      refine zw_callV0 (M' := mX1_passYear) hB dX3_settledYear_31 zl_X3_49 zg_X1_passYear (zRc.of zld28.1 rfl rfl) (s_X1_passYear zld28 g24) (fun v31 σ31 hq31 => ?_)
      obtain ⟨rfl, y1, y2, y3, y4, y5⟩ := hq31
      have z31 : zrow σ31 28 = zYs (zrow σ 1) (i + 1) := by rw [y1, z24, zu]; rfl
      have b31 : zrow σ31 36 = zYs (zrow σ 1) i := by rw [show zrow σ31 36 = zrow σ24 36 from zrow_congr (fun c _ _ => y5 c (by omega)), x1, zu]
      have g31 : zGd (zrow σ31 28) F P := by rw [z31]; exact zGd_Ys hg _
      refine zw_aload0 hB dX3_settledYear_34 ?_
      refine zw_getfR hB dX3_settledYear_35 zf_X3_12 rfl rfl ?_
      refine zw_aload0 hB dX3_settledYear_38 ?_
      refine zw_getfR hB dX3_settledYear_39 zf_X3_18 rfl rfl ?_
      refine zw_callV1 (M' := mX1_isAsFreshAs) hB dX3_settledYear_42 zl_X3_85 zg_X1_isAsFreshAs (zRc.of zld28.1 rfl rfl) (s_X1_isAsFreshAs zld28 g31 zld36) (fun v42 σ42 hq42 => ?_)
      obtain ⟨x, hx, rfl, rfl⟩ := hq42
      rw [z31, b31] at hx
      refine zw_if_eq (tgt := 50) hB dX3_settledYear_45 (by decide) (fun c45 => ?_) (fun c45 => ?_)
      · refine zw_iinc2 hB dX3_settledYear_50 (by first | exact zinc _ | rfl) rfl ?_
        refine zw_goto (tgt := 10) hB dX3_settledYear_53 (by decide) ?_
        refine ih (by omega) _ (ou.tr ((zO2.b x2).tr (zO2.a y5))) z31 ?_
        rw [hq, zfst_s (N := 61) (by omega), if_neg]
        rcases hx with ⟨e, _⟩ | ⟨_, e⟩
        · exact absurd (e.symm.trans c45) (by decide)
        · exact zFeb_f e
      · refine zw_iload2 hB dX3_settledYear_48 ?_
        refine zw_iret hB hR dX3_settledYear_49 rfl ?_
        have e9 : zSy (zrow σ 1) F P = some i := by
          rw [hq, zfst_s (N := 61) (by omega), if_pos]
          rcases hx with ⟨_, e⟩ | ⟨e, _⟩
          · exact zFeb_t e
          · exact absurd e c45
        exact ⟨by rw [e9]; rfl, ou.tr ((zO2.b x2).tr (zO2.a y5))⟩
  refine zw_aload0 hB dX3_settledYear_0 ?_
  refine zw_getfR hB dX3_settledYear_1 zf_X3_12 rfl rfl ?_
  refine zw_aload1 hB dX3_settledYear_4 ?_
  refine zw_callV1 (M' := mX1_become) hB dX3_settledYear_5 zl_X3_35 zg_X1_become (zRc.of zld28.1 rfl rfl) (s_X1_become zld28 zld1 (by omega)) (fun v5 σ5 hq5 => ?_)
  obtain ⟨rfl, x1, x2⟩ := hq5
  refine zw_iconst (x := nI 0) hB dX3_settledYear_8 (by decide) ?_
  refine zw_istore2 hB dX3_settledYear_9 rfl ?_
  exact hl 0 (by omega) σ5 (zO2.a x2) x1 rfl
theorem s_X3_roundYear {n : Nat} {σ : zSt} {F P : Nat} (hg : zGd (zrow σ 1) F P) : zSem (n + 4) mX3_roundYear [.ref 27, .ref 1] σ (fun v τ => v = some (.int (zopt (zRy (zrow σ 1) P))) ∧ zOut 28 σ τ) := by
  have hF6 := hg.F6
  have hP6 := hg.P6
  have hP : σ 1 1 = nI P := hg.r1
  refine zSem.of (by decide +kernel) (Nat.le_of_ble_eq_true rfl) (fun X hB hR => ?_)
  show zW X 0 [some (.ref 27), some (.ref 1), none] [] σ
  have hl : ∀ i, i ≤ 60 → ∀ υ : zSt, zOut 28 σ υ → zrow υ 28 = zYs (zrow σ 1) i → zRy (zrow σ 1) P = zfst (fun n => zSeb (zYs (zrow σ 1) n) (zrow σ 1) P) (i + 1) (61 - (i + 1)) → zW X 10 [some (.ref 27), some (.ref 1), some (.int (nI (i + 1)))] [] υ := by
    refine zfor 60 (fun i hi ih => ?_)
    intro υ ou zu hq
    have gu : zGd (zrow υ 28) F P := by rw [zu]; exact zGd_Ys hg i
    refine zw_iload2 hB dX3_roundYear_10 ?_
    refine zw_bipush (x := nI 60) hB dX3_roundYear_11 (by decide) ?_
    refine zw_icmp_gtN (tgt := 42) hB dX3_roundYear_13 (by decide) (by omega) (by omega) (fun c13 => ?_) (fun c13 => ?_)
    · refine zw_bipush (x := -9) hB dX3_roundYear_42 (by decide) ?_
      refine zw_iret hB hR dX3_roundYear_44 rfl ?_
      have e9 : zRy (zrow σ 1) P = none := by rw [hq]; exact zfst_e (N := 61) (by omega)
      exact ⟨by rw [e9]; rfl, ou⟩
    · refine zw_aload0 hB dX3_roundYear_16 ?_
      refine zw_getfR hB dX3_roundYear_17 zf_X3_12 rfl rfl ?_
      refine zw_callV0 (M' := mX1_passYear) hB dX3_roundYear_20 zl_X3_49 zg_X1_passYear (zRc.of zld28.1 rfl rfl) (s_X1_passYear zld28 gu) (fun v20 σ20 hq20 => ?_)
      obtain ⟨rfl, y1, y2, y3, y4, y5⟩ := hq20
      have z20 : zrow σ20 28 = zYs (zrow σ 1) (i + 1) := by rw [y1, zu]; rfl
      have b20 : zrow σ20 1 = zrow σ 1 := by rw [show zrow σ20 1 = zrow υ 1 from zrow_congr (fun c _ _ => y5 c (by omega))]; exact zrow_congr (fun c _ _ => ou c (by omega))
      have g20 : zGd (zrow σ20 28) F P := by rw [z20]; exact zGd_Ys hg _
      refine zw_aload0 hB dX3_roundYear_23 ?_
      refine zw_getfR hB dX3_roundYear_24 zf_X3_12 rfl rfl ?_
      refine zw_aload1 hB dX3_roundYear_27 ?_
      refine zw_callV1 (M' := mX1_isSeatedAs) hB dX3_roundYear_28 zl_X3_89 zg_X1_isSeatedAs (zRc.of zld28.1 rfl rfl) (s_X1_isSeatedAs zld28 g20 zld1) (fun v28 σ28 hq28 => ?_)
      obtain ⟨x, hx, rfl, rfl⟩ := hq28
      rw [z20, b20] at hx
      refine zw_if_eq (tgt := 36) hB dX3_roundYear_31 (by decide) (fun c31 => ?_) (fun c31 => ?_)
      · refine zw_iinc2 hB dX3_roundYear_36 (by first | exact zinc _ | rfl) rfl ?_
        refine zw_goto (tgt := 10) hB dX3_roundYear_39 (by decide) ?_
        refine ih (by omega) _ (ou.tr y5) z20 ?_
        rw [hq, zfst_s (N := 61) (by omega), if_neg]
        rcases hx with ⟨e, _⟩ | ⟨_, e⟩
        · exact absurd (e.symm.trans c31) (by decide)
        · exact zSeb_f e
      · refine zw_iload2 hB dX3_roundYear_34 ?_
        refine zw_iret hB hR dX3_roundYear_35 rfl ?_
        have e9 : zRy (zrow σ 1) P = some (i + 1) := by
          rw [hq, zfst_s (N := 61) (by omega), if_pos]
          rcases hx with ⟨_, e⟩ | ⟨e, _⟩
          · exact zSeb_t e
          · exact absurd e c31
        exact ⟨by rw [e9]; rfl, ou.tr y5⟩
  refine zw_aload0 hB dX3_roundYear_0 ?_
  refine zw_getfR hB dX3_roundYear_1 zf_X3_12 rfl rfl ?_
  refine zw_aload1 hB dX3_roundYear_4 ?_
  refine zw_callV1 (M' := mX1_become) hB dX3_roundYear_5 zl_X3_35 zg_X1_become (zRc.of zld28.1 rfl rfl) (s_X1_become zld28 zld1 (by omega)) (fun v5 σ5 hq5 => ?_)
  obtain ⟨rfl, x1, x2⟩ := hq5
  refine zw_iconst (x := nI 1) hB dX3_roundYear_8 (by decide) ?_
  refine zw_istore2 hB dX3_roundYear_9 rfl ?_
  exact hl 0 (by omega) σ5 x2 x1 rfl
