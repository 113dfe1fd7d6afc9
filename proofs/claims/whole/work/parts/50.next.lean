theorem s_X4_plan {n : Nat} {σ : zSt} {F P : Nat} (hg : zGd (zrow σ 1) F P) : zSem (n + 3) mX4_plan [.ref 44, .ref 1] σ (fun v τ => v = none ∧ (∀ q, q ≤ P → ∀ T, T < 2 ^ F → τ 45 (64 * q + T) = nI (zbs (zcg (zrow σ 1)) F P (P - q) T)) ∧ ∀ d, d ≠ 45 → τ d = σ d) := by
  have hF6 := hg.F6
  have hP6 := hg.P6
  have hP : σ 1 1 = nI P := hg.r1
  have hF : σ 1 0 = nI F := hg.r0
  refine zSem.of (by decide +kernel) (Nat.le_of_ble_eq_true rfl) (fun X hB hR => ?_)
  show zW X 0 [some (.ref 44), some (.ref 1), none, none, none] [] σ
  have h64 := z2F F hF6
  have hlD : ∀ p, p ≤ P → ∀ (υ : zSt) (a4 : Option Value), (∀ q, p ≤ q → q ≤ P → ∀ T, T < 2 ^ F → υ 45 (64 * q + T) = nI (zbs (zcg (zrow σ 1)) F P (P - q) T)) → (∀ d, d ≠ 45 → υ d = σ d) → zW X 42 [some (.ref 44), some (.ref 1), some (.int (nI (2 ^ F))), some (.int (zbg p)), a4] [] υ := by
    intro p
    induction p with
    | zero =>
      intro _ υ a4 hn ou
      rw [zbg_0]
      refine zw_iload3 hB dX4_plan_42 ?_
      refine zw_if_lt (tgt := 119) hB dX4_plan_43 (by decide) (fun c43 => ?_) (fun c43 => by first | exact absurd (by decide) c43 | exact absurd c43 (by decide) | omega)
      refine zw_vret hB hR dX4_plan_119 rfl ?_
      exact ⟨rfl, fun q h1 T hT => hn q (Nat.zero_le _) h1 T hT, ou⟩
    | succ p ihp0 =>
      intro hp υ a4 hn ou
      have hn : (∀ q, (p + 1) ≤ q → q ≤ P → ∀ T, T < 2 ^ F → υ 45 (64 * q + T) = nI (zbs (zcg (zrow σ 1)) F P (P - q) T)) := hn
      have ihp : ∀ (υ : zSt), True → ∀ (a4 : Option Value) (_ : True), (∀ q, p ≤ q → q ≤ P → ∀ T, T < 2 ^ F → υ 45 (64 * q + T) = nI (zbs (zcg (zrow σ 1)) F P (P - q) T)) → (∀ d, d ≠ 45 → υ d = σ d) → zW X 42 [some (.ref 44), some (.ref 1), some (.int (nI (2 ^ F))), some (.int (zbg p)), a4] [] υ := fun υ _ a4 _ h1 h2 => ihp0 (by omega) υ a4 h1 h2
      rw [zbg_s]
      have hC : ∀ j, j ≤ F → ∀ υ : zSt, (∀ T, T < 2 ^ F → υ 45 (64 * p + T) = nI (zbj (zcg (zrow σ 1) p) (zbs (zcg (zrow σ 1)) F P (P - (p + 1))) T j)) → (∀ q, (p + 1) ≤ q → q ≤ P → ∀ T, T < 2 ^ F → υ 45 (64 * q + T) = nI (zbs (zcg (zrow σ 1)) F P (P - q) T)) → (∀ d, d ≠ 45 → υ d = σ d) → zW X 83 [some (.ref 44), some (.ref 1), some (.int (nI (2 ^ F))), some (.int (nI p)), some (.int (nI j))] [] υ := by
        refine zfor F (fun j hj ihj => ?_)
        intro υ hb hn ou
        have r1 : zrow υ 1 = zrow σ 1 := zrow_congr (fun d _ _ => ou d (by omega))
        have g1 : zGd (zrow υ 1) F P := by rw [r1]; exact hg
        have kF : υ 1 0 = nI F := (congrFun (ou 1 (by omega)) 0).trans hF
        refine zw_iload4 hB dX4_plan_83 ?_
        refine zw_aload1 hB dX4_plan_85 ?_
        refine zw_getfV (x := nI F) hB dX4_plan_86 zf_X4_15 zld1.1 rfl (kF) ?_
        refine zw_icmp_geN (tgt := 113) hB dX4_plan_89 (by decide) (by omega) (by omega) (fun c89 => ?_) (fun c89 => ?_)
        · refine zw_iinc3 hB dX4_plan_113 (zbg_d p) (by first | rfl | assumption) ?_
          refine zw_goto (tgt := 42) hB dX4_plan_116 (by decide) ?_
          refine ihp _ trivial _ trivial (fun q h1 h2 T hT => ?_) ou
          by_cases e : q = p
          case neg => exact hn q (by omega) h2 T hT
          rw [e, hb T hT, show j = F by omega, show P - p = (P - (p + 1)) + 1 by omega]
          show _ = nI (zbj (zcg (zrow σ 1) (P - (P - (p + 1) + 1))) _ T F)
          rw [show P - (P - (p + 1) + 1) = p by omega]
        · refine zw_aload0 hB dX4_plan_92 ?_
          refine zw_iload3 hB dX4_plan_93 ?_
          refine zw_iload4 hB dX4_plan_94 ?_
          refine zw_aload1 hB dX4_plan_96 ?_
          refine zw_iload3 hB dX4_plan_97 ?_
          refine zw_iload4 hB dX4_plan_98 ?_
          refine zw_callV2 (M' := mX1_grownAt) hB dX4_plan_100 zl_X4_28 zg_X1_grownAt (zRc.of zld1.1 rfl rfl) (s_X1_grownAt zld1 g1 (by omega) (by omega)) (fun v100 σ100 hq100 => ?_)
          obtain ⟨rfl, rfl⟩ := hq100
          rw [r1, (zcg_n hg (by omega)).1]
          refine zw_iload2 hB dX4_plan_103 ?_
          refine zw_callV4 (M' := mX4_planSeat) hB dX4_plan_104 zl_X4_31 zg_X4_planSeat (zRc.of rfl rfl rfl) (s_X4_planSeat hF6 (by omega) c89) (fun v104 σ104 hq104 => ?_)
          obtain ⟨rfl, x1, x2⟩ := hq104
          refine zw_iinc4 hB dX4_plan_107 (by first | exact zinc _ | rfl) (by first | rfl | assumption) ?_
          refine zw_goto (tgt := 83) hB dX4_plan_110 (by decide) ?_
          refine ihj c89 σ104 (fun T hT => ?_) (fun q h1 h2 T hT => ?_) (fun d hd => (x2 d hd).trans (ou d hd))
          · have hor := zor_lt hT c89
            rw [x1]
            show _ = nI (if T.testBit j = true then _ else _)
            by_cases q : T.testBit j = true
            · rw [zps_b q, if_pos q, hb T hT]
            · rw [zps_t hT q, if_neg q, hb T hT, hn (p + 1) (Nat.le_refl _) (by omega) _ hor, nI_add]
              have b1 := zbj_leF (c := zcg (zrow σ 1) p) (N := zbs (zcg (zrow σ 1)) F P (P - (p + 1))) (T := T) (B := 18 * (P - (p + 1))) (F := F) (fun i hi => (zcg_n hg (by omega)).2) (zbs_le (fun q i hi => (zcg_n hg (by omega)).2) _) j (by omega)
              have b2 := zbs_le (c := zcg (zrow σ 1)) (F := F) (P := P) (fun q i hi => (zcg_n hg (by omega)).2) (P - (p + 1)) (T ||| 2 ^ j)
              have b3 := (zcg_n (p := p) (f := j) hg (by omega)).2
              exact zset1 (by omega) (by omega)
          · rw [x1]
            rw [zps_o (by omega)]; exact hn q h1 h2 T hT
      have hB2 : ∀ i, i ≤ 2 ^ F → ∀ υ : zSt, (∀ T, T < i → υ 45 (64 * p + T) = nI (zbs (zcg (zrow σ 1)) F P (P - (p + 1)) T)) → (∀ q, (p + 1) ≤ q → q ≤ P → ∀ T, T < 2 ^ F → υ 45 (64 * q + T) = nI (zbs (zcg (zrow σ 1)) F P (P - q) T)) → (∀ d, d ≠ 45 → υ d = σ d) → zW X 49 [some (.ref 44), some (.ref 1), some (.int (nI (2 ^ F))), some (.int (nI p)), some (.int (nI i))] [] υ := by
        refine zfor (2 ^ F) (fun i hi ihi => ?_)
        intro υ hb hn ou
        refine zw_iload4 hB dX4_plan_49 ?_
        refine zw_iload2 hB dX4_plan_51 ?_
        refine zw_icmp_geN (tgt := 80) hB dX4_plan_52 (by decide) (by omega) (by omega) (fun c52 => ?_) (fun c52 => ?_)
        · refine zw_iconst (x := nI 0) hB dX4_plan_80 (by decide) ?_
          refine zw_istore4 hB dX4_plan_81 (by first | rfl | assumption) ?_
          exact hC 0 (Nat.zero_le _) υ (fun T hT => hb T (by omega)) hn ou
        · refine zw_aload0 hB dX4_plan_55 ?_
          refine zw_getfR hB dX4_plan_56 zf_X4_11 rfl rfl ?_
          refine zw_bipush (x := nI 64) hB dX4_plan_59 (by decide) ?_
          refine zw_iload3 hB dX4_plan_61 ?_
          refine zw_imulN hB dX4_plan_62 ?_
          refine zw_iload4 hB dX4_plan_63 ?_
          refine zw_iaddN hB dX4_plan_65 ?_
          refine zw_aload0 hB dX4_plan_66 ?_
          refine zw_iload3 hB dX4_plan_67 ?_
          refine zw_iload4 hB dX4_plan_68 ?_
          refine zw_callV2P (M' := mX4_mostBehind) hB dX4_plan_70 zl_X4_24 zg_X4_mostBehind (zRc.of rfl rfl rfl) (s_X4_mostBehind (by omega) (by omega)) ?_
          rw [hn (p + 1) (Nat.le_refl _) (by omega) i c52]
          refine zw_iastN hB dX4_plan_73 rfl (by omega) (by decide) ?_
          refine zw_iinc4 hB dX4_plan_74 (by first | exact zinc _ | rfl) (by first | rfl | assumption) ?_
          refine zw_goto (tgt := 49) hB dX4_plan_77 (by decide) ?_
          refine ihi c52 _ (fun T hT => ?_) (fun q h1 h2 T hT => ?_) (fun d hd => by rw [zC_n hd]; exact ou d hd)
          · rw [zC_s]
            by_cases e : T = i
            · subst e; rw [zupd_s]
            · rw [zupd_o (by omega)]; exact hb T (by omega)
          · rw [zC_s, zupd_o (by omega)]; exact hn q h1 h2 T hT
      refine zw_iload3 hB dX4_plan_42 ?_
      refine zw_if_lt (tgt := 119) hB dX4_plan_43 (by decide) (fun c43 => by first | exact absurd c43 (nI_pos (by omega)) | exact absurd (nI_pos (by omega)) c43 | omega) (fun c43 => ?_)
      refine zw_iconst (x := nI 0) hB dX4_plan_46 (by decide) ?_
      refine zw_istore4 hB dX4_plan_47 (by first | rfl | assumption) ?_
      exact hB2 0 (Nat.zero_le _) υ (fun T hT => absurd hT (by omega)) hn ou
  have hlA : ∀ i, i ≤ 2 ^ F → ∀ υ : zSt, (∀ T, T < i → υ 45 (64 * P + T) = nI 0) → (∀ d, d ≠ 45 → υ d = σ d) → zW X 9 [some (.ref 44), some (.ref 1), some (.int (nI (2 ^ F))), some (.int (nI i)), none] [] υ := by
    refine zfor (2 ^ F) (fun i hi ih => ?_)
    intro υ hb ou
    have kP : υ 1 1 = nI P := (congrFun (ou 1 (by omega)) 1).trans hP
    refine zw_iload3 hB dX4_plan_9 ?_
    refine zw_iload2 hB dX4_plan_10 ?_
    refine zw_icmp_geN (tgt := 35) hB dX4_plan_11 (by decide) (by omega) (by omega) (fun c11 => ?_) (fun c11 => ?_)
    · refine zw_aload1 hB dX4_plan_35 ?_
      refine zw_getfV (x := nI P) hB dX4_plan_36 zf_X4_21 zld1.1 rfl (kP) ?_
      refine zw_iconst (x := nI 1) hB dX4_plan_39 (by decide) ?_
      refine zw_isub hB dX4_plan_40 ?_
      refine zw_eqI (y := zbg P) (by rw [← zbg_d, Int32.sub_eq_add_neg]; rfl) ?_
      refine zw_istore3 hB dX4_plan_41 (by first | rfl | assumption) ?_
      exact hlD P (Nat.le_refl _) υ _ (fun q h1 h2 T hT => by rw [show q = P by omega, hb T (by omega), Nat.sub_self]; rfl) ou
    · refine zw_aload0 hB dX4_plan_14 ?_
      refine zw_getfR hB dX4_plan_15 zf_X4_11 rfl rfl ?_
      refine zw_bipush (x := nI 64) hB dX4_plan_18 (by decide) ?_
      refine zw_aload1 hB dX4_plan_20 ?_
      refine zw_getfV (x := nI P) hB dX4_plan_21 zf_X4_21 zld1.1 rfl (kP) ?_
      refine zw_imulN hB dX4_plan_24 ?_
      refine zw_iload3 hB dX4_plan_25 ?_
      refine zw_iaddN hB dX4_plan_26 ?_
      refine zw_iconst (x := nI 0) hB dX4_plan_27 (by decide) ?_
      refine zw_iastN hB dX4_plan_28 rfl (by omega) (by decide) ?_
      refine zw_iinc3 hB dX4_plan_29 (by first | exact zinc _ | rfl) (by first | rfl | assumption) ?_
      refine zw_goto (tgt := 9) hB dX4_plan_32 (by decide) ?_
      refine ih c11 _ (fun T hT => ?_) (fun d hd => by rw [zC_n hd]; exact ou d hd)
      rw [zC_s]
      by_cases e : T = i
      · subst e; rw [zupd_s]
      · rw [zupd_o (by omega)]; exact hb T (by omega)
  refine zw_iconst (x := nI 1) hB dX4_plan_0 (by decide) ?_
  refine zw_aload1 hB dX4_plan_1 ?_
  refine zw_getfV (x := nI F) hB dX4_plan_2 zf_X4_15 zld1.1 rfl (hF) ?_
  refine zw_ishl hB dX4_plan_5 ?_
  rw [z2n F (by omega)]
  refine zw_istore2 hB dX4_plan_6 (by first | rfl | assumption) ?_
  refine zw_iconst (x := nI 0) hB dX4_plan_7 (by decide) ?_
  refine zw_istore3 hB dX4_plan_8 (by first | rfl | assumption) ?_
  exact hlA 0 (Nat.zero_le _) σ (fun T hT => absurd hT (by omega)) (fun _ _ => rfl)
