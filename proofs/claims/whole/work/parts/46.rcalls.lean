/-! THE REFERENCE'S CALLS: two, whoSat, judge, count -/
def zow (r : zRw) (a b m x y k : Nat) : Int32 := zGo (zN1 (zN1 r (decide (x = 1)) a) (decide (y = 1)) b) k m - ztd (zYs (zN1 (zN1 r (decide (x = 1)) a) (decide (y = 1)) b) m) k
theorem zwo_0 {r : zRw} {a b m k x : Nat} : zow r a b m (k / 2) (k % 2) x = zwo r a b m k x := rfl
theorem zwo_2 {r : zRw} {a b m k x : Nat} (hk : k < 4) : zow r a b m (1 - k / 2) (k % 2) x = zwo r a b m ((k + 2) % 4) x := by
  rw [← zwo_0, show ((k + 2) % 4) / 2 = 1 - k / 2 by omega, show ((k + 2) % 4) % 2 = k % 2 by omega]
theorem zwo_1 {r : zRw} {a b m k x : Nat} (hk : k < 4) : zow r a b m (k / 2) (1 - k % 2) x = zwo r a b m (k + 1 - 2 * (k % 2)) x := by
  rw [← zwo_0, show (k + 1 - 2 * (k % 2)) / 2 = k / 2 by omega, show (k + 1 - 2 * (k % 2)) % 2 = 1 - k % 2 by omega]

theorem s_X6_ownBy {n : Nat} {σ : zSt} {F P a b m x y k : Nat} (hg : zGd (zro σ 51) F P) (ha : a < P) (hb : b < P) (hk : k < P) (hm : m < 100) (hx : x < 2) (hy : y < 2) : zSem (n + 5) mX6_ownBy [.ref 50, .int (nI k), .int (nI a), .int (nI x), .int (nI b), .int (nI y), .int (nI m)] σ (fun v τ => v = some (.int (zow (zro σ 51) a b m x y k)) ∧ zR3 σ τ) := by
  have hF6 := hg.F6
  have hP6 := hg.P6
  refine zSem.of (by decide +kernel) (Nat.le_of_ble_eq_true rfl) (fun X hB hR => ?_)
  show zW X 0 [some (.ref 50), some (.int (nI k)), some (.int (nI a)), some (.int (nI x)), some (.int (nI b)), some (.int (nI y)), some (.int (nI m)), none] [] σ
  have hj2 : ∀ υ : zSt, zro υ 52 = (zN1 (zN1 (zro σ 51) (decide (x = 1)) a) (decide (y = 1)) b) → zR3 σ υ → zW X 47 [some (.ref 50), some (.int (nI k)), some (.int (nI a)), some (.int (nI x)), some (.int (nI b)), some (.int (nI y)), some (.int (nI m)), none] [] υ := by
    intro υ zu ou
    have gu : zGd (zro υ 52) F P := by rw [zu]; exact zGd_N1 (zGd_N1 hg ha) hb
    refine zw_aload0 hB dX6_ownBy_47 ?_
    refine zw_aload0 hB dX6_ownBy_48 ?_
    refine zw_getfR hB dX6_ownBy_49 zf_X6_13 rfl rfl ?_
    refine zw_iload6 hB dX6_ownBy_52 ?_
    refine zw_callV2 (M' := mX6_yearsOn) hB dX6_ownBy_54 zl_X6_124 zg_X6_yearsOn (zRc.of rfl rfl rfl) (s_X6_yearsOn (c := 52) rfl (by omega) gu (by omega)) (fun v54 σ54 hq54 => ?_)
    obtain ⟨rfl, y1, y2, y3, y4⟩ := hq54
    rw [zu] at y1 y3
    refine zw_istore7 hB dX6_ownBy_57 (by first | rfl | assumption) ?_
    refine zw_aload0 hB dX6_ownBy_59 ?_
    refine zw_getfR hB dX6_ownBy_60 zf_X6_25 rfl rfl ?_
    refine zw_iload1 hB dX6_ownBy_63 ?_
    refine zw_ialdV (x := zGo (zN1 (zN1 (zro σ 51) (decide (x = 1)) a) (decide (y = 1)) b) k m) hB dX6_ownBy_64 rfl (by omega) (by decide) (y3 k hk) ?_
    refine zw_aload0 hB dX6_ownBy_65 ?_
    refine zw_getfR hB dX6_ownBy_66 zf_X6_13 rfl rfl ?_
    refine zw_iload1 hB dX6_ownBy_69 ?_
    refine zw_iconst (x := nI 2) hB dX6_ownBy_70 (by decide) ?_
    refine zw_callS2P (M' := mX6_of) hB dX6_ownBy_71 zl_X6_56 zg_X6_of (s_X6_of) ?_
    refine zw_ialdV (x := ztd (zYs (zN1 (zN1 (zro σ 51) (decide (x = 1)) a) (decide (y = 1)) b) m) k) hB dX6_ownBy_74 rfl (by omega) (by decide) (by rw [← y1]; exact zro_td (by omega)) ?_
    refine zw_isub hB dX6_ownBy_75 ?_
    refine zw_iret hB hR dX6_ownBy_76 rfl ?_
    exact ⟨rfl, ou.tr (zR3.b y4)⟩
  have hj1 : ∀ υ : zSt, zro υ 52 = (zN1 (zro σ 51) (decide (x = 1)) a) → zR3 σ υ → zW X 28 [some (.ref 50), some (.int (nI k)), some (.int (nI a)), some (.int (nI x)), some (.int (nI b)), some (.int (nI y)), some (.int (nI m)), none] [] υ := by
    intro υ zu ou
    refine zw_iload5 hB dX6_ownBy_28 ?_
    refine zw_iconst (x := nI 1) hB dX6_ownBy_30 (by decide) ?_
    refine zw_icmp_neN (tgt := 47) hB dX6_ownBy_31 (by decide) (by omega) (by omega) (fun c31 => ?_) (fun c31 => ?_)
    · refine hj2 υ ?_ ou
      rw [zu, show decide (y = 1) = false from decide_eq_false c31]; rfl
    · refine zw_aload0 hB dX6_ownBy_34 ?_
      refine zw_getfR hB dX6_ownBy_35 zf_X6_13 rfl rfl ?_
      refine zw_iload4 hB dX6_ownBy_38 ?_
      refine zw_iconst (x := nI 3) hB dX6_ownBy_40 (by decide) ?_
      refine zw_callS2P (M' := mX6_of) hB dX6_ownBy_41 zl_X6_56 zg_X6_of (s_X6_of) ?_
      refine zw_bipush (x := -9) hB dX6_ownBy_44 (by decide) ?_
      refine zw_iastN hB dX6_ownBy_46 rfl (by omega) (by decide) ?_
      refine hj2 _ ?_ (ou.tr zR3.c)
      rw [zro_set (by omega), zu, show decide (y = 1) = true from decide_eq_true c31, show 23 + 4 * b + 3 = 26 + 4 * b by omega]; rfl
  refine zw_aload0 hB dX6_ownBy_0 ?_
  refine zw_getfR hB dX6_ownBy_1 zf_X6_9 rfl rfl ?_
  refine zw_aload0 hB dX6_ownBy_4 ?_
  refine zw_getfR hB dX6_ownBy_5 zf_X6_13 rfl rfl ?_
  refine zw_callS2 (M' := mX6_copies) hB dX6_ownBy_8 zl_X6_130 zg_X6_copies (s_X6_copies (c := 51) (d := 52) rfl rfl (by decide)) (fun v8 σ8 hq8 => ?_)
  obtain ⟨rfl, x1, x2⟩ := hq8
  refine zw_iload3 hB dX6_ownBy_11 ?_
  refine zw_iconst (x := nI 1) hB dX6_ownBy_12 (by decide) ?_
  refine zw_icmp_neN (tgt := 28) hB dX6_ownBy_13 (by decide) (by omega) (by omega) (fun c13 => ?_) (fun c13 => ?_)
  · refine hj1 σ8 ?_ (zR3.a x2)
    rw [x1, show decide (x = 1) = false from decide_eq_false c13]; rfl
  · refine zw_aload0 hB dX6_ownBy_16 ?_
    refine zw_getfR hB dX6_ownBy_17 zf_X6_13 rfl rfl ?_
    refine zw_iload2 hB dX6_ownBy_20 ?_
    refine zw_iconst (x := nI 3) hB dX6_ownBy_21 (by decide) ?_
    refine zw_callS2P (M' := mX6_of) hB dX6_ownBy_22 zl_X6_56 zg_X6_of (s_X6_of) ?_
    refine zw_bipush (x := -9) hB dX6_ownBy_25 (by decide) ?_
    refine zw_iastN hB dX6_ownBy_27 rfl (by omega) (by decide) ?_
    refine hj1 _ ?_ ((zR3.a x2).tr zR3.c)
    rw [zro_set (by omega), x1, show decide (x = 1) = true from decide_eq_true c13, show 23 + 4 * a + 3 = 26 + 4 * a by omega]; rfl
theorem zR3.gd {σ τ : zSt} {F P : Nat} (h : zR3 σ τ) (hg : zGd (zro σ 51) F P) : zGd (zro τ 51) F P := by rw [h.ro]; exact hg
theorem s_X6_two {n : Nat} {σ : zSt} {S : zS} (hS : zOk S) (h : zRW S σ) (a0 b0 m0 : Int32) : zSem (n + 6) mX6_two [.ref 50, .int a0, .int b0, .int m0] σ (zRQ (q_two S a0 b0 m0) σ) := by
  obtain ⟨⟨⟨F, P, hg0⟩, y0, hy0, ey0⟩, hkp, hlt, hrw⟩ := id hS
  have hnF := hg0.nF
  have hnP := hg0.nP
  have hr0 := h.1
  have hg : zGd (zro σ 51) F P := by rw [hr0]; exact hg0
  have hF6 := hg.F6
  have hP6 := hg.P6
  have hF : σ 51 0 = nI F := (zro_k (by omega)).symm.trans hg.r0
  have hP : σ 51 1 = nI P := (zro_k (by omega)).symm.trans hg.r1
  unfold q_two
  try rw [hnF]
  try rw [hnP]
  refine zSem.of (by decide +kernel) (Nat.le_of_ble_eq_true rfl) (fun X hB hR => ?_)
  show zW X 0 [some (.ref 50), some (.int a0), some (.int b0), some (.int m0), none, none, none, none] [] σ
  have hl : ∀ a b m : Nat, a0 = nI a → b0 = nI b → m0 = nI m → a < P → b < P → m < 100 → zfo (znb (zIn (nI a) P ∧ zIn (nI b) P ∧ ¬ nI a = nI b)) (zir (nI m) (nI 1) (nI 30)) (nI 0) = 0 → ∀ i, i ≤ 4 → ∀ (υ : zSt) (a4 a6 a7 : Option Value), zc1 a4 = true → zR3 σ υ → zTw (zro σ 51) a b m = zfst (fun k => decide (zwo (zro σ 51) a b m ((k + 2) % 4) a ≤ zwo (zro σ 51) a b m k a ∧ zwo (zro σ 51) a b m (k + 1 - 2 * (k % 2)) b ≤ zwo (zro σ 51) a b m k b)) i (4 - i) → zW X 49 [some (.ref 50), some (.int (nI a)), some (.int (nI b)), some (.int (nI m)), a4, some (.int (nI i)), a6, a7] [] υ := by
    rintro a b m rfl rfl rfl ha hb hm e0
    refine zfor 4 (fun i hi ih => ?_)
    intro υ a4 a6 a7 k4 o0 hq
    refine zw_iload5 hB dX6_two_49 ?_
    refine zw_iconst (x := nI 4) hB dX6_two_51 (by decide) ?_
    refine zw_icmp_geN (tgt := 140) hB dX6_two_52 (by decide) (by omega) (by omega) (fun c52 => ?_) (fun c52 => ?_)
    · refine zw_bipush (x := -9) hB dX6_two_140 (by decide) ?_
      refine zw_iret hB hR dX6_two_142 rfl ?_
      have e9 : zTw (zro σ 51) a b m = none := by rw [hq]; exact zfst_e (by omega)
      exact zRQ.ok3 h e0 (by rw [nI_clamp (by omega), nI_clamp (by omega), nI_clamp (by omega), ← hr0, e9]; rfl) o0
    · refine zw_iload5 hB dX6_two_55 ?_
      refine zw_iconst (x := nI 2) hB dX6_two_57 (by decide) ?_
      refine zw_idivN hB dX6_two_58 (by omega) (by omega) (by omega) ?_
      refine zw_istore6 hB dX6_two_59 (by first | rfl | assumption) ?_
      refine zw_iload5 hB dX6_two_61 ?_
      refine zw_iconst (x := nI 2) hB dX6_two_63 (by decide) ?_
      refine zw_iremN hB dX6_two_64 (by omega) (by omega) (by omega) ?_
      refine zw_istore7 hB dX6_two_65 (by first | rfl | assumption) ?_
      refine zw_aload0 hB dX6_two_67 ?_
      refine zw_iload1 hB dX6_two_68 ?_
      refine zw_iload1 hB dX6_two_69 ?_
      refine zw_iconst (x := nI 1) hB dX6_two_70 (by decide) ?_
      refine zw_iload6 hB dX6_two_71 ?_
      refine zw_isubN hB dX6_two_73 (by omega) ?_
      refine zw_iload2 hB dX6_two_74 ?_
      refine zw_iload7 hB dX6_two_75 ?_
      refine zw_iload3 hB dX6_two_77 ?_
      refine zw_callV6 (M' := mX6_ownBy) hB dX6_two_78 zl_X6_166 zg_X6_ownBy (zRc.of rfl rfl rfl) (s_X6_ownBy (o0.gd hg) ha hb ha hm (x := 1 - i / 2) (y := i % 2) (by omega) (by omega)) (fun v78 σ78 hq78 => ?_)
      obtain ⟨rfl, y78⟩ := hq78
      rw [o0.ro]
      have o78 := o0.tr y78
      refine zw_aload0 hB dX6_two_81 ?_
      refine zw_iload1 hB dX6_two_82 ?_
      refine zw_iload1 hB dX6_two_83 ?_
      refine zw_iload6 hB dX6_two_84 ?_
      refine zw_iload2 hB dX6_two_86 ?_
      refine zw_iload7 hB dX6_two_87 ?_
      refine zw_iload3 hB dX6_two_89 ?_
      refine zw_callV6 (M' := mX6_ownBy) hB dX6_two_90 zl_X6_166 zg_X6_ownBy (zRc.of rfl rfl rfl) (s_X6_ownBy (o78.gd hg) ha hb ha hm (x := i / 2) (y := i % 2) (by omega) (by omega)) (fun v90 σ90 hq90 => ?_)
      obtain ⟨rfl, y90⟩ := hq90
      rw [o78.ro]
      have o90 := o78.tr y90
      refine zw_icmp_gt (tgt := 134) hB dX6_two_93 (by decide) (fun c93 => ?_) (fun c93 => ?_)
      · refine zw_iinc5 hB dX6_two_134 (by first | exact zinc _ | rfl) (by first | rfl | assumption) ?_
        refine zw_goto (tgt := 49) hB dX6_two_137 (by decide) ?_
        rw [zwo_0, zwo_2 (by omega)] at c93
        refine ih c52 _ _ _ _ k4 o90 ?_
        rw [hq, zfst_s c52, if_neg (by rw [decide_eq_true_eq]; exact fun z => Int32.not_le.mpr c93 z.1)]
      · refine zw_aload0 hB dX6_two_96 ?_
        refine zw_iload2 hB dX6_two_97 ?_
        refine zw_iload1 hB dX6_two_98 ?_
        refine zw_iload6 hB dX6_two_99 ?_
        refine zw_iload2 hB dX6_two_101 ?_
        refine zw_iconst (x := nI 1) hB dX6_two_102 (by decide) ?_
        refine zw_iload7 hB dX6_two_103 ?_
        refine zw_isubN hB dX6_two_105 (by omega) ?_
        refine zw_iload3 hB dX6_two_106 ?_
        refine zw_callV6 (M' := mX6_ownBy) hB dX6_two_107 zl_X6_166 zg_X6_ownBy (zRc.of rfl rfl rfl) (s_X6_ownBy (o90.gd hg) ha hb hb hm (x := i / 2) (y := 1 - i % 2) (by omega) (by omega)) (fun v107 σ107 hq107 => ?_)
        obtain ⟨rfl, y107⟩ := hq107
        rw [o90.ro]
        have o107 := o90.tr y107
        refine zw_aload0 hB dX6_two_110 ?_
        refine zw_iload2 hB dX6_two_111 ?_
        refine zw_iload1 hB dX6_two_112 ?_
        refine zw_iload6 hB dX6_two_113 ?_
        refine zw_iload2 hB dX6_two_115 ?_
        refine zw_iload7 hB dX6_two_116 ?_
        refine zw_iload3 hB dX6_two_118 ?_
        refine zw_callV6 (M' := mX6_ownBy) hB dX6_two_119 zl_X6_166 zg_X6_ownBy (zRc.of rfl rfl rfl) (s_X6_ownBy (o107.gd hg) ha hb hb hm (x := i / 2) (y := i % 2) (by omega) (by omega)) (fun v119 σ119 hq119 => ?_)
        obtain ⟨rfl, y119⟩ := hq119
        rw [o107.ro]
        have o119 := o107.tr y119
        refine zw_icmp_gt (tgt := 134) hB dX6_two_122 (by decide) (fun c122 => ?_) (fun c122 => ?_)
        · refine zw_iinc5 hB dX6_two_134 (by first | exact zinc _ | rfl) (by first | rfl | assumption) ?_
          refine zw_goto (tgt := 49) hB dX6_two_137 (by decide) ?_
          rw [zwo_0, zwo_1 (by omega)] at c122
          refine ih c52 _ _ _ _ k4 o119 ?_
          rw [hq, zfst_s c52, if_neg (by rw [decide_eq_true_eq]; exact fun z => Int32.not_le.mpr c122 z.2)]
        · refine zw_bipush (x := nI 10) hB dX6_two_125 (by decide) ?_
          refine zw_iload6 hB dX6_two_127 ?_
          refine zw_imulN hB dX6_two_129 ?_
          refine zw_iload7 hB dX6_two_130 ?_
          refine zw_iaddN hB dX6_two_132 ?_
          refine zw_iret hB hR dX6_two_133 rfl ?_
          rw [zwo_0, zwo_2 (by omega)] at c93
          rw [zwo_0, zwo_1 (by omega)] at c122
          have e9 : zTw (zro σ 51) a b m = some i := by
            rw [hq, zfst_s c52, if_pos (by rw [decide_eq_true_eq]; exact ⟨Int32.not_lt.mp c93, Int32.not_lt.mp c122⟩)]
          exact zRQ.ok3 h e0 (by rw [nI_clamp (by omega), nI_clamp (by omega), nI_clamp (by omega), ← hr0, e9]; rfl) o119
  refine zw_aload0 hB dX6_two_0 ?_
  refine zw_iload1 hB dX6_two_1 ?_
  refine zw_callV1P (M' := mX6_isFarmer) hB dX6_two_2 zl_X6_113 zg_X6_isFarmer (zRc.of rfl rfl rfl) (s_X6_isFarmer hP hP6 _) ?_
  refine zw_if_eqB (tgt := 31) hB dX6_two_5 (by decide) (fun c5 => ?_) (fun c5 => ?_)
  · refine zw_iconst (x := -1) hB dX6_two_31 (by decide) ?_
    refine zw_eqI (y := zfo (znb (zIn a0 P ∧ zIn b0 P ∧ ¬ a0 = b0)) (zir m0 (nI 1) (nI 30)) (nI 0)) (zfo_1 (fun z => c5 z.1)).symm ?_
    refine zw_istore4 hB dX6_two_32 (by first | rfl | assumption) ?_
    refine zw_iload4 hB dX6_two_34 ?_
    refine zw_if_eq (tgt := 46) hB dX6_two_36 (by decide) (fun c36 => ?_) (fun c36 => ?_)
    · have e0 := c36
      obtain ⟨e1, e2, -⟩ := zfo_0 c36
      obtain ⟨z1, z2, z3⟩ := znb_0 e1
      obtain ⟨j, hj, rfl⟩ := zIn_j (by omega) z1
      obtain ⟨i, hi, rfl⟩ := zIn_j (by omega) z2
      obtain ⟨m, -, hm, rfl⟩ := zir_0 (by omega) (by omega) e2
      refine zw_iconst (x := nI 0) hB dX6_two_46 (by decide) ?_
      refine zw_istore5 hB dX6_two_47 (by first | rfl | assumption) ?_
      exact hl j i m rfl rfl rfl hj hi (by omega) e0 0 (by omega) _ _ _ _ rfl zR3.rf rfl
    · obtain ⟨k, hk, hc⟩ := (zcd_fo (zcd_nb (c := zIn a0 P ∧ zIn b0 P ∧ ¬ a0 = b0)) (zcd_ir (v := m0) (a := nI 1) (m := nI 30)) zcd_0).resolve_left c36
      refine zw_aload0 hB dX6_two_39 ?_
      refine zw_iload4 hB dX6_two_40 ?_
      refine zw_callV1 (M' := mX6_no) hB dX6_two_42 zl_X6_48 zg_X6_no (zRc.of rfl rfl rfl) (s_X6_no _ hc hk) (fun v42 σ42 hq42 => ?_)
      obtain ⟨rfl, rfl⟩ := hq42
      refine zw_iret hB hR dX6_two_45 rfl ?_
      exact zRQ.no h c36 hk hc
  · refine zw_aload0 hB dX6_two_8 ?_
    refine zw_iload2 hB dX6_two_9 ?_
    refine zw_callV1P (M' := mX6_isFarmer) hB dX6_two_10 zl_X6_113 zg_X6_isFarmer (zRc.of rfl rfl rfl) (s_X6_isFarmer hP hP6 _) ?_
    refine zw_if_eqB (tgt := 31) hB dX6_two_13 (by decide) (fun c13 => ?_) (fun c13 => ?_)
    · refine zw_iconst (x := -1) hB dX6_two_31 (by decide) ?_
      refine zw_eqI (y := zfo (znb (zIn a0 P ∧ zIn b0 P ∧ ¬ a0 = b0)) (zir m0 (nI 1) (nI 30)) (nI 0)) (zfo_1 (fun z => c13 z.2.1)).symm ?_
      refine zw_istore4 hB dX6_two_32 (by first | rfl | assumption) ?_
      refine zw_iload4 hB dX6_two_34 ?_
      refine zw_if_eq (tgt := 46) hB dX6_two_36 (by decide) (fun c36 => ?_) (fun c36 => ?_)
      · have e0 := c36
        obtain ⟨e1, e2, -⟩ := zfo_0 c36
        obtain ⟨z1, z2, z3⟩ := znb_0 e1
        obtain ⟨j, hj, rfl⟩ := zIn_j (by omega) z1
        obtain ⟨i, hi, rfl⟩ := zIn_j (by omega) z2
        obtain ⟨m, -, hm, rfl⟩ := zir_0 (by omega) (by omega) e2
        refine zw_iconst (x := nI 0) hB dX6_two_46 (by decide) ?_
        refine zw_istore5 hB dX6_two_47 (by first | rfl | assumption) ?_
        exact hl j i m rfl rfl rfl hj hi (by omega) e0 0 (by omega) _ _ _ _ rfl zR3.rf rfl
      · obtain ⟨k, hk, hc⟩ := (zcd_fo (zcd_nb (c := zIn a0 P ∧ zIn b0 P ∧ ¬ a0 = b0)) (zcd_ir (v := m0) (a := nI 1) (m := nI 30)) zcd_0).resolve_left c36
        refine zw_aload0 hB dX6_two_39 ?_
        refine zw_iload4 hB dX6_two_40 ?_
        refine zw_callV1 (M' := mX6_no) hB dX6_two_42 zl_X6_48 zg_X6_no (zRc.of rfl rfl rfl) (s_X6_no _ hc hk) (fun v42 σ42 hq42 => ?_)
        obtain ⟨rfl, rfl⟩ := hq42
        refine zw_iret hB hR dX6_two_45 rfl ?_
        exact zRQ.no h c36 hk hc
    · refine zw_iload1 hB dX6_two_16 ?_
      refine zw_iload2 hB dX6_two_17 ?_
      refine zw_icmp_eq (tgt := 31) hB dX6_two_18 (by decide) (fun c18 => ?_) (fun c18 => ?_)
      · refine zw_iconst (x := -1) hB dX6_two_31 (by decide) ?_
        refine zw_eqI (y := zfo (znb (zIn a0 P ∧ zIn b0 P ∧ ¬ a0 = b0)) (zir m0 (nI 1) (nI 30)) (nI 0)) (zfo_1 (fun z => z.2.2 c18)).symm ?_
        refine zw_istore4 hB dX6_two_32 (by first | rfl | assumption) ?_
        refine zw_iload4 hB dX6_two_34 ?_
        refine zw_if_eq (tgt := 46) hB dX6_two_36 (by decide) (fun c36 => ?_) (fun c36 => ?_)
        · have e0 := c36
          obtain ⟨e1, e2, -⟩ := zfo_0 c36
          obtain ⟨z1, z2, z3⟩ := znb_0 e1
          obtain ⟨j, hj, rfl⟩ := zIn_j (by omega) z1
          obtain ⟨i, hi, rfl⟩ := zIn_j (by omega) z2
          obtain ⟨m, -, hm, rfl⟩ := zir_0 (by omega) (by omega) e2
          refine zw_iconst (x := nI 0) hB dX6_two_46 (by decide) ?_
          refine zw_istore5 hB dX6_two_47 (by first | rfl | assumption) ?_
          exact hl j i m rfl rfl rfl hj hi (by omega) e0 0 (by omega) _ _ _ _ rfl zR3.rf rfl
        · obtain ⟨k, hk, hc⟩ := (zcd_fo (zcd_nb (c := zIn a0 P ∧ zIn b0 P ∧ ¬ a0 = b0)) (zcd_ir (v := m0) (a := nI 1) (m := nI 30)) zcd_0).resolve_left c36
          refine zw_aload0 hB dX6_two_39 ?_
          refine zw_iload4 hB dX6_two_40 ?_
          refine zw_callV1 (M' := mX6_no) hB dX6_two_42 zl_X6_48 zg_X6_no (zRc.of rfl rfl rfl) (s_X6_no _ hc hk) (fun v42 σ42 hq42 => ?_)
          obtain ⟨rfl, rfl⟩ := hq42
          refine zw_iret hB hR dX6_two_45 rfl ?_
          exact zRQ.no h c36 hk hc
      · refine zw_iload3 hB dX6_two_21 ?_
        refine zw_iconst (x := nI 1) hB dX6_two_22 (by decide) ?_
        refine zw_bipush (x := nI 30) hB dX6_two_23 (by decide) ?_
        refine zw_callS3P (M' := mX6_wrongBy) hB dX6_two_25 zl_X6_137 zg_X6_wrongBy (s_X6_wrongBy _ _ _) ?_
        refine zw_goto (tgt := 32) hB dX6_two_28 (by decide) ?_
        refine zw_eqI (y := zfo (znb (zIn a0 P ∧ zIn b0 P ∧ ¬ a0 = b0)) (zir m0 (nI 1) (nI 30)) (nI 0)) (zfo_2 ⟨c5, c13, c18⟩).symm ?_
        refine zw_istore4 hB dX6_two_32 (by first | rfl | assumption) ?_
        refine zw_iload4 hB dX6_two_34 ?_
        refine zw_if_eq (tgt := 46) hB dX6_two_36 (by decide) (fun c36 => ?_) (fun c36 => ?_)
        · have e0 := c36
          obtain ⟨e1, e2, -⟩ := zfo_0 c36
          obtain ⟨z1, z2, z3⟩ := znb_0 e1
          obtain ⟨j, hj, rfl⟩ := zIn_j (by omega) z1
          obtain ⟨i, hi, rfl⟩ := zIn_j (by omega) z2
          obtain ⟨m, -, hm, rfl⟩ := zir_0 (by omega) (by omega) e2
          refine zw_iconst (x := nI 0) hB dX6_two_46 (by decide) ?_
          refine zw_istore5 hB dX6_two_47 (by first | rfl | assumption) ?_
          exact hl j i m rfl rfl rfl hj hi (by omega) e0 0 (by omega) _ _ _ _ rfl zR3.rf rfl
        · obtain ⟨k, hk, hc⟩ := (zcd_fo (zcd_nb (c := zIn a0 P ∧ zIn b0 P ∧ ¬ a0 = b0)) (zcd_ir (v := m0) (a := nI 1) (m := nI 30)) zcd_0).resolve_left c36
          refine zw_aload0 hB dX6_two_39 ?_
          refine zw_iload4 hB dX6_two_40 ?_
          refine zw_callV1 (M' := mX6_no) hB dX6_two_42 zl_X6_48 zg_X6_no (zRc.of rfl rfl rfl) (s_X6_no _ hc hk) (fun v42 σ42 hq42 => ?_)
          obtain ⟨rfl, rfl⟩ := hq42
          refine zw_iret hB hR dX6_two_45 rfl ?_
          exact zRQ.no h c36 hk hc
theorem s_X6_whoSat {n : Nat} {σ : zSt} {S : zS} (hS : zOk S) (h : zRW S σ) (f0 p0 w0 : Int32) : zSem (n + 5) mX6_whoSat [.ref 50, .int f0, .int p0, .int w0] σ (zRQ (q_whoSat S f0 p0 w0) σ) := by
  obtain ⟨⟨⟨F, P, hg0⟩, y0, hy0, ey0⟩, hkp, hlt, hrw⟩ := id hS
  have hnF := hg0.nF
  have hnP := hg0.nP
  have hr0 := h.1
  have hg : zGd (zro σ 51) F P := by rw [hr0]; exact hg0
  have hF6 := hg.F6
  have hP6 := hg.P6
  have hF : σ 51 0 = nI F := (zro_k (by omega)).symm.trans hg.r0
  have hP : σ 51 1 = nI P := (zro_k (by omega)).symm.trans hg.r1
  unfold q_whoSat
  try rw [hnF]
  try rw [hnP]
  refine zSem.of (by decide +kernel) (Nat.le_of_ble_eq_true rfl) (fun X hB hR => ?_)
  show zW X 0 [some (.ref 50), some (.int f0), some (.int p0), some (.int w0), none, none, none, none, none] [] σ
  have hl0 : ∀ f p, f0 = nI f → p0 = nI p → w0 = nI 0 → f < F → p < P → zfo (znb (zIn (nI f) F ∧ zIn (nI p) P)) (zou (nI 0) (nI 1)) (nI 0) = 0 → ∀ k, k ≤ 6 → ∀ (υ : zSt) (s : Int32) (a6 a7 a8 : Option Value), zR3 σ υ → s = zset (fun k => zgr (upd (zro σ 51) (23 + 4 * p) (nI k)) f S.2.2.2.1) k → zW X 44 [some (.ref 50), some (.int (nI f)), some (.int (nI p)), some (.int (nI 0)), some (.int s), some (.int (nI k)), a6, a7, a8] [] υ := by
    rintro f p rfl rfl rfl hf hp e0
    refine zfor 6 (fun k hkN0 ihk => ?_)
    intro υ s a6 a7 a8 ou hs
    have hin : k < 6 → ∀ i, i ≤ S.2.2.2.1.length → ∀ (υ : zSt) (v : Int32) (a8 : Option Value), ((v = nI 1 ∧ (∀ q, q < i → zgn (zYs (upd (zro σ 51) (23 + 4 * p) (nI k)) q) f = S.2.2.2.1.getD q 0)) ∨ (v = nI 0 ∧ ∃ q, q < i ∧ ¬ zgn (zYs (upd (zro σ 51) (23 + 4 * p) (nI k)) q) f = S.2.2.2.1.getD q 0)) → zro υ 52 = zYs (upd (zro σ 51) (23 + 4 * p) (nI k)) i → zR3 σ υ → zW X 89 [some (.ref 50), some (.int (nI f)), some (.int (nI p)), some (.int (nI 0)), some (.int s), some (.int (nI k)), some (.int v), some (.int (nI i)), a8] [] υ := by
      intro hkN
      refine zfor S.2.2.2.1.length (fun i hi ih => ?_)
      intro υ v a8 hv zu ou
      have hl16 := hrw.1
      have gu : zGd (zro υ 52) F P := by rw [zu]; exact zGd_Ys (zGd_kf (w := 0) hg hp (by omega)) i
      refine zw_iload7 hB dX6_whoSat_89 ?_
      refine zw_aload0 hB dX6_whoSat_91 ?_
      refine zw_getfV (x := nI S.2.2.2.1.length) hB dX6_whoSat_92 zf_X6_185 rfl rfl ((congrFun (ou 50 (by omega) (by omega) (by omega) (by omega)) 11).trans h.2.2.2.1.1) ?_
      refine zw_icmp_geN (tgt := 143) hB dX6_whoSat_95 (by decide) (by omega) (by omega) (fun c95 => ?_) (fun c95 => ?_)
      · refine zw_iload4 hB dX6_whoSat_143 ?_
        refine zw_iload6 hB dX6_whoSat_145 ?_
        refine zw_if_eq (tgt := 157) hB dX6_whoSat_147 (by decide) (fun c147 => ?_) (fun c147 => ?_)
        · refine zw_iconst (x := nI 0) hB dX6_whoSat_157 (by decide) ?_
          refine zw_ior hB dX6_whoSat_158 ?_
          refine zw_istore4 hB dX6_whoSat_159 (by first | rfl | assumption) ?_
          refine zw_iinc5 hB dX6_whoSat_161 (by first | exact zinc _ | rfl) (by first | rfl | assumption) ?_
          refine zw_goto (tgt := 44) hB dX6_whoSat_164 (by decide) ?_
          refine ihk hkN _ _ _ _ _ ou ?_
          rw [hs, zset, if_neg (by
            rcases hv with ⟨rfl, _⟩ | ⟨_, q, hq, hh⟩
            · exact absurd c147 (by decide)
            · exact zgr_f (by omega) hh)]
        · refine zw_iconst (x := nI 1) hB dX6_whoSat_150 (by decide) ?_
          refine zw_iload5 hB dX6_whoSat_151 ?_
          refine zw_ishl hB dX6_whoSat_153 ?_
          refine zw_goto (tgt := 158) hB dX6_whoSat_154 (by decide) ?_
          refine zw_ior hB dX6_whoSat_158 ?_
          refine zw_istore4 hB dX6_whoSat_159 (by first | rfl | assumption) ?_
          refine zw_iinc5 hB dX6_whoSat_161 (by first | exact zinc _ | rfl) (by first | rfl | assumption) ?_
          refine zw_goto (tgt := 44) hB dX6_whoSat_164 (by decide) ?_
          refine ihk hkN _ _ _ _ _ ou ?_
          rw [hs, zset, if_pos (by
            rcases hv with ⟨_, hh⟩ | ⟨rfl, _⟩
            · exact zgr_t (fun q hq => hh q (by omega))
            · exact absurd nI_0 c147)]
      · refine zw_iload6 hB dX6_whoSat_98 ?_
        refine zw_aload0 hB dX6_whoSat_100 ?_
        refine zw_getfR hB dX6_whoSat_101 zf_X6_13 rfl rfl ?_
        refine zw_iload1 hB dX6_whoSat_104 ?_
        refine zw_callS2P (M' := mX6_green) hB dX6_whoSat_105 zl_X6_88 zg_X6_green (s_X6_green (c := 52) rfl (by omega)) ?_
        rw [zu]
        refine zw_aload0 hB dX6_whoSat_108 ?_
        refine zw_getfR hB dX6_whoSat_109 zf_X6_31 rfl rfl ?_
        refine zw_iload7 hB dX6_whoSat_112 ?_
        refine zw_ialdV (x := S.2.2.2.1.getD i 0) hB dX6_whoSat_114 rfl (by omega) (by decide) (by rw [ou 58 (by omega) (by omega) (by omega) (by omega)]; exact h.2.2.2.1.2 i c95) ?_
        refine zw_icmp_ne (tgt := 122) hB dX6_whoSat_115 (by decide) (fun c115 => ?_) (fun c115 => ?_)
        · refine zw_iconst (x := nI 0) hB dX6_whoSat_122 (by decide) ?_
          refine zw_iand hB dX6_whoSat_123 ?_
          refine zw_istore6 hB dX6_whoSat_124 (by first | rfl | assumption) ?_
          refine zw_aload0 hB dX6_whoSat_126 ?_
          refine zw_aload0 hB dX6_whoSat_127 ?_
          refine zw_getfR hB dX6_whoSat_128 zf_X6_13 rfl rfl ?_
          refine zw_iconst (x := nI 0) hB dX6_whoSat_131 (by decide) ?_
          refine zw_callV2 (M' := mX6_year) hB dX6_whoSat_132 zl_X6_84 zg_X6_year (zRc.of rfl rfl rfl) (s_X6_year (c := 52) rfl (by omega) gu _) (fun v132 σ132 hq132 => ?_)
          obtain ⟨rfl, y1, y2, y3, y4⟩ := hq132
          rw [zYw_0 (z := nI 0) gu rfl] at y1
          refine zw_istore8 hB dX6_whoSat_135 (by first | rfl | assumption) ?_
          refine zw_iinc7 hB dX6_whoSat_137 (by first | exact zinc _ | rfl) (by first | rfl | assumption) ?_
          refine zw_goto (tgt := 89) hB dX6_whoSat_140 (by decide) ?_
          refine ih c95 _ _ _ ?_ (by rw [y1, zu]; rfl) (ou.tr (zR3.b y4))
          rcases hv with ⟨rfl, hh⟩ | ⟨rfl, q, hq, hh⟩
          · exact Or.inr ⟨by decide, i, by omega, c115⟩
          · exact Or.inr ⟨by decide, q, by omega, hh⟩
        · refine zw_iconst (x := nI 1) hB dX6_whoSat_118 (by decide) ?_
          refine zw_goto (tgt := 123) hB dX6_whoSat_119 (by decide) ?_
          refine zw_iand hB dX6_whoSat_123 ?_
          refine zw_istore6 hB dX6_whoSat_124 (by first | rfl | assumption) ?_
          refine zw_aload0 hB dX6_whoSat_126 ?_
          refine zw_aload0 hB dX6_whoSat_127 ?_
          refine zw_getfR hB dX6_whoSat_128 zf_X6_13 rfl rfl ?_
          refine zw_iconst (x := nI 0) hB dX6_whoSat_131 (by decide) ?_
          refine zw_callV2 (M' := mX6_year) hB dX6_whoSat_132 zl_X6_84 zg_X6_year (zRc.of rfl rfl rfl) (s_X6_year (c := 52) rfl (by omega) gu _) (fun v132 σ132 hq132 => ?_)
          obtain ⟨rfl, y1, y2, y3, y4⟩ := hq132
          rw [zYw_0 (z := nI 0) gu rfl] at y1
          refine zw_istore8 hB dX6_whoSat_135 (by first | rfl | assumption) ?_
          refine zw_iinc7 hB dX6_whoSat_137 (by first | exact zinc _ | rfl) (by first | rfl | assumption) ?_
          refine zw_goto (tgt := 89) hB dX6_whoSat_140 (by decide) ?_
          refine ih c95 _ _ _ ?_ (by rw [y1, zu]; rfl) (ou.tr (zR3.b y4))
          rcases hv with ⟨rfl, hh⟩ | ⟨rfl, q, hq, hh⟩
          · refine Or.inl ⟨by decide, fun q hq => ?_⟩
            by_cases e : q = i
            · subst e; exact c115
            · exact hh q (by omega)
          · exact Or.inr ⟨by decide, q, by omega, hh⟩
    refine zw_iload5 hB dX6_whoSat_44 ?_
    refine zw_iload3 hB dX6_whoSat_46 ?_
    refine zw_if_ne (tgt := 55) hB dX6_whoSat_47 (by decide) (fun c47 => by first | exact absurd c47 (by decide) | exact absurd (by decide) c47 | omega) (fun c47 => ?_)
    refine zw_bipush (x := nI 6) hB dX6_whoSat_50 (by decide) ?_
    refine zw_goto (tgt := 57) hB dX6_whoSat_52 (by decide) ?_
    refine zw_icmp_geN (tgt := 167) hB dX6_whoSat_57 (by decide) (by omega) (by omega) (fun c57 => ?_) (fun c57 => ?_)
    · refine zw_iload4 hB dX6_whoSat_167 ?_
      refine zw_iret hB hR dX6_whoSat_169 rfl ?_
      obtain rfl : k = 6 := by omega
      refine zRQ.ok3 h e0 ?_ ou
      rw [nI_clamp (by omega), nI_clamp (by omega), zWs, if_pos rfl, ← hr0, hs]
    · refine zw_iconst (x := nI 1) hB dX6_whoSat_60 (by decide) ?_
      refine zw_istore6 hB dX6_whoSat_61 (by first | rfl | assumption) ?_
      refine zw_aload0 hB dX6_whoSat_63 ?_
      refine zw_getfR hB dX6_whoSat_64 zf_X6_9 rfl rfl ?_
      refine zw_aload0 hB dX6_whoSat_67 ?_
      refine zw_getfR hB dX6_whoSat_68 zf_X6_13 rfl rfl ?_
      refine zw_callS2 (M' := mX6_copies) hB dX6_whoSat_71 zl_X6_130 zg_X6_copies (s_X6_copies (c := 51) (d := 52) rfl rfl (by decide)) (fun v71 σ71 hq71 => ?_)
      obtain ⟨rfl, x1, x2⟩ := hq71
      refine zw_aload0 hB dX6_whoSat_74 ?_
      refine zw_getfR hB dX6_whoSat_75 zf_X6_13 rfl rfl ?_
      refine zw_iload2 hB dX6_whoSat_78 ?_
      refine zw_iload3 hB dX6_whoSat_79 ?_
      refine zw_callS2P (M' := mX6_of) hB dX6_whoSat_80 zl_X6_56 zg_X6_of (s_X6_of) ?_
      refine zw_iload5 hB dX6_whoSat_83 ?_
      refine zw_iastN hB dX6_whoSat_85 rfl (by omega) (by decide) ?_
      refine zw_iconst (x := nI 0) hB dX6_whoSat_86 (by decide) ?_
      refine zw_istore7 hB dX6_whoSat_87 (by first | rfl | assumption) ?_
      refine hin c57 0 (by omega) _ _ _ (Or.inl ⟨rfl, fun q hq => absurd hq (by omega)⟩) ?_ (ou.tr ((zR3.a x2).tr zR3.c))
      show zro _ 52 = (upd (zro σ 51) (23 + 4 * p) (nI k))
      rw [zro_set (by omega), x1, ou.ro]
      rfl
  have hl1 : ∀ f p, f0 = nI f → p0 = nI p → w0 = nI 1 → f < F → p < P → zfo (znb (zIn (nI f) F ∧ zIn (nI p) P)) (zou (nI 1) (nI 1)) (nI 0) = 0 → ∀ k, k ≤ 10 → ∀ (υ : zSt) (s : Int32) (a6 a7 a8 : Option Value), zR3 σ υ → s = zset (fun k => zgr (upd (zro σ 51) (24 + 4 * p) (nI k)) f S.2.2.2.1) k → zW X 44 [some (.ref 50), some (.int (nI f)), some (.int (nI p)), some (.int (nI 1)), some (.int s), some (.int (nI k)), a6, a7, a8] [] υ := by
    rintro f p rfl rfl rfl hf hp e0
    refine zfor 10 (fun k hkN0 ihk => ?_)
    intro υ s a6 a7 a8 ou hs
    have hin : k < 10 → ∀ i, i ≤ S.2.2.2.1.length → ∀ (υ : zSt) (v : Int32) (a8 : Option Value), ((v = nI 1 ∧ (∀ q, q < i → zgn (zYs (upd (zro σ 51) (24 + 4 * p) (nI k)) q) f = S.2.2.2.1.getD q 0)) ∨ (v = nI 0 ∧ ∃ q, q < i ∧ ¬ zgn (zYs (upd (zro σ 51) (24 + 4 * p) (nI k)) q) f = S.2.2.2.1.getD q 0)) → zro υ 52 = zYs (upd (zro σ 51) (24 + 4 * p) (nI k)) i → zR3 σ υ → zW X 89 [some (.ref 50), some (.int (nI f)), some (.int (nI p)), some (.int (nI 1)), some (.int s), some (.int (nI k)), some (.int v), some (.int (nI i)), a8] [] υ := by
      intro hkN
      refine zfor S.2.2.2.1.length (fun i hi ih => ?_)
      intro υ v a8 hv zu ou
      have hl16 := hrw.1
      have gu : zGd (zro υ 52) F P := by rw [zu]; exact zGd_Ys (by have g1 := zGd_kf (w := 1) (k := k) hg hp (by omega); rw [show 23 + 4 * p + 1 = 24 + 4 * p by omega] at g1; exact g1) i
      refine zw_iload7 hB dX6_whoSat_89 ?_
      refine zw_aload0 hB dX6_whoSat_91 ?_
      refine zw_getfV (x := nI S.2.2.2.1.length) hB dX6_whoSat_92 zf_X6_185 rfl rfl ((congrFun (ou 50 (by omega) (by omega) (by omega) (by omega)) 11).trans h.2.2.2.1.1) ?_
      refine zw_icmp_geN (tgt := 143) hB dX6_whoSat_95 (by decide) (by omega) (by omega) (fun c95 => ?_) (fun c95 => ?_)
      · refine zw_iload4 hB dX6_whoSat_143 ?_
        refine zw_iload6 hB dX6_whoSat_145 ?_
        refine zw_if_eq (tgt := 157) hB dX6_whoSat_147 (by decide) (fun c147 => ?_) (fun c147 => ?_)
        · refine zw_iconst (x := nI 0) hB dX6_whoSat_157 (by decide) ?_
          refine zw_ior hB dX6_whoSat_158 ?_
          refine zw_istore4 hB dX6_whoSat_159 (by first | rfl | assumption) ?_
          refine zw_iinc5 hB dX6_whoSat_161 (by first | exact zinc _ | rfl) (by first | rfl | assumption) ?_
          refine zw_goto (tgt := 44) hB dX6_whoSat_164 (by decide) ?_
          refine ihk hkN _ _ _ _ _ ou ?_
          rw [hs, zset, if_neg (by
            rcases hv with ⟨rfl, _⟩ | ⟨_, q, hq, hh⟩
            · exact absurd c147 (by decide)
            · exact zgr_f (by omega) hh)]
        · refine zw_iconst (x := nI 1) hB dX6_whoSat_150 (by decide) ?_
          refine zw_iload5 hB dX6_whoSat_151 ?_
          refine zw_ishl hB dX6_whoSat_153 ?_
          refine zw_goto (tgt := 158) hB dX6_whoSat_154 (by decide) ?_
          refine zw_ior hB dX6_whoSat_158 ?_
          refine zw_istore4 hB dX6_whoSat_159 (by first | rfl | assumption) ?_
          refine zw_iinc5 hB dX6_whoSat_161 (by first | exact zinc _ | rfl) (by first | rfl | assumption) ?_
          refine zw_goto (tgt := 44) hB dX6_whoSat_164 (by decide) ?_
          refine ihk hkN _ _ _ _ _ ou ?_
          rw [hs, zset, if_pos (by
            rcases hv with ⟨_, hh⟩ | ⟨rfl, _⟩
            · exact zgr_t (fun q hq => hh q (by omega))
            · exact absurd nI_0 c147)]
      · refine zw_iload6 hB dX6_whoSat_98 ?_
        refine zw_aload0 hB dX6_whoSat_100 ?_
        refine zw_getfR hB dX6_whoSat_101 zf_X6_13 rfl rfl ?_
        refine zw_iload1 hB dX6_whoSat_104 ?_
        refine zw_callS2P (M' := mX6_green) hB dX6_whoSat_105 zl_X6_88 zg_X6_green (s_X6_green (c := 52) rfl (by omega)) ?_
        rw [zu]
        refine zw_aload0 hB dX6_whoSat_108 ?_
        refine zw_getfR hB dX6_whoSat_109 zf_X6_31 rfl rfl ?_
        refine zw_iload7 hB dX6_whoSat_112 ?_
        refine zw_ialdV (x := S.2.2.2.1.getD i 0) hB dX6_whoSat_114 rfl (by omega) (by decide) (by rw [ou 58 (by omega) (by omega) (by omega) (by omega)]; exact h.2.2.2.1.2 i c95) ?_
        refine zw_icmp_ne (tgt := 122) hB dX6_whoSat_115 (by decide) (fun c115 => ?_) (fun c115 => ?_)
        · refine zw_iconst (x := nI 0) hB dX6_whoSat_122 (by decide) ?_
          refine zw_iand hB dX6_whoSat_123 ?_
          refine zw_istore6 hB dX6_whoSat_124 (by first | rfl | assumption) ?_
          refine zw_aload0 hB dX6_whoSat_126 ?_
          refine zw_aload0 hB dX6_whoSat_127 ?_
          refine zw_getfR hB dX6_whoSat_128 zf_X6_13 rfl rfl ?_
          refine zw_iconst (x := nI 0) hB dX6_whoSat_131 (by decide) ?_
          refine zw_callV2 (M' := mX6_year) hB dX6_whoSat_132 zl_X6_84 zg_X6_year (zRc.of rfl rfl rfl) (s_X6_year (c := 52) rfl (by omega) gu _) (fun v132 σ132 hq132 => ?_)
          obtain ⟨rfl, y1, y2, y3, y4⟩ := hq132
          rw [zYw_0 (z := nI 0) gu rfl] at y1
          refine zw_istore8 hB dX6_whoSat_135 (by first | rfl | assumption) ?_
          refine zw_iinc7 hB dX6_whoSat_137 (by first | exact zinc _ | rfl) (by first | rfl | assumption) ?_
          refine zw_goto (tgt := 89) hB dX6_whoSat_140 (by decide) ?_
          refine ih c95 _ _ _ ?_ (by rw [y1, zu]; rfl) (ou.tr (zR3.b y4))
          rcases hv with ⟨rfl, hh⟩ | ⟨rfl, q, hq, hh⟩
          · exact Or.inr ⟨by decide, i, by omega, c115⟩
          · exact Or.inr ⟨by decide, q, by omega, hh⟩
        · refine zw_iconst (x := nI 1) hB dX6_whoSat_118 (by decide) ?_
          refine zw_goto (tgt := 123) hB dX6_whoSat_119 (by decide) ?_
          refine zw_iand hB dX6_whoSat_123 ?_
          refine zw_istore6 hB dX6_whoSat_124 (by first | rfl | assumption) ?_
          refine zw_aload0 hB dX6_whoSat_126 ?_
          refine zw_aload0 hB dX6_whoSat_127 ?_
          refine zw_getfR hB dX6_whoSat_128 zf_X6_13 rfl rfl ?_
          refine zw_iconst (x := nI 0) hB dX6_whoSat_131 (by decide) ?_
          refine zw_callV2 (M' := mX6_year) hB dX6_whoSat_132 zl_X6_84 zg_X6_year (zRc.of rfl rfl rfl) (s_X6_year (c := 52) rfl (by omega) gu _) (fun v132 σ132 hq132 => ?_)
          obtain ⟨rfl, y1, y2, y3, y4⟩ := hq132
          rw [zYw_0 (z := nI 0) gu rfl] at y1
          refine zw_istore8 hB dX6_whoSat_135 (by first | rfl | assumption) ?_
          refine zw_iinc7 hB dX6_whoSat_137 (by first | exact zinc _ | rfl) (by first | rfl | assumption) ?_
          refine zw_goto (tgt := 89) hB dX6_whoSat_140 (by decide) ?_
          refine ih c95 _ _ _ ?_ (by rw [y1, zu]; rfl) (ou.tr (zR3.b y4))
          rcases hv with ⟨rfl, hh⟩ | ⟨rfl, q, hq, hh⟩
          · refine Or.inl ⟨by decide, fun q hq => ?_⟩
            by_cases e : q = i
            · subst e; exact c115
            · exact hh q (by omega)
          · exact Or.inr ⟨by decide, q, by omega, hh⟩
    refine zw_iload5 hB dX6_whoSat_44 ?_
    refine zw_iload3 hB dX6_whoSat_46 ?_
    refine zw_if_ne (tgt := 55) hB dX6_whoSat_47 (by decide) (fun c47 => ?_) (fun c47 => by first | exact absurd (by decide) c47 | exact absurd c47 (by decide) | omega)
    refine zw_bipush (x := nI 10) hB dX6_whoSat_55 (by decide) ?_
    refine zw_icmp_geN (tgt := 167) hB dX6_whoSat_57 (by decide) (by omega) (by omega) (fun c57 => ?_) (fun c57 => ?_)
    · refine zw_iload4 hB dX6_whoSat_167 ?_
      refine zw_iret hB hR dX6_whoSat_169 rfl ?_
      obtain rfl : k = 10 := by omega
      refine zRQ.ok3 h e0 ?_ ou
      rw [nI_clamp (by omega), nI_clamp (by omega), zWs, if_neg (by decide), ← hr0, hs]
    · refine zw_iconst (x := nI 1) hB dX6_whoSat_60 (by decide) ?_
      refine zw_istore6 hB dX6_whoSat_61 (by first | rfl | assumption) ?_
      refine zw_aload0 hB dX6_whoSat_63 ?_
      refine zw_getfR hB dX6_whoSat_64 zf_X6_9 rfl rfl ?_
      refine zw_aload0 hB dX6_whoSat_67 ?_
      refine zw_getfR hB dX6_whoSat_68 zf_X6_13 rfl rfl ?_
      refine zw_callS2 (M' := mX6_copies) hB dX6_whoSat_71 zl_X6_130 zg_X6_copies (s_X6_copies (c := 51) (d := 52) rfl rfl (by decide)) (fun v71 σ71 hq71 => ?_)
      obtain ⟨rfl, x1, x2⟩ := hq71
      refine zw_aload0 hB dX6_whoSat_74 ?_
      refine zw_getfR hB dX6_whoSat_75 zf_X6_13 rfl rfl ?_
      refine zw_iload2 hB dX6_whoSat_78 ?_
      refine zw_iload3 hB dX6_whoSat_79 ?_
      refine zw_callS2P (M' := mX6_of) hB dX6_whoSat_80 zl_X6_56 zg_X6_of (s_X6_of) ?_
      refine zw_iload5 hB dX6_whoSat_83 ?_
      refine zw_iastN hB dX6_whoSat_85 rfl (by omega) (by decide) ?_
      refine zw_iconst (x := nI 0) hB dX6_whoSat_86 (by decide) ?_
      refine zw_istore7 hB dX6_whoSat_87 (by first | rfl | assumption) ?_
      refine hin c57 0 (by omega) _ _ _ (Or.inl ⟨rfl, fun q hq => absurd hq (by omega)⟩) ?_ (ou.tr ((zR3.a x2).tr zR3.c))
      show zro _ 52 = (upd (zro σ 51) (24 + 4 * p) (nI k))
      rw [zro_set (by omega), x1, ou.ro]
      exact congrArg (fun z => upd (zro σ 51) z (nI k)) (by omega)
  refine zw_aload0 hB dX6_whoSat_0 ?_
  refine zw_iload1 hB dX6_whoSat_1 ?_
  refine zw_callV1P (M' := mX6_isFarm) hB dX6_whoSat_2 zl_X6_117 zg_X6_isFarm (zRc.of rfl rfl rfl) (s_X6_isFarm hF hF6 _) ?_
  refine zw_if_eqB (tgt := 16) hB dX6_whoSat_5 (by decide) (fun c5 => ?_) (fun c5 => ?_)
  · refine zw_aload0 hB dX6_whoSat_16 ?_
    refine zw_iconst (x := -1) hB dX6_whoSat_17 (by decide) ?_
    refine zw_callV1 (M' := mX6_no) hB dX6_whoSat_18 zl_X6_48 zg_X6_no (zRc.of rfl rfl rfl) (s_X6_no (k := 1) _ (by decide) (by omega)) (fun v18 σ18 hq18 => ?_)
    obtain ⟨rfl, rfl⟩ := hq18
    refine zw_iret hB hR dX6_whoSat_21 rfl ?_
    rw [show zfo (znb (zIn f0 F ∧ zIn p0 P)) (zou w0 (nI 1)) (nI 0) = -1 from zfo_1 (fun z => c5 z.1)]
    exact zRQ.no h (by decide) (by omega) (by decide)
  · refine zw_aload0 hB dX6_whoSat_8 ?_
    refine zw_iload2 hB dX6_whoSat_9 ?_
    refine zw_callV1P (M' := mX6_isFarmer) hB dX6_whoSat_10 zl_X6_113 zg_X6_isFarmer (zRc.of rfl rfl rfl) (s_X6_isFarmer hP hP6 _) ?_
    refine zw_if_neB (tgt := 22) hB dX6_whoSat_13 (by decide) (fun c13 => ?_) (fun c13 => ?_)
    · refine zw_iload3 hB dX6_whoSat_22 ?_
      refine zw_iconst (x := nI 0) hB dX6_whoSat_23 (by decide) ?_
      refine zw_iconst (x := nI 1) hB dX6_whoSat_24 (by decide) ?_
      refine zw_callS3P (M' := mX6_isIn) hB dX6_whoSat_25 zl_X6_52 zg_X6_isIn (s_X6_isIn _ _ _) ?_
      refine zw_if_neB (tgt := 38) hB dX6_whoSat_28 (by decide) (fun c28 => ?_) (fun c28 => ?_)
      · obtain ⟨z1, z2⟩ : zIn f0 F ∧ zIn p0 P := ⟨c5, c13⟩
        obtain ⟨f, hf, rfl⟩ := zIn_j (by omega) z1
        obtain ⟨p, hp, rfl⟩ := zIn_j (by omega) z2
        obtain ⟨j, hj, rfl⟩ := zIn_j (n := 2) (by omega) ((zis (by omega)).mp c28)
        have e0 : zfo (znb (zIn (nI f) F ∧ zIn (nI p) P)) (zou (nI j) (nI 1)) (nI 0) = 0 := (zfo_2 ⟨c5, c13⟩).trans (zou_t (m := 1) (by omega) c28)
        have j2 : j = 0 ∨ j = 1 := by omega
        rcases j2 with rfl | rfl
        · refine zw_iconst (x := nI 0) hB dX6_whoSat_38 (by decide) ?_
          refine zw_istore4 hB dX6_whoSat_39 (by first | rfl | assumption) ?_
          refine zw_iconst (x := nI 0) hB dX6_whoSat_41 (by decide) ?_
          refine zw_istore5 hB dX6_whoSat_42 (by first | rfl | assumption) ?_
          exact hl0 f p rfl rfl rfl hf hp e0 0 (by omega) _ _ _ _ _ zR3.rf rfl
        · refine zw_iconst (x := nI 0) hB dX6_whoSat_38 (by decide) ?_
          refine zw_istore4 hB dX6_whoSat_39 (by first | rfl | assumption) ?_
          refine zw_iconst (x := nI 0) hB dX6_whoSat_41 (by decide) ?_
          refine zw_istore5 hB dX6_whoSat_42 (by first | rfl | assumption) ?_
          exact hl1 f p rfl rfl rfl hf hp e0 0 (by omega) _ _ _ _ _ zR3.rf rfl
      · refine zw_aload0 hB dX6_whoSat_31 ?_
        refine zw_bipush (x := -2) hB dX6_whoSat_32 (by decide) ?_
        refine zw_callV1 (M' := mX6_no) hB dX6_whoSat_34 zl_X6_48 zg_X6_no (zRc.of rfl rfl rfl) (s_X6_no (k := 2) _ (by decide) (by omega)) (fun v34 σ34 hq34 => ?_)
        obtain ⟨rfl, rfl⟩ := hq34
        refine zw_iret hB hR dX6_whoSat_37 rfl ?_
        rw [show zfo (znb (zIn f0 F ∧ zIn p0 P)) (zou w0 (nI 1)) (nI 0) = -2 from (zfo_2 ⟨c5, c13⟩).trans (zou_f (m := 1) (by omega) c28)]
        exact zRQ.no h (by decide) (by omega) (by decide)
    · refine zw_aload0 hB dX6_whoSat_16 ?_
      refine zw_iconst (x := -1) hB dX6_whoSat_17 (by decide) ?_
      refine zw_callV1 (M' := mX6_no) hB dX6_whoSat_18 zl_X6_48 zg_X6_no (zRc.of rfl rfl rfl) (s_X6_no (k := 1) _ (by decide) (by omega)) (fun v18 σ18 hq18 => ?_)
      obtain ⟨rfl, rfl⟩ := hq18
      refine zw_iret hB hR dX6_whoSat_21 rfl ?_
      rw [show zfo (znb (zIn f0 F ∧ zIn p0 P)) (zou w0 (nI 1)) (nI 0) = -1 from zfo_1 (fun z => c13 z.2)]
      exact zRQ.no h (by decide) (by omega) (by decide)
theorem s_X6_judge {n : Nat} {σ : zSt} {S : zS} (hS : zOk S) (h : zRW S σ)  : zSem (n + 4) mX6_judge [.ref 50] σ (zRQ (q_judge S ) σ) := by
  obtain ⟨⟨⟨F, P, hg0⟩, y0, hy0, ey0⟩, hkp, hlt, hrw⟩ := id hS
  have hnF := hg0.nF
  have hnP := hg0.nP
  have hr0 := h.1
  have hg : zGd (zro σ 51) F P := by rw [hr0]; exact hg0
  have hF6 := hg.F6
  have hP6 := hg.P6
  have hF : σ 51 0 = nI F := (zro_k (by omega)).symm.trans hg.r0
  have hP : σ 51 1 = nI P := (zro_k (by omega)).symm.trans hg.r1
  unfold q_judge
  try rw [hnF]
  try rw [hnP]
  refine zSem.of (by decide +kernel) (Nat.le_of_ble_eq_true rfl) (fun X hB hR => ?_)
  show zW X 0 [some (.ref 50), none, none] [] σ
  have hl16 := hrw.1
  have h1 : zRW (S.1, S.2.1, S.2.2.1, [], S.2.2.2.2) (zC σ 50 (upd (σ 50) 11 (nI 0))) := by
    refine h.rowL (fun k hk => ?_) (fun c h0 _ => zC_n h0) ?_ zArr.nil
    · rw [zC_s]; exact zupd_o hk
    · rw [zC_s]; exact zupd_s
  have hl : ∀ i, i ≤ S.2.2.2.1.length → ∀ υ : zSt, zR3 (zC σ 50 (upd (σ 50) 11 (nI 0))) υ → zro υ 52 = zYs (zro σ 51) i → zJu (zro σ 51) P S.2.2.2.1 = zfst (fun i => decide (¬ zAl (zYs (zro σ 51) i) P = S.2.2.2.1.getD i 0)) i (S.2.2.2.1.length - i) → zW X 23 [some (.ref 50), some (.int (nI S.2.2.2.1.length)), some (.int (nI i))] [] υ := by
    refine zfor S.2.2.2.1.length (fun i hi ih => ?_)
    intro υ ou zu hq
    have gu : zGd (zro υ 52) F P := by rw [zu]; exact zGd_Ys hg i
    refine zw_iload2 hB dX6_judge_23 ?_
    refine zw_iload1 hB dX6_judge_24 ?_
    refine zw_icmp_geN (tgt := 54) hB dX6_judge_25 (by decide) (by omega) (by omega) (fun c25 => ?_) (fun c25 => ?_)
    · refine zw_bipush (x := -9) hB dX6_judge_54 (by decide) ?_
      refine zw_iret hB hR dX6_judge_56 rfl ?_
      have e9 : zJu (zro σ 51) P S.2.2.2.1 = none := by rw [hq]; exact zfst_e (by omega)
      refine ⟨by rw [← hr0, e9]; rfl, h1.keep (by rw [ou 50 (by omega) (by omega) (by omega) (by omega)]; exact ⟨rfl, rfl, rfl⟩) (fun c hc => ou c (by omega) (by omega) (by omega) (by omega)), fun c hc => by rw [ou c (by omega) (by omega) (by omega) (by omega), zC_n (by omega)]⟩
    · refine zw_aload0 hB dX6_judge_28 ?_
      refine zw_aload0 hB dX6_judge_29 ?_
      refine zw_getfR hB dX6_judge_30 zf_X6_13 rfl rfl ?_
      refine zw_iconst (x := nI 0) hB dX6_judge_33 (by decide) ?_
      refine zw_callV2 (M' := mX6_year) hB dX6_judge_34 zl_X6_84 zg_X6_year (zRc.of rfl rfl rfl) (s_X6_year (c := 52) rfl (by omega) gu _) (fun v34 σ34 hq34 => ?_)
      obtain ⟨rfl, y1, y2, y3, y4⟩ := hq34
      rw [show zsum (zgz (zro υ 52) (nI 0)) P = zAl (zYs (zro σ 51) i) P by rw [zu]; exact zsum_gz0]
      rw [zYw_0 (z := nI 0) gu rfl] at y1
      refine zw_aload0 hB dX6_judge_37 ?_
      refine zw_getfR hB dX6_judge_38 zf_X6_31 rfl rfl ?_
      refine zw_iload2 hB dX6_judge_41 ?_
      refine zw_ialdV (x := S.2.2.2.1.getD i 0) hB dX6_judge_42 rfl (by omega) (by decide) (by rw [y4 58 (by omega) (by omega) (by omega), ou 58 (by omega) (by omega) (by omega) (by omega), zC_n (by omega)]; exact h.2.2.2.1.2 i c25) ?_
      refine zw_icmp_eq (tgt := 48) hB dX6_judge_43 (by decide) (fun c43 => ?_) (fun c43 => ?_)
      · refine zw_iinc2 hB dX6_judge_48 (by first | exact zinc _ | rfl) (by first | rfl | assumption) ?_
        refine zw_goto (tgt := 23) hB dX6_judge_51 (by decide) ?_
        exact ih c25 _ (ou.tr (zR3.b y4)) (by rw [y1, zu]; rfl) (by rw [hq, zfst_s c25, if_neg (by rw [decide_eq_true_eq]; exact fun z => z c43)])
      · refine zw_iload2 hB dX6_judge_46 ?_
        refine zw_iret hB hR dX6_judge_47 rfl ?_
        have e9 : zJu (zro σ 51) P S.2.2.2.1 = some i := by rw [hq, zfst_s c25, if_pos (decide_eq_true c43)]
        have o9 := ou.tr (zR3.b y4)
        refine ⟨by rw [← hr0, e9]; rfl, h1.keep (by rw [o9 50 (by omega) (by omega) (by omega) (by omega)]; exact ⟨rfl, rfl, rfl⟩) (fun c hc => o9 c (by omega) (by omega) (by omega) (by omega)), fun c hc => by rw [o9 c (by omega) (by omega) (by omega) (by omega), zC_n (by omega)]⟩
  refine zw_aload0 hB dX6_judge_0 ?_
  refine zw_getfV (x := nI S.2.2.2.1.length) hB dX6_judge_1 zf_X6_185 rfl rfl (h.2.2.2.1.1) ?_
  refine zw_istore1 hB dX6_judge_4 (by first | rfl | assumption) ?_
  refine zw_aload0 hB dX6_judge_5 ?_
  refine zw_iconst (x := nI 0) hB dX6_judge_6 (by decide) ?_
  refine zw_putfI hB dX6_judge_7 zfw_X6_185 rfl rfl ?_
  refine zw_aload0 hB dX6_judge_10 ?_
  refine zw_getfR hB dX6_judge_11 zf_X6_9 rfl rfl ?_
  refine zw_aload0 hB dX6_judge_14 ?_
  refine zw_getfR hB dX6_judge_15 zf_X6_13 rfl rfl ?_
  refine zw_callS2 (M' := mX6_copies) hB dX6_judge_18 zl_X6_130 zg_X6_copies (s_X6_copies (c := 51) (d := 52) rfl rfl (by decide)) (fun v18 σ18 hq18 => ?_)
  obtain ⟨rfl, x1, x2⟩ := hq18
  refine zw_iconst (x := nI 0) hB dX6_judge_21 (by decide) ?_
  refine zw_istore2 hB dX6_judge_22 (by first | rfl | assumption) ?_
  exact hl 0 (by omega) _ (zR3.a x2) (by rw [x1]; exact zro_n (by omega)) rfl
theorem s_X6_count {n : Nat} {σ : zSt} {S : zS} (hS : zOk S) (h : zRW S σ) (w : Int32) : zSem (n + 3) mX6_count [.ref 50, .int w] σ (zRQ (q_count S w) σ) := by
  obtain ⟨⟨⟨F, P, hg0⟩, y0, hy0, ey0⟩, hkp, hlt, hrw⟩ := id hS
  have hnF := hg0.nF
  have hnP := hg0.nP
  have hr0 := h.1
  have hg : zGd (zro σ 51) F P := by rw [hr0]; exact hg0
  have hF6 := hg.F6
  have hP6 := hg.P6
  have hF : σ 51 0 = nI F := (zro_k (by omega)).symm.trans hg.r0
  have hP : σ 51 1 = nI P := (zro_k (by omega)).symm.trans hg.r1
  unfold q_count
  try rw [hnF]
  try rw [hnP]
  refine zSem.of (by decide +kernel) (Nat.le_of_ble_eq_true rfl) (fun X hB hR => ?_)
  show zW X 0 [some (.ref 50), some (.int w)] [] σ
  refine zw_iload1 hB dX6_count_0 ?_
  refine zw_bipush (x := nI 11) hB dX6_count_1 (by decide) ?_
  refine zw_bipush (x := nI 16) hB dX6_count_3 (by decide) ?_
  refine zw_callS3P (M' := mX6_isIn) hB dX6_count_5 zl_X6_52 zg_X6_isIn (s_X6_isIn _ _ _) ?_
  refine zw_if_eqB (tgt := 21) hB dX6_count_8 (by decide) (fun c8 => ?_) (fun c8 => ?_)
  · refine zw_iload1 hB dX6_count_21 ?_
    rcases zix w 8 (by omega) with q | ⟨q, hq, rfl⟩
    · have hout : w.toInt < 0 ∨ 7 < w.toInt := by
        rcases q with q | ⟨-, q⟩
        · exact Or.inl (Int32.lt_iff_toInt_lt.mp q)
        · have := Int32.le_iff_toInt_le.mp q
          rw [nI_toInt (by omega)] at this
          exact Or.inr (by omega)
      have hn : ∀ i, i < 8 → ¬ w = nI i := by
        rintro i hi rfl
        rcases q with q | ⟨-, q⟩
        · exact nI_pos (by omega) q
        · exact absurd ((nI_leI (by omega) (by omega)).mp q) (by omega)
      refine zw_tabOut (tgt := 121) hB dX6_count_22 hout (by decide) ?_
      refine zw_bipush (x := -9) hB dX6_count_121 (by decide) ?_
      refine zw_iret hB hR dX6_count_123 rfl ?_
      refine zRQ.ok4 h ?_ zR3.rf
      unfold a_count
      rw [if_neg c8, if_neg (hn 0 (by omega)), if_neg (hn 1 (by omega)), if_neg (hn 2 (by omega)), if_neg (hn 3 (by omega)), if_neg (hn 4 (by omega)), if_neg (hn 5 (by omega)), if_neg (hn 6 (by omega)), if_neg (hn 7 (by omega))]
    · have q8 : q = 0 ∨ q = 1 ∨ q = 2 ∨ q = 3 ∨ q = 4 ∨ q = 5 ∨ q = 6 ∨ q = 7 := by omega
      rcases q8 with rfl | rfl | rfl | rfl | rfl | rfl | rfl | rfl
      · refine zw_tabIn (off := 46) (tgt := 68) hB dX6_count_22 (by decide) (by decide) (by decide) (by decide) ?_
        refine zw_aload0 hB dX6_count_68 ?_
        refine zw_getfR hB dX6_count_69 zf_X6_9 rfl rfl ?_
        refine zw_iconst (x := nI 0) hB dX6_count_72 (by decide) ?_
        refine zw_ialdV (x := S.1 0) hB dX6_count_73 rfl (by omega) (by decide) (by rw [← hr0]; exact (zro_k (by omega)).symm) ?_
        refine zw_iret hB hR dX6_count_74 rfl ?_
        refine zRQ.ok4 h ?_ zR3.rf
        unfold a_count
        rw [if_neg c8, if_pos rfl]
      · refine zw_tabIn (off := 53) (tgt := 75) hB dX6_count_22 (by decide) (by decide) (by decide) (by decide) ?_
        refine zw_aload0 hB dX6_count_75 ?_
        refine zw_getfR hB dX6_count_76 zf_X6_9 rfl rfl ?_
        refine zw_iconst (x := nI 1) hB dX6_count_79 (by decide) ?_
        refine zw_ialdV (x := S.1 1) hB dX6_count_80 rfl (by omega) (by decide) (by rw [← hr0]; exact (zro_k (by omega)).symm) ?_
        refine zw_iret hB hR dX6_count_81 rfl ?_
        refine zRQ.ok4 h ?_ zR3.rf
        unfold a_count
        rw [if_neg c8, if_neg (by decide), if_pos rfl]
      · refine zw_tabIn (off := 60) (tgt := 82) hB dX6_count_22 (by decide) (by decide) (by decide) (by decide) ?_
        refine zw_aload0 hB dX6_count_82 ?_
        refine zw_getfR hB dX6_count_83 zf_X6_9 rfl rfl ?_
        refine zw_iconst (x := nI 4) hB dX6_count_86 (by decide) ?_
        refine zw_ialdV (x := S.1 4) hB dX6_count_87 rfl (by omega) (by decide) (by rw [← hr0]; exact (zro_k (by omega)).symm) ?_
        refine zw_iret hB hR dX6_count_88 rfl ?_
        refine zRQ.ok4 h ?_ zR3.rf
        unfold a_count
        rw [if_neg c8, if_neg (by decide), if_neg (by decide), if_pos rfl]
      · refine zw_tabIn (off := 67) (tgt := 89) hB dX6_count_22 (by decide) (by decide) (by decide) (by decide) ?_
        refine zw_aload0 hB dX6_count_89 ?_
        refine zw_getfR hB dX6_count_90 zf_X6_9 rfl rfl ?_
        refine zw_iconst (x := nI 2) hB dX6_count_93 (by decide) ?_
        refine zw_ialdV (x := S.1 2) hB dX6_count_94 rfl (by omega) (by decide) (by rw [← hr0]; exact (zro_k (by omega)).symm) ?_
        refine zw_iret hB hR dX6_count_95 rfl ?_
        refine zRQ.ok4 h ?_ zR3.rf
        unfold a_count
        rw [if_neg c8, if_neg (by decide), if_neg (by decide), if_neg (by decide), if_pos rfl]
      · refine zw_tabIn (off := 74) (tgt := 96) hB dX6_count_22 (by decide) (by decide) (by decide) (by decide) ?_
        refine zw_aload0 hB dX6_count_96 ?_
        refine zw_getfR hB dX6_count_97 zf_X6_9 rfl rfl ?_
        refine zw_iconst (x := nI 3) hB dX6_count_100 (by decide) ?_
        refine zw_ialdV (x := S.1 3) hB dX6_count_101 rfl (by omega) (by decide) (by rw [← hr0]; exact (zro_k (by omega)).symm) ?_
        refine zw_iret hB hR dX6_count_102 rfl ?_
        refine zRQ.ok4 h ?_ zR3.rf
        unfold a_count
        rw [if_neg c8, if_neg (by decide), if_neg (by decide), if_neg (by decide), if_neg (by decide), if_pos rfl]
      · refine zw_tabIn (off := 81) (tgt := 103) hB dX6_count_22 (by decide) (by decide) (by decide) (by decide) ?_
        refine zw_aload0 hB dX6_count_103 ?_
        refine zw_getfR hB dX6_count_104 zf_X6_9 rfl rfl ?_
        refine zw_callS1P (M' := mX6_greenAll) hB dX6_count_107 zl_X6_182 zg_X6_greenAll (s_X6_greenAll (c := 51) rfl hF hF6) ?_
        refine zw_iret hB hR dX6_count_110 rfl ?_
        refine zRQ.ok4 h ?_ zR3.rf
        unfold a_count
        rw [if_neg c8, if_neg (by decide), if_neg (by decide), if_neg (by decide), if_neg (by decide), if_neg (by decide), if_pos rfl, hnF, ← hr0]
      · refine zw_tabIn (off := 89) (tgt := 111) hB dX6_count_22 (by decide) (by decide) (by decide) (by decide) ?_
        refine zw_aload0 hB dX6_count_111 ?_
        refine zw_getfV (x := nI S.2.2.2.1.length) hB dX6_count_112 zf_X6_185 rfl rfl (h.2.2.2.1.1) ?_
        refine zw_iret hB hR dX6_count_115 rfl ?_
        refine zRQ.ok4 h ?_ zR3.rf
        unfold a_count
        rw [if_neg c8, if_neg (by decide), if_neg (by decide), if_neg (by decide), if_neg (by decide), if_neg (by decide), if_neg (by decide), if_pos rfl]
      · refine zw_tabIn (off := 94) (tgt := 116) hB dX6_count_22 (by decide) (by decide) (by decide) (by decide) ?_
        refine zw_aload0 hB dX6_count_116 ?_
        refine zw_getfV (x := nI S.2.2.1.length) hB dX6_count_117 zf_X6_91 rfl rfl (h.2.2.1.1) ?_
        refine zw_iret hB hR dX6_count_120 rfl ?_
        refine zRQ.ok4 h ?_ zR3.rf
        unfold a_count
        rw [if_neg c8, if_neg (by decide), if_neg (by decide), if_neg (by decide), if_neg (by decide), if_neg (by decide), if_neg (by decide), if_neg (by decide), if_pos rfl]
  · obtain ⟨i, hi1, hi2, rfl⟩ := zcnt.mp c8
    refine zw_aload0 hB dX6_count_11 ?_
    refine zw_getfR hB dX6_count_12 zf_X6_34 rfl rfl ?_
    refine zw_iload1 hB dX6_count_15 ?_
    refine zw_bipush (x := nI 10) hB dX6_count_16 (by decide) ?_
    refine zw_isubN hB dX6_count_18 (by omega) ?_
    refine zw_ialdV (x := S.2.2.2.2 (i - 10)) hB dX6_count_19 rfl (by omega) (by decide) (h.2.2.2.2 (i - 10) (by omega)) ?_
    refine zw_iret hB hR dX6_count_20 rfl ?_
    refine zRQ.ok4 h ?_ zR3.rf
    unfold a_count
    rw [if_pos c8, nI_clamp (by omega)]
