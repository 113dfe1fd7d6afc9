/-! LOTS: both -/
def zs1 (z : Int32) : Int32 := z * 1664525 + 1013904223
def zsn (z : Int32) : Nat → Int32
  | 0 => z
  | i + 1 => zs1 (zsn z i)
def zdr (z : Int32) : Int32 := nI ((zs1 z &&& 2147483647).toNatClampNeg / 256 % 31)
theorem zs1_and (z : Int32) : ∃ j : Nat, j < 2 ^ 31 ∧ z &&& 2147483647 = nI j := pk_andE z 31 (by decide)
theorem zsn_add (z : Int32) (a b : Nat) : zsn z (a + b) = zsn (zsn z a) b := by
  induction b with
  | zero => rfl
  | succ b ih => exact congrArg zs1 ih
/-- k hearts drawn -/
def zLk (r : zRw) (s : Int32) (k : Nat) : zRw := fun q => if 5 ≤ q ∧ q < 5 + k then zdr (zsn s (q - 5)) else r q
theorem zLk_0 (r : zRw) (s : Int32) : zLk r s 0 = r := by
  funext q
  unfold zLk
  rw [if_neg (by omega)]
theorem zLk_o {r : zRw} {s : Int32} {k q : Nat} (h : ¬ (5 ≤ q ∧ q < 5 + k)) : zLk r s k q = r q := if_neg h
theorem zLk_s {r : zRw} {s : Int32} {k : Nat} : upd (zLk r s k) (5 + k) (zdr (zsn s k)) = zLk r s (k + 1) := by
  funext q
  by_cases e : q = 5 + k
  · subst e
    rw [zupd_s]
    unfold zLk
    rw [if_pos (by omega), show 5 + k - 5 = k by omega]
  · rw [zupd_o e]
    unfold zLk
    by_cases c : 5 ≤ q ∧ q < 5 + k
    · rw [if_pos c, if_pos (by omega)]
    · rw [if_neg c, if_neg (by omega)]
theorem zGd_Lk {r : zRw} {F P k : Nat} {s : Int32} (h : zGd r F P) (hk : k ≤ 18) : zGd (zLk r s k) F P := by
  refine h.ofS (fun q hq => zLk_o (by omega)) (by rw [zLk_o (by omega)]; exact h.r3) (fun q hq => ?_) (fun p hp => ⟨zLk_o (by omega), zLk_o (by omega)⟩) (fun p hp => by rw [zLk_o (by omega)]; exact h.td hp) (fun p hp => zLk_o (by omega)) (fun q hq => by rw [zLk_o (by omega)]; exact h.out hq)
  by_cases c : 5 ≤ 5 + q ∧ 5 + q < 5 + k
  · unfold zLk
    rw [if_pos c]
    exact ⟨_, by omega, rfl⟩
  · rw [zLk_o c]; exact h.ht hq
/-- what one hundred gives, from seed s -/
def zLh (r : zRw) (F P : Nat) (w s : Int32) : Int32 := if w = nI 0 then zGs (zLk r s (3 * F)) P 10 else zsum (zgn (zYs (zLk r s (3 * F)) 10)) F
def zLs (r : zRw) (F P : Nat) (w z : Int32) : Nat → Int32
  | 0 => nI 0
  | i + 1 => zLs r F P w z i + zLh r F P w (zsn z (3 * F * i))
def q_lots (S : zS) (n z w : Int32) : Value × zS := zq S (zfo (zir n (nI 1) (nI 20)) (zou w (nI 1)) (nI 0)) (.int (zLs S.1 (zNF S.1) (zNP S.1) w z n.toNatClampNeg), S)

theorem s_X3_draw {n : Nat} {σ : zSt}   : zSem n mX3_draw [.ref 27, .int (nI 31)] σ (fun v τ => v = some (.int (zdr (σ 27 5))) ∧ τ = zC σ 27 (upd (σ 27) 5 (zs1 (σ 27 5)))) := by
  refine zSem.of (by decide +kernel) (Nat.le_of_ble_eq_true rfl) (fun X hB hR => ?_)
  show zW X 0 [some (.ref 27), some (.int (nI 31)), none] [] σ
  refine zw_aload0 hB dX3_draw_0 ?_
  refine zw_aload0 hB dX3_draw_1 ?_
  refine zw_getfI hB dX3_draw_2 zf_X3_111 rfl rfl ?_
  refine zw_ldc hB dX3_draw_5 zk_X3_126 ?_
  refine zw_imul hB dX3_draw_7 ?_
  refine zw_ldc hB dX3_draw_8 zk_X3_127 ?_
  refine zw_iadd hB dX3_draw_10 ?_
  refine zw_putfI hB dX3_draw_11 zfw_X3_111 rfl rfl ?_
  refine zw_aload0 hB dX3_draw_14 ?_
  refine zw_getfV (x := zs1 (σ 27 5)) hB dX3_draw_15 zf_X3_111 rfl rfl (by rw [zC_s, zupd_s]; rfl) ?_
  refine zw_ldc hB dX3_draw_18 zk_X3_128 ?_
  refine zw_iand hB dX3_draw_20 ?_
  obtain ⟨j, hj, ej⟩ := zs1_and (zs1 (σ 27 5))
  rw [ej]
  refine zw_sipush (x := nI 256) hB dX3_draw_21 (by decide) ?_
  refine zw_idivN hB dX3_draw_24 (by omega) (by omega) (by omega) ?_
  refine zw_istore2 hB dX3_draw_25 (by first | rfl | assumption) ?_
  refine zw_iload1 hB dX3_draw_26 ?_
  refine zw_if_le (tgt := 36) hB dX3_draw_27 (by decide) (fun c27 => by first | exact absurd c27 (by decide) | exact absurd (by decide) c27 | omega) (fun c27 => ?_)
  refine zw_iload2 hB dX3_draw_30 ?_
  refine zw_iload1 hB dX3_draw_31 ?_
  refine zw_iremN hB dX3_draw_32 (by omega) (by omega) (by omega) ?_
  refine zw_goto (tgt := 37) hB dX3_draw_33 (by decide) ?_
  refine zw_iret hB hR dX3_draw_37 rfl ?_
  exact ⟨by unfold zdr; rw [ej, nI_clamp hj], rfl⟩
theorem s_X6_drawn {n : Nat} {σ : zSt}   : zSem n mX6_drawn [.ref 50, .int (nI 31)] σ (fun v τ => v = some (.int (zdr (σ 50 17))) ∧ τ = zC σ 50 (upd (σ 50) 17 (zs1 (σ 50 17)))) := by
  refine zSem.of (by decide +kernel) (Nat.le_of_ble_eq_true rfl) (fun X hB hR => ?_)
  show zW X 0 [some (.ref 50), some (.int (nI 31))] [] σ
  refine zw_aload0 hB dX6_drawn_0 ?_
  refine zw_aload0 hB dX6_drawn_1 ?_
  refine zw_getfI hB dX6_drawn_2 zf_X6_188 rfl rfl ?_
  refine zw_ldc hB dX6_drawn_5 zk_X6_191 ?_
  refine zw_imul hB dX6_drawn_7 ?_
  refine zw_ldc hB dX6_drawn_8 zk_X6_192 ?_
  refine zw_iadd hB dX6_drawn_10 ?_
  refine zw_putfI hB dX6_drawn_11 zfw_X6_188 rfl rfl ?_
  refine zw_aload0 hB dX6_drawn_14 ?_
  refine zw_getfV (x := zs1 (σ 50 17)) hB dX6_drawn_15 zf_X6_188 rfl rfl (by rw [zC_s, zupd_s]; rfl) ?_
  refine zw_ldc hB dX6_drawn_18 zk_X6_193 ?_
  refine zw_iand hB dX6_drawn_20 ?_
  obtain ⟨j, hj, ej⟩ := zs1_and (zs1 (σ 50 17))
  rw [ej]
  refine zw_sipush (x := nI 256) hB dX6_drawn_21 (by decide) ?_
  refine zw_idivN hB dX6_drawn_24 (by omega) (by omega) (by omega) ?_
  refine zw_iload1 hB dX6_drawn_25 ?_
  refine zw_iremN hB dX6_drawn_26 (by omega) (by omega) (by omega) ?_
  refine zw_iret hB hR dX6_drawn_27 rfl ?_
  exact ⟨by unfold zdr; rw [ej, nI_clamp hj], rfl⟩
theorem s_X3_sumOfHundreds {n : Nat} {σ : zSt} {F P : Nat} (hg : zGd (zrow σ 1) F P) {m : Nat} (hm : m < 100) (z w c : Int32) (hc : c = 0 ↔ ¬ w = nI 0) : zSem (n + 5) mX3_sumOfHundreds [.ref 27, .ref 1, .int (nI m), .int z, .int c] σ (fun v τ => v = some (.int (zLs (zrow σ 1) F P w z m)) ∧ ∀ d, (d < 27 ∨ 36 ≤ d) → τ d = σ d) := by
  have hF6 := hg.F6
  have hP6 := hg.P6
  have hP : σ 1 1 = nI P := hg.r1
  refine zSem.of (by decide +kernel) (Nat.le_of_ble_eq_true rfl) (fun X hB hR => ?_)
  show zW X 0 [some (.ref 27), some (.ref 1), some (.int (nI m)), some (.int z), some (.int c), none, none, none] [] σ
  have hl : ∀ i, i ≤ m → ∀ (υ : zSt) (s : Int32), s = zLs (zrow σ 1) F P w z i → υ 27 5 = (zsn z (3 * F * i)) → (∀ d, (d < 27 ∨ 36 ≤ d) → υ d = σ d) → ∀ a7 : Option Value, zW X 11 [some (.ref 27), some (.ref 1), some (.int (nI m)), some (.int z), some (.int c), some (.int s), some (.int (nI i)), a7] [] υ := by
    refine zfor m (fun i hi ih => ?_)
    intro υ s hs hsd ou a7
    have r1 : zrow υ 1 = zrow σ 1 := zrow_congr (fun c _ _ => ou c (by omega))
    have hend : i < m → ∀ υ : zSt, υ 27 5 = zsn (zsn z (3 * F * i)) (3 * F) → zrow υ 28 = zLk (zrow σ 1) (zsn z (3 * F * i)) (3 * F) → (∀ d, (d < 27 ∨ 36 ≤ d) → υ d = σ d) → ∀ a7 : Option Value, zc1 a7 = true → zW X 64 [some (.ref 27), some (.ref 1), some (.int (nI m)), some (.int z), some (.int c), some (.int s), some (.int (nI i)), a7] [] υ := by
      intro hiM υ sk zu ou a7 k7
      have gL : zGd (zrow υ 28) F P := by rw [zu]; exact zGd_Lk hg (by omega)
      refine zw_aload0 hB dX3_sumOfHundreds_64 ?_
      refine zw_getfR hB dX3_sumOfHundreds_65 zf_X3_12 rfl rfl ?_
      refine zw_bipush (x := nI 10) hB dX3_sumOfHundreds_68 (by decide) ?_
      refine zw_callV1 (M' := mX1_grownIn) hB dX3_sumOfHundreds_70 zl_X3_39 zg_X1_grownIn (zRc.of zld28.1 rfl rfl) (s_X1_grownIn zld28 gL (m := 10) (by omega)) (fun v70 σ70 hq70 => ?_)
      obtain ⟨rfl, y1, y2⟩ := hq70
      rw [zu] at y1 ⊢
      have gY : zGd (zrow σ70 28) F P := by rw [y1]; exact zGd_Ys (zGd_Lk hg (by omega)) 10
      refine zw_istore7 hB dX3_sumOfHundreds_73 (by first | rfl | assumption) ?_
      refine zw_iload5 hB dX3_sumOfHundreds_75 ?_
      refine zw_iload4 hB dX3_sumOfHundreds_77 ?_
      refine zw_if_eq (tgt := 87) hB dX3_sumOfHundreds_79 (by decide) (fun c79 => ?_) (fun c79 => ?_)
      · refine zw_aload0 hB dX3_sumOfHundreds_87 ?_
        refine zw_getfR hB dX3_sumOfHundreds_88 zf_X3_12 rfl rfl ?_
        refine zw_callV0P (M' := mX1_greenOfAll) hB dX3_sumOfHundreds_91 zl_X3_123 zg_X1_greenOfAll (zRc.of zld28.1 rfl rfl) (s_X1_greenOfAll zld28 gY) ?_
        rw [y1]
        refine zw_iadd hB dX3_sumOfHundreds_94 ?_
        refine zw_istore5 hB dX3_sumOfHundreds_95 (by first | rfl | assumption) ?_
        refine zw_iinc6 hB dX3_sumOfHundreds_97 (by first | exact zinc _ | rfl) (by first | rfl | assumption) ?_
        refine zw_goto (tgt := 11) hB dX3_sumOfHundreds_100 (by decide) ?_
        refine ih hiM σ70 _ ?_ (by rw [y2 27 (by omega), sk, show 3 * F * (i + 1) = 3 * F * i + 3 * F by rw [Nat.mul_add, Nat.mul_one], zsn_add]) (fun d hd => (y2 d (by omega)).trans (ou d hd)) _
        rw [hs]
        show _ = zLs (zrow σ 1) F P w z i + zLh (zrow σ 1) F P w (zsn z (3 * F * i))
        unfold zLh
        rw [if_neg (hc.mp c79)]
      · refine zw_iload7 hB dX3_sumOfHundreds_82 ?_
        refine zw_goto (tgt := 94) hB dX3_sumOfHundreds_84 (by decide) ?_
        refine zw_iadd hB dX3_sumOfHundreds_94 ?_
        refine zw_istore5 hB dX3_sumOfHundreds_95 (by first | rfl | assumption) ?_
        refine zw_iinc6 hB dX3_sumOfHundreds_97 (by first | exact zinc _ | rfl) (by first | rfl | assumption) ?_
        refine zw_goto (tgt := 11) hB dX3_sumOfHundreds_100 (by decide) ?_
        refine ih hiM σ70 _ ?_ (by rw [y2 27 (by omega), sk, show 3 * F * (i + 1) = 3 * F * i + 3 * F by rw [Nat.mul_add, Nat.mul_one], zsn_add]) (fun d hd => (y2 d (by omega)).trans (ou d hd)) _
        rw [hs]
        show _ = zLs (zrow σ 1) F P w z i + zLh (zrow σ 1) F P w (zsn z (3 * F * i))
        unfold zLh
        rw [if_pos (Decidable.not_not.mp (fun q => c79 (hc.mpr q)))]
    have hin : i < m → ∀ k, k ≤ 3 * F → ∀ υ : zSt, υ 27 5 = zsn (zsn z (3 * F * i)) k → zrow υ 28 = zLk (zrow σ 1) (zsn z (3 * F * i)) k → (∀ d, (d < 27 ∨ 36 ≤ d) → υ d = σ d) → zW X 28 [some (.ref 27), some (.ref 1), some (.int (nI m)), some (.int z), some (.int c), some (.int s), some (.int (nI i)), some (.int (nI k))] [] υ := by
      intro hiM
      refine zfor (3 * F) (fun k hk ihk => ?_)
      intro υ sk zu ou
      have kF : υ 28 0 = nI F := (zrow_f (σ := υ) (b := 28) (k := 0) (by omega)).symm.trans (by rw [zu, zLk_o (by omega)]; exact hg.r0)
      refine zw_iload7 hB dX3_sumOfHundreds_28 ?_
      refine zw_iconst (x := nI 3) hB dX3_sumOfHundreds_30 (by decide) ?_
      refine zw_aload0 hB dX3_sumOfHundreds_31 ?_
      refine zw_getfR hB dX3_sumOfHundreds_32 zf_X3_12 rfl rfl ?_
      refine zw_getfV (x := nI F) hB dX3_sumOfHundreds_35 zf_X3_114 zld28.1 rfl (kF) ?_
      refine zw_imulN hB dX3_sumOfHundreds_38 ?_
      refine zw_icmp_geN (tgt := 64) hB dX3_sumOfHundreds_39 (by decide) (by omega) (by omega) (fun c39 => ?_) (fun c39 => ?_)
      · exact hend hiM υ (by rw [sk, show k = 3 * F by omega]) (by rw [zu, show k = 3 * F by omega]) ou _ rfl
      · refine zw_aload0 hB dX3_sumOfHundreds_42 ?_
        refine zw_getfR hB dX3_sumOfHundreds_43 zf_X3_12 rfl rfl ?_
        refine zw_getfR hB dX3_sumOfHundreds_46 zf_X3_117 zld28.1 rfl ?_
        refine zw_iload7 hB dX3_sumOfHundreds_49 ?_
        refine zw_aload0 hB dX3_sumOfHundreds_51 ?_
        refine zw_bipush (x := nI 31) hB dX3_sumOfHundreds_52 (by decide) ?_
        refine zw_callV1 (M' := mX3_draw) hB dX3_sumOfHundreds_54 zl_X3_120 zg_X3_draw (zRc.of rfl rfl rfl) (s_X3_draw) (fun v54 σ54 hq54 => ?_)
        obtain ⟨rfl, rfl⟩ := hq54
        rw [sk]
        refine zw_iastN hB dX3_sumOfHundreds_57 zld28.2.1 (by omega) (by decide) ?_
        refine zw_iinc7 hB dX3_sumOfHundreds_58 (by first | exact zinc _ | rfl) (by first | rfl | assumption) ?_
        refine zw_goto (tgt := 28) hB dX3_sumOfHundreds_61 (by decide) ?_
        refine ihk c39 _ ?_ ?_ (fun d hd => ?_)
        · rw [zC_n (by omega), zC_s, zupd_s]; rfl
        · rw [zrow_seth (by omega), show zrow (zC υ 27 _) 28 = zrow υ 28 from zrow_congr (fun d _ _ => zC_n (by omega)), zu]
          exact zLk_s
        · rw [zC_n (by omega), zC_n (by omega)]; exact ou d hd
    refine zw_iload6 hB dX3_sumOfHundreds_11 ?_
    refine zw_iload2 hB dX3_sumOfHundreds_13 ?_
    refine zw_icmp_geN (tgt := 103) hB dX3_sumOfHundreds_14 (by decide) (by omega) (by omega) (fun c14 => ?_) (fun c14 => ?_)
    · refine zw_iload5 hB dX3_sumOfHundreds_103 ?_
      refine zw_iret hB hR dX3_sumOfHundreds_105 rfl ?_
      exact ⟨by rw [hs, show i = m by omega], ou⟩
    · refine zw_aload0 hB dX3_sumOfHundreds_17 ?_
      refine zw_getfR hB dX3_sumOfHundreds_18 zf_X3_12 rfl rfl ?_
      refine zw_aload1 hB dX3_sumOfHundreds_21 ?_
      refine zw_callV1 (M' := mX1_become) hB dX3_sumOfHundreds_22 zl_X3_35 zg_X1_become (zRc.of zld28.1 rfl rfl) (s_X1_become zld28 zld1 (by omega)) (fun v22 σ22 hq22 => ?_)
      obtain ⟨rfl, x1, x2⟩ := hq22
      refine zw_iconst (x := nI 0) hB dX3_sumOfHundreds_25 (by decide) ?_
      refine zw_istore7 hB dX3_sumOfHundreds_26 (by first | rfl | assumption) ?_
      exact hin c14 0 (by omega) σ22 (by rw [x2 27 (by omega), hsd]; rfl) (by rw [x1, r1, zLk_0]) (fun d hd => (x2 d (by omega)).trans (ou d hd))
  refine zw_aload0 hB dX3_sumOfHundreds_0 ?_
  refine zw_iload3 hB dX3_sumOfHundreds_1 ?_
  refine zw_putfI hB dX3_sumOfHundreds_2 zfw_X3_111 rfl rfl ?_
  refine zw_iconst (x := nI 0) hB dX3_sumOfHundreds_5 (by decide) ?_
  refine zw_istore5 hB dX3_sumOfHundreds_6 (by first | rfl | assumption) ?_
  refine zw_iconst (x := nI 0) hB dX3_sumOfHundreds_8 (by decide) ?_
  refine zw_istore6 hB dX3_sumOfHundreds_9 (by first | rfl | assumption) ?_
  exact hl 0 (by omega) _ _ rfl (by rw [zC_s, zupd_s]; rfl) (fun d hd => zC_n (by omega)) _
theorem s_X5_lots {n : Nat} {σ : zSt} {S : zS} (hS : zOk S) (h : zCW S σ) (m z w : Int32) : zSem (n + 6) mX5_lots [.ref 0, .int m, .int z, .int w] σ (zCQ (q_lots S m z w) σ) := by
  obtain ⟨⟨⟨F, P, hg0⟩, y0, hy0, ey0⟩, hkp, hlt, hrw⟩ := id hS
  have hnF := hg0.nF
  have hnP := hg0.nP
  have hr0 := h.1
  have hg : zGd (zrow σ 1) F P := by rw [hr0]; exact hg0
  have hF6 := hg.F6
  have hP6 := hg.P6
  have hF : σ 1 0 = nI F := hg.r0
  have hP : σ 1 1 = nI P := hg.r1
  unfold q_lots
  try rw [hnF]
  try rw [hnP]
  refine zSem.of (by decide +kernel) (Nat.le_of_ble_eq_true rfl) (fun X hB hR => ?_)
  show zW X 0 [some (.ref 0), some (.int m), some (.int z), some (.int w), none] [] σ
  refine zw_iload1 hB dX5_lots_0 ?_
  refine zw_iconst (x := nI 1) hB dX5_lots_1 (by decide) ?_
  refine zw_bipush (x := nI 20) hB dX5_lots_2 (by decide) ?_
  refine zw_callS3P (M' := mX5_inRange) hB dX5_lots_4 zl_X5_43 zg_X5_inRange (s_X5_inRange _ _ _) ?_
  refine zw_iload3 hB dX5_lots_7 ?_
  refine zw_iconst (x := nI 1) hB dX5_lots_8 (by decide) ?_
  refine zw_callS2P (M' := mX5_otherUnless) hB dX5_lots_9 zl_X5_85 zg_X5_otherUnless (s_X5_otherUnless _ _) ?_
  refine zw_iconst (x := nI 0) hB dX5_lots_12 (by decide) ?_
  refine zw_callS3P (M' := mX5_firstOf) hB dX5_lots_13 zl_X5_55 zg_X5_firstOf (s_X5_firstOf _ _ _) ?_
  refine zw_istore4 hB dX5_lots_16 (by first | rfl | assumption) ?_
  refine zw_iload4 hB dX5_lots_18 ?_
  refine zw_if_eq (tgt := 32) hB dX5_lots_20 (by decide) (fun c20 => ?_) (fun c20 => ?_)
  · obtain ⟨e1, e2, -⟩ := zfo_0 c20
    obtain ⟨m, -, hm, rfl⟩ := zir_0 (by omega) (by omega) e1
    refine zw_aload0 hB dX5_lots_32 ?_
    refine zw_getfR hB dX5_lots_33 zf_X5_32 rfl rfl ?_
    refine zw_aload0 hB dX5_lots_36 ?_
    refine zw_getfR hB dX5_lots_37 zf_X5_10 rfl rfl ?_
    refine zw_iload1 hB dX5_lots_40 ?_
    refine zw_iload2 hB dX5_lots_41 ?_
    refine zw_iload3 hB dX5_lots_42 ?_
    refine zw_if_ne (tgt := 50) hB dX5_lots_43 (by decide) (fun c43 => ?_) (fun c43 => ?_)
    · refine zw_iconst (x := nI 0) hB dX5_lots_50 (by decide) ?_
      refine zw_callV4 (M' := mX3_sumOfHundreds) hB dX5_lots_51 zl_X5_258 zg_X3_sumOfHundreds (zRc.of rfl rfl rfl) (s_X3_sumOfHundreds hg (by omega) z w _ ⟨fun _ q => c43 q, fun _ => rfl⟩) (fun v51 σ51 hq51 => ?_)
      obtain ⟨rfl, x1⟩ := hq51
      refine zw_iret hB hR dX5_lots_54 rfl ?_
      refine zCQ.ok h c20 ?_ (fun c hc => x1 c (by omega))
      rw [nI_clamp (by omega), ← hr0]
    · refine zw_iconst (x := nI 1) hB dX5_lots_46 (by decide) ?_
      refine zw_goto (tgt := 51) hB dX5_lots_47 (by decide) ?_
      refine zw_callV4 (M' := mX3_sumOfHundreds) hB dX5_lots_51 zl_X5_258 zg_X3_sumOfHundreds (zRc.of rfl rfl rfl) (s_X3_sumOfHundreds hg (by omega) z w _ ⟨fun q => absurd q (by decide), fun q => absurd c43 q⟩) (fun v51 σ51 hq51 => ?_)
      obtain ⟨rfl, x1⟩ := hq51
      refine zw_iret hB hR dX5_lots_54 rfl ?_
      refine zCQ.ok h c20 ?_ (fun c hc => x1 c (by omega))
      rw [nI_clamp (by omega), ← hr0]
  · obtain ⟨k, hk, hc⟩ := (zcd_fo zcd_ir zcd_ou zcd_0).resolve_left c20
    refine zw_aload0 hB dX5_lots_23 ?_
    refine zw_iload4 hB dX5_lots_24 ?_
    refine zw_callV1 (M' := mX5_refuse) hB dX5_lots_26 zl_X5_58 zg_X5_refuse (zRc.of rfl rfl rfl) (s_X5_refuse _ hc hk) (fun v26 σ26 hq26 => ?_)
    obtain ⟨rfl, rfl⟩ := hq26
    refine zw_goto (tgt := 54) hB dX5_lots_29 (by decide) ?_
    refine zw_iret hB hR dX5_lots_54 rfl ?_
    exact zCQ.no h c20 hk hc
theorem s_X6_lots {n : Nat} {σ : zSt} {S : zS} (hS : zOk S) (h : zRW S σ) (m0 z w : Int32) : zSem (n + 5) mX6_lots [.ref 50, .int m0, .int z, .int w] σ (zRQ (q_lots S m0 z w) σ) := by
  obtain ⟨⟨⟨F, P, hg0⟩, y0, hy0, ey0⟩, hkp, hlt, hrw⟩ := id hS
  have hnF := hg0.nF
  have hnP := hg0.nP
  have hr0 := h.1
  have hg : zGd (zro σ 51) F P := by rw [hr0]; exact hg0
  have hF6 := hg.F6
  have hP6 := hg.P6
  have hF : σ 51 0 = nI F := (zro_k (by omega)).symm.trans hg.r0
  have hP : σ 51 1 = nI P := (zro_k (by omega)).symm.trans hg.r1
  unfold q_lots
  try rw [hnF]
  try rw [hnP]
  refine zSem.of (by decide +kernel) (Nat.le_of_ble_eq_true rfl) (fun X hB hR => ?_)
  show zW X 0 [some (.ref 50), some (.int m0), some (.int z), some (.int w), none, none, none, none] [] σ
  have hl : ∀ m : Nat, m0 = nI m → m < 100 → zfo (zir (nI m) (nI 1) (nI 20)) (zou w (nI 1)) (nI 0) = 0 → ∀ i, i ≤ m → ∀ (υ : zSt) (s : Int32), s = zLs (zro σ 51) F P w z i → υ 50 17 = (zsn z (3 * F * i)) → (∀ a, a ≠ 50 → a ≠ 52 → a ≠ 55 → a ≠ 56 → υ a = σ a) → (∀ k, k ≠ 17 → υ 50 k = σ 50 k) → ∀ a6 a7 : Option Value, zc1 a6 = true → zc1 a7 = true → zW X 52 [some (.ref 50), some (.int (nI m)), some (.int z), some (.int w), some (.int s), some (.int (nI i)), a6, a7] [] υ := by
    rintro m rfl hm e0
    refine zfor m (fun i hi ih => ?_)
    intro υ s hs hsd ou ok a6 a7 k6 k7
    have hend : i < m → ∀ υ : zSt, υ 50 17 = zsn (zsn z (3 * F * i)) (3 * F) → zro υ 52 = zLk (zro σ 51) (zsn z (3 * F * i)) (3 * F) → (∀ a, a ≠ 50 → a ≠ 52 → a ≠ 55 → a ≠ 56 → υ a = σ a) → (∀ k, k ≠ 17 → υ 50 k = σ 50 k) → ∀ a6 a7 : Option Value, zc1 a6 = true → zc1 a7 = true → zW X 122 [some (.ref 50), some (.int (nI m)), some (.int z), some (.int w), some (.int s), some (.int (nI i)), a6, a7] [] υ := by
      intro hiM υ sk zu ou ok a6 a7 k6 k7
      have gL : zGd (zro υ 52) F P := by rw [zu]; exact zGd_Lk hg (by omega)
      refine zw_aload0 hB dX6_lots_122 ?_
      refine zw_aload0 hB dX6_lots_123 ?_
      refine zw_getfR hB dX6_lots_124 zf_X6_13 rfl rfl ?_
      refine zw_bipush (x := nI 10) hB dX6_lots_127 (by decide) ?_
      refine zw_callV2 (M' := mX6_yearsOn) hB dX6_lots_129 zl_X6_124 zg_X6_yearsOn (zRc.of rfl rfl rfl) (s_X6_yearsOn (c := 52) rfl (by omega) gL (m := 10) (by omega)) (fun v129 σ129 hq129 => ?_)
      obtain ⟨rfl, y1, y2, y3, y4⟩ := hq129
      rw [zu] at y1 ⊢
      have gY : zGd (zro σ129 52) F P := by rw [y1]; exact zGd_Ys (zGd_Lk hg (by omega)) 10
      have kY : σ129 52 0 = nI F := (zro_k (by omega)).symm.trans gY.r0
      refine zw_istore6 hB dX6_lots_132 (by first | rfl | assumption) ?_
      refine zw_iload4 hB dX6_lots_134 ?_
      refine zw_iload3 hB dX6_lots_136 ?_
      refine zw_if_ne (tgt := 145) hB dX6_lots_137 (by decide) (fun c137 => ?_) (fun c137 => ?_)
      · refine zw_aload0 hB dX6_lots_145 ?_
        refine zw_getfR hB dX6_lots_146 zf_X6_13 rfl rfl ?_
        refine zw_callS1P (M' := mX6_greenAll) hB dX6_lots_149 zl_X6_182 zg_X6_greenAll (s_X6_greenAll (c := 52) rfl kY hF6) ?_
        rw [y1]
        refine zw_iadd hB dX6_lots_152 ?_
        refine zw_istore4 hB dX6_lots_153 (by first | rfl | assumption) ?_
        refine zw_iinc5 hB dX6_lots_155 (by first | exact zinc _ | rfl) (by first | rfl | assumption) ?_
        refine zw_goto (tgt := 52) hB dX6_lots_158 (by decide) ?_
        refine ih hiM σ129 _ ?_ (by rw [y4 50 (by omega) (by omega) (by omega), sk, show 3 * F * (i + 1) = 3 * F * i + 3 * F by rw [Nat.mul_add, Nat.mul_one], zsn_add]) (fun a h1 h2 h3 h4 => (y4 a h2 h3 h4).trans (ou a h1 h2 h3 h4)) (fun k hk => by rw [y4 50 (by omega) (by omega) (by omega)]; exact ok k hk) _ _ rfl k7
        rw [hs]
        show _ = zLs (zro σ 51) F P w z i + zLh (zro σ 51) F P w (zsn z (3 * F * i))
        unfold zLh
        rw [if_neg (show ¬ w = nI 0 from c137)]
      · refine zw_iload6 hB dX6_lots_140 ?_
        refine zw_goto (tgt := 152) hB dX6_lots_142 (by decide) ?_
        refine zw_iadd hB dX6_lots_152 ?_
        refine zw_istore4 hB dX6_lots_153 (by first | rfl | assumption) ?_
        refine zw_iinc5 hB dX6_lots_155 (by first | exact zinc _ | rfl) (by first | rfl | assumption) ?_
        refine zw_goto (tgt := 52) hB dX6_lots_158 (by decide) ?_
        refine ih hiM σ129 _ ?_ (by rw [y4 50 (by omega) (by omega) (by omega), sk, show 3 * F * (i + 1) = 3 * F * i + 3 * F by rw [Nat.mul_add, Nat.mul_one], zsn_add]) (fun a h1 h2 h3 h4 => (y4 a h2 h3 h4).trans (ou a h1 h2 h3 h4)) (fun k hk => by rw [y4 50 (by omega) (by omega) (by omega)]; exact ok k hk) _ _ rfl k7
        rw [hs]
        show _ = zLs (zro σ 51) F P w z i + zLh (zro σ 51) F P w (zsn z (3 * F * i))
        unfold zLh
        rw [if_pos (show w = nI 0 from c137)]
    have hin : i < m → ∀ f, f ≤ F → ∀ (υ : zSt) (a7 : Option Value), υ 50 17 = zsn (zsn z (3 * F * i)) (3 * f) → zro υ 52 = zLk (zro σ 51) (zsn z (3 * F * i)) (3 * f) → (∀ a, a ≠ 50 → a ≠ 52 → a ≠ 55 → a ≠ 56 → υ a = σ a) → (∀ k, k ≠ 17 → υ 50 k = σ 50 k) → zc1 a7 = true → zW X 72 [some (.ref 50), some (.int (nI m)), some (.int z), some (.int w), some (.int s), some (.int (nI i)), some (.int (nI f)), a7] [] υ := by
      intro hiM
      refine zfor F (fun f hf ihf => ?_)
      intro υ a7 sk zu ou ok k7
      have hin2 : f < F → ∀ j, j ≤ 3 → ∀ υ : zSt, υ 50 17 = zsn (zsn z (3 * F * i)) (3 * f + j) → zro υ 52 = zLk (zro σ 51) (zsn z (3 * F * i)) (3 * f + j) → (∀ a, a ≠ 50 → a ≠ 52 → a ≠ 55 → a ≠ 56 → υ a = σ a) → (∀ k, k ≠ 17 → υ 50 k = σ 50 k) → zW X 86 [some (.ref 50), some (.int (nI m)), some (.int z), some (.int w), some (.int s), some (.int (nI i)), some (.int (nI f)), some (.int (nI j))] [] υ := by
        intro hfF
        refine zfor 3 (fun j hj ihj => ?_)
        intro υ sk zu ou ok
        refine zw_iload7 hB dX6_lots_86 ?_
        refine zw_iconst (x := nI 3) hB dX6_lots_88 (by decide) ?_
        refine zw_icmp_geN (tgt := 116) hB dX6_lots_89 (by decide) (by omega) (by omega) (fun c89 => ?_) (fun c89 => ?_)
        · refine zw_iinc6 hB dX6_lots_116 (by first | exact zinc _ | rfl) (by first | rfl | assumption) ?_
          refine zw_goto (tgt := 72) hB dX6_lots_119 (by decide) ?_
          exact ihf hfF υ _ (by rw [sk]; congr 1; omega) (by rw [zu]; congr 1; omega) ou ok rfl
        · refine zw_aload0 hB dX6_lots_92 ?_
          refine zw_getfR hB dX6_lots_93 zf_X6_13 rfl rfl ?_
          refine zw_iload6 hB dX6_lots_96 ?_
          refine zw_iload7 hB dX6_lots_98 ?_
          refine zw_callS2P (M' := mX6_heart) hB dX6_lots_100 zl_X6_60 zg_X6_heart (s_X6_heart) ?_
          refine zw_aload0 hB dX6_lots_103 ?_
          refine zw_bipush (x := nI 31) hB dX6_lots_104 (by decide) ?_
          refine zw_callV1 (M' := mX6_drawn) hB dX6_lots_106 zl_X6_194 zg_X6_drawn (zRc.of rfl rfl rfl) (s_X6_drawn) (fun v106 σ106 hq106 => ?_)
          obtain ⟨rfl, rfl⟩ := hq106
          rw [sk]
          refine zw_iastN hB dX6_lots_109 rfl (by omega) (by decide) ?_
          refine zw_iinc7 hB dX6_lots_110 (by first | exact zinc _ | rfl) (by first | rfl | assumption) ?_
          refine zw_goto (tgt := 86) hB dX6_lots_113 (by decide) ?_
          refine ihj c89 _ ?_ ?_ (fun d h1 h2 h3 h4 => ?_) (fun q hq => ?_)
          · rw [zC_n (by omega), zC_s, zupd_s]; rfl
          · rw [zro_set (by omega), zro_n (by omega), zu, show 5 + 3 * f + j = 5 + (3 * f + j) by omega]
            exact zLk_s
          · rw [zC_n (by omega), zC_n (by omega)]; exact ou d h1 h2 h3 h4
          · rw [zC_n (by omega), zC_s, zupd_o hq]; exact ok q hq
      refine zw_iload6 hB dX6_lots_72 ?_
      refine zw_aload0 hB dX6_lots_74 ?_
      refine zw_getfR hB dX6_lots_75 zf_X6_9 rfl rfl ?_
      refine zw_iconst (x := nI 0) hB dX6_lots_78 (by decide) ?_
      refine zw_ialdV (x := nI F) hB dX6_lots_79 rfl (by omega) (by decide) ((congrFun (ou 51 (by omega) (by omega) (by omega) (by omega)) 0).trans hF) ?_
      refine zw_icmp_geN (tgt := 122) hB dX6_lots_80 (by decide) (by omega) (by omega) (fun c80 => ?_) (fun c80 => ?_)
      · exact hend hiM υ (by rw [sk, show f = F by omega]) (by rw [zu, show f = F by omega]) ou ok _ _ rfl k7
      · refine zw_iconst (x := nI 0) hB dX6_lots_83 (by decide) ?_
        refine zw_istore7 hB dX6_lots_84 (by first | rfl | assumption) ?_
        exact hin2 c80 0 (by omega) υ sk zu ou ok
    refine zw_iload5 hB dX6_lots_52 ?_
    refine zw_iload1 hB dX6_lots_54 ?_
    refine zw_icmp_geN (tgt := 161) hB dX6_lots_55 (by decide) (by omega) (by omega) (fun c55 => ?_) (fun c55 => ?_)
    · refine zw_iload4 hB dX6_lots_161 ?_
      refine zw_iret hB hR dX6_lots_163 rfl ?_
      refine zRQ.ok h e0 (by rw [hs, nI_clamp (by omega), ← hr0, show i = m by omega]) ⟨ok 6 (by omega), ok 10 (by omega), ok 11 (by omega)⟩ (fun c hc => ou c (by omega) (by omega) (by omega) (by omega))
    · refine zw_aload0 hB dX6_lots_58 ?_
      refine zw_getfR hB dX6_lots_59 zf_X6_9 rfl rfl ?_
      refine zw_aload0 hB dX6_lots_62 ?_
      refine zw_getfR hB dX6_lots_63 zf_X6_13 rfl rfl ?_
      refine zw_callS2 (M' := mX6_copies) hB dX6_lots_66 zl_X6_130 zg_X6_copies (s_X6_copies (c := 51) (d := 52) rfl rfl (by decide)) (fun v66 σ66 hq66 => ?_)
      obtain ⟨rfl, x1, x2⟩ := hq66
      refine zw_iconst (x := nI 0) hB dX6_lots_69 (by decide) ?_
      refine zw_istore6 hB dX6_lots_70 (by first | rfl | assumption) ?_
      exact hin c55 0 (by omega) σ66 _ (by rw [x2 50 (by omega), hsd]; rfl) (by rw [x1, zro_congr (ou 51 (by omega) (by omega) (by omega) (by omega)), show 3 * 0 = 0 from rfl, zLk_0]) (fun a h1 h2 h3 h4 => (x2 a h2).trans (ou a h1 h2 h3 h4)) (fun k hk => by rw [x2 50 (by omega)]; exact ok k hk) k7
  refine zw_iload1 hB dX6_lots_0 ?_
  refine zw_iconst (x := nI 1) hB dX6_lots_1 (by decide) ?_
  refine zw_icmp_ge (tgt := 12) hB dX6_lots_2 (by decide) (fun c2 => ?_) (fun c2 => ?_)
  · refine zw_iload1 hB dX6_lots_12 ?_
    refine zw_bipush (x := nI 20) hB dX6_lots_13 (by decide) ?_
    refine zw_icmp_le (tgt := 25) hB dX6_lots_15 (by decide) (fun c15 => ?_) (fun c15 => ?_)
    · have e1 : zir m0 (nI 1) (nI 20) = 0 := by unfold zir; rw [if_neg (Int32.not_lt.mpr c2), if_neg (Int32.not_lt.mpr c15)]; exact nI_0
      refine zw_iload3 hB dX6_lots_25 ?_
      refine zw_iconst (x := nI 0) hB dX6_lots_26 (by decide) ?_
      refine zw_iconst (x := nI 1) hB dX6_lots_27 (by decide) ?_
      refine zw_callS3P (M' := mX6_isIn) hB dX6_lots_28 zl_X6_52 zg_X6_isIn (s_X6_isIn _ _ _) ?_
      refine zw_if_neB (tgt := 41) hB dX6_lots_31 (by decide) (fun c31 => ?_) (fun c31 => ?_)
      · have e0 : zfo (zir m0 (nI 1) (nI 20)) (zou w (nI 1)) (nI 0) = 0 := (zfo_x e1 (zou_t (m := 1) (by omega) c31)).trans nI_0
        obtain ⟨m, -, hm, rfl⟩ := zir_0 (by omega) (by omega) e1
        refine zw_aload0 hB dX6_lots_41 ?_
        refine zw_iload2 hB dX6_lots_42 ?_
        refine zw_putfI hB dX6_lots_43 zfw_X6_188 rfl rfl ?_
        refine zw_iconst (x := nI 0) hB dX6_lots_46 (by decide) ?_
        refine zw_istore4 hB dX6_lots_47 (by first | rfl | assumption) ?_
        refine zw_iconst (x := nI 0) hB dX6_lots_49 (by decide) ?_
        refine zw_istore5 hB dX6_lots_50 (by first | rfl | assumption) ?_
        exact hl m rfl (by omega) e0 0 (by omega) _ _ rfl (by rw [zC_s, zupd_s]; rfl) (fun a h1 _ _ _ => zC_n h1) (fun k hk => by rw [zC_s]; exact zupd_o hk) _ _ rfl rfl
      · refine zw_aload0 hB dX6_lots_34 ?_
        refine zw_bipush (x := -2) hB dX6_lots_35 (by decide) ?_
        refine zw_callV1 (M' := mX6_no) hB dX6_lots_37 zl_X6_48 zg_X6_no (zRc.of rfl rfl rfl) (s_X6_no (k := 2) _ (by decide) (by omega)) (fun v37 σ37 hq37 => ?_)
        obtain ⟨rfl, rfl⟩ := hq37
        refine zw_iret hB hR dX6_lots_40 rfl ?_
        rw [show zfo (zir m0 (nI 1) (nI 20)) (zou w (nI 1)) (nI 0) = -2 from (zfo_y e1 (by rw [zou_f (m := 1) (by omega) c31]; decide)).trans (zou_f (m := 1) (by omega) c31)]
        exact zRQ.no h (by decide) (by omega) (by decide)
    · refine zw_aload0 hB dX6_lots_18 ?_
      refine zw_bipush (x := -6) hB dX6_lots_19 (by decide) ?_
      refine zw_callV1 (M' := mX6_no) hB dX6_lots_21 zl_X6_48 zg_X6_no (zRc.of rfl rfl rfl) (s_X6_no (k := 6) _ (by decide) (by omega)) (fun v21 σ21 hq21 => ?_)
      obtain ⟨rfl, rfl⟩ := hq21
      refine zw_iret hB hR dX6_lots_24 rfl ?_
      rw [show zfo (zir m0 (nI 1) (nI 20)) (zou w (nI 1)) (nI 0) = -6 by unfold zir; rw [if_neg (Int32.not_lt.mpr c2), if_pos (Int32.not_le.mp c15)]; rfl]
      exact zRQ.no h (by decide) (by omega) (by decide)
  · refine zw_aload0 hB dX6_lots_5 ?_
    refine zw_bipush (x := -4) hB dX6_lots_6 (by decide) ?_
    refine zw_callV1 (M' := mX6_no) hB dX6_lots_8 zl_X6_48 zg_X6_no (zRc.of rfl rfl rfl) (s_X6_no (k := 4) _ (by decide) (by omega)) (fun v8 σ8 hq8 => ?_)
    obtain ⟨rfl, rfl⟩ := hq8
    refine zw_iret hB hR dX6_lots_11 rfl ?_
    rw [show zfo (zir m0 (nI 1) (nI 20)) (zou w (nI 1)) (nI 0) = -4 by unfold zir; rw [if_pos (Int32.not_le.mp c2)]; rfl]
    exact zRQ.no h (by decide) (by omega) (by decide)
