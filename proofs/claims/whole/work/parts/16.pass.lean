/-! LAND: a year passes -/
/-- what grew on farm f, of the first i farmers -/
def zgF (r : zRw) (f : Nat) : Nat → Int32
  | 0 => nI 0
  | i + 1 => if zwk r i = true ∧ zsf r i = f then zgw r i else zgF r f i
def zUi (r : zRw) (i : Nat) : zRw := fun k => if 5 ≤ k ∧ k < 5 + 3 * i ∧ zfr r ((k - 5) / 3) = true then zhd (r k + nI 1) (nI 30) else r k
theorem zUi_0 {r : zRw} : zUi r 0 = r := by
  funext k
  unfold zUi
  rw [if_neg (by omega)]
theorem zUi_F {r : zRw} {F : Nat} (h : zNF r = F) : zUi r F = zU r := by
  funext k
  unfold zUi zU
  rw [h]
theorem zUi_s {r : zRw} {i : Nat} (h : zfr r i = true) : zU1 (zUi r i) i = zUi r (i + 1) := by
  funext k
  unfold zU1
  by_cases c : 5 + 3 * i ≤ k ∧ k < 8 + 3 * i
  · rw [if_pos c]
    unfold zUi
    rw [if_neg (by omega), if_pos ⟨by omega, by omega, by rw [show (k - 5) / 3 = i by omega]; exact h⟩]
  · rw [if_neg c]
    unfold zUi
    by_cases d : 5 ≤ k ∧ k < 5 + 3 * i ∧ zfr r ((k - 5) / 3) = true
    · rw [if_pos d, if_pos ⟨d.1, by omega, d.2.2⟩]
    · rw [if_neg d, if_neg (fun q => d ⟨q.1, by omega, q.2.2⟩)]
theorem zUi_n {r : zRw} {i : Nat} (h : ¬ zfr r i = true) : zUi r i = zUi r (i + 1) := by
  funext k
  unfold zUi
  by_cases d : 5 ≤ k ∧ k < 5 + 3 * i ∧ zfr r ((k - 5) / 3) = true
  · rw [if_pos d, if_pos ⟨d.1, by omega, d.2.2⟩]
  · rw [if_neg d, if_neg (fun q => by
      by_cases z : k < 5 + 3 * i
      · exact d ⟨q.1, z, q.2.2⟩
      · exact h (by rw [← show (k - 5) / 3 = i by omega]; exact q.2.2))]
theorem zfm_t {r : zRw} {F f : Nat} (hF : F ≤ 6) (hf : f < F) : zfm r F &&& (nI 1 <<< (nI f &&& 31)) = 0 ↔ ¬ zfr r f = true := by
  have hb : bt (zfm r F) f = zfr r f := by
    rw [zfm, zset_b (by omega) (by omega)]
    simp [hf]
  constructor
  · intro h q
    have h1 : bt (zfm r F &&& (nI 1 <<< (nI f &&& 31))) f = bt 0 f := by rw [h]
    rw [b_and, hb, b_bit (by omega) (by omega), b_0, q] at h1
    simp at h1
  · intro h
    refine b_ext (fun j hj => ?_)
    rw [b_and, b_bit (by omega) hj, b_0]
    by_cases e : j = f
    · subst e
      rw [hb]
      simp [h]
    · simp [e]
theorem zadd0 (x : Int32) : x + nI 0 = x := Int32.add_zero x
theorem zmin9999 {t a : Nat} (ht : t ≤ 9999) (ha : a ≤ 108) : (if nI t + nI a < nI 9999 then nI t + nI a else nI 9999) = zhd (nI t + nI a) (nI 9999) := by
  rw [nI_add, zhd_n (by omega) (by omega)]
  by_cases c : t + a < 9999
  · rw [if_pos (nI_lt c (by omega)), if_neg (by omega)]
  · rw [if_neg (nI_nlt (by omega) (by omega))]
    by_cases d : 9999 < t + a
    · rw [if_pos d]
    · rw [if_neg d, show t + a = 9999 by omega]
section zROWS
variable {r : zRw} {F P : Nat}
/-- behind the free farms' year and the first i farmers', farmer i is as at first -/
theorem zTU_wk (h : zGd r F P) {i : Nat} (hi : i < P) : zwk (zTn (zU (upd r 4 (r 4 + nI 1))) i) i = zwk r i := by
  have h1 := zGd_4 h (r 4 + nI 1)
  rw [zTn_wk (zGd_U h1) (by omega) (by omega), zwk, zwk, zat, zat, ztd, ztd, zU_static h1 (by omega), zU_static h1 (by omega), zupd_o (by omega), zupd_o (by omega)]
theorem zTU_at (h : zGd r F P) {i q : Nat} (hi : i ≤ P) : zat (zTn (zU (upd r 4 (r 4 + nI 1))) i) q = zat r q := by
  have h1 := zGd_4 h (r 4 + nI 1)
  rw [zTn_at (zGd_U h1) (by omega), zat, zat, zU_static h1 (by omega), zupd_o (by omega)]
theorem zTU_td (h : zGd r F P) {i : Nat} (hi : i < P) : ztd (zTn (zU (upd r 4 (r 4 + nI 1))) i) i = ztd r i := by
  have h1 := zGd_4 h (r 4 + nI 1)
  rw [zTn_td (zGd_U h1) (by omega) (by omega), ztd, ztd, zU_static h1 (by omega), zupd_o (by omega)]
theorem zTU_gw (h : zGd r F P) {i : Nat} (hi : i < P) : zgw (zTn (zU (upd r 4 (r 4 + nI 1))) i) i = zgw r i := by
  have h1 := zGd_4 h (r 4 + nI 1)
  rw [zTn_gw (zGd_U h1) hi, zgw_U h1 hi]
  exact zgw_congr (fun k hk => zupd_o (by omega))
theorem zTU_sf (h : zGd r F P) {i q : Nat} (hi : i ≤ P) : zsf (zTn (zU (upd r 4 (r 4 + nI 1))) i) q = zsf r q := by
  rw [zsf, zTU_at h hi, zsf]
theorem zTU_k (h : zGd r F P) {i k : Nat} (hi : i ≤ P) (hk : k < 4) : zTn (zU (upd r 4 (r 4 + nI 1))) i k = r k := by
  have h1 := zGd_4 h (r 4 + nI 1)
  rw [(zTn_static (zGd_U h1) hi).1 k (by omega), zU_static h1 (by omega), zupd_o (by omega)]
theorem zTU_gd (h : zGd r F P) {i : Nat} (hi : i ≤ P) : zGd (zTn (zU (upd r 4 (r 4 + nI 1))) i) F P := zGd_Tn (zGd_U (zGd_4 h _)) hi
end zROWS
/-- what a year leaves at b -/
def zYp (b F P : Nat) (σ τ : zSt) : Prop := zrow τ b = zYr (zrow σ b) ∧ τ b 5 = zAl (zrow σ b) P ∧ (∀ f, f < F → τ (b + 2) f = zgF (zrow σ b) f P) ∧ (∀ p, p < P → τ (b + 7) p = zgw (zrow σ b) p) ∧ zOut b σ τ

theorem s_X1_passYear {n : Nat} {σ : zSt} {b F P : Nat} (hb : zLd b) (hg : zGd (zrow σ b) F P) : zSem (n + 3) mX1_passYear [.ref b] σ (fun v τ => v = none ∧ zYp b F P σ τ) := by
  have hF6 := hg.F6
  have hP6 := hg.P6
  have hF : σ b 0 = nI F := hg.r0
  have hP : σ b 1 = nI P := hg.r1
  refine zSem.of (by decide +kernel) (Nat.le_of_ble_eq_true rfl) (fun X hB hR => ?_)
  show zW X 0 [some (.ref b), none, none] [] σ
  refine zw_aload0 hB dX1_passYear_0 ?_
  refine zw_dup hB dX1_passYear_1 rfl ?_
  refine zw_getfV (x := zrow σ b 4) hB dX1_passYear_2 zf_X1_46 hb.1 rfl (rfl) ?_
  refine zw_iconst (x := nI 1) hB dX1_passYear_5 (by decide) ?_
  refine zw_iadd hB dX1_passYear_6 ?_
  refine zw_putfI hB dX1_passYear_7 zfw_X1_46 hb.1 rfl ?_
  refine zw_aload0 hB dX1_passYear_10 ?_
  refine zw_iconst (x := nI 0) hB dX1_passYear_11 (by decide) ?_
  refine zw_putfI hB dX1_passYear_12 zfw_X1_110 hb.1 rfl ?_
  refine zw_gen (fun σ1 e1 => ?_)
  have z1 : zrow σ1 b = upd (zrow σ b) 4 (zrow σ b 4 + nI 1) := by rw [e1, zrow_setf, if_neg (by omega), zrow_setf, if_pos (by omega)]
  have b1 : σ1 b 5 = nI 0 := by rw [e1, zC_s, zupd_s]
  have o1 : zOut b σ σ1 := by
    intro c hc
    rw [e1, zC_n (by omega), zC_n (by omega)]
  clear e1
  have hg1 : zGd (zrow σ1 b) F P := by rw [z1]; exact zGd_4 hg _
  have hl2 : ∀ i, i ≤ P → ∀ (v : Int32) (υ : zSt), zrow υ b = zTn (zU (upd (zrow σ b) 4 (zrow σ b 4 + nI 1))) i → υ b 5 = zAl (zrow σ b) i → (∀ f, f < F → υ (b + 2) f = zgF (zrow σ b) f i) → (∀ p, p < i → υ (b + 7) p = zgw (zrow σ b) p) → zOut b σ υ → zW X 58 [some (.ref b), some (.int v), some (.int (nI i))] [] υ := by
    refine zfor P (fun i hi ih => ?_)
    intro v υ zu bu fu pu ou
    have hgu : zGd (zrow υ b) F P := by rw [zu]; exact zTU_gd hg hi
    have hPu : υ b 1 = nI P := hgu.r1
    have hFu : υ b 0 = nI F := hgu.r0
    refine zw_iload2 hB dX1_passYear_58 ?_
    refine zw_aload0 hB dX1_passYear_59 ?_
    refine zw_getfV (x := nI P) hB dX1_passYear_60 zf_X1_40 hb.1 rfl (hPu) ?_
    refine zw_icmp_geN (tgt := 132) hB dX1_passYear_63 (by decide) (by omega) (by omega) (fun c63 => ?_) (fun c63 => ?_)
    · refine zw_aload0 hB dX1_passYear_132 ?_
      refine zw_sipush (x := nI 9999) hB dX1_passYear_133 (by decide) ?_
      refine zw_aload0 hB dX1_passYear_136 ?_
      refine zw_getfV (x := zrow σ b 3) hB dX1_passYear_137 zf_X1_43 hb.1 rfl ((zrow_f (by omega)).symm.trans (by rw [zu, show i = P by omega]; exact zTU_k hg (Nat.le_refl _) (by omega))) ?_
      refine zw_aload0 hB dX1_passYear_140 ?_
      refine zw_getfV (x := zAl (zrow σ b) P) hB dX1_passYear_141 zf_X1_110 hb.1 rfl (by rw [bu, show i = P by omega]) ?_
      refine zw_iadd hB dX1_passYear_144 ?_
      refine zw_min hB dX1_passYear_145 zl_X1_77 (by first | exact Nat.le_of_ble_eq_true rfl | decide) ?_
      obtain ⟨t3, ht3, et3⟩ := hg.r3
      obtain ⟨a3, ha3, ea3⟩ := zAl_b hg (Nat.le_refl P)
      refine zw_eqI (y := zhd (zrow σ b 3 + zAl (zrow σ b) P) (nI 9999)) (by rw [et3, ea3]; exact zmin9999 ht3 (by omega)) ?_
      refine zw_putfI hB dX1_passYear_148 zfw_X1_43 hb.1 rfl ?_
      have z3 : zrow (zC υ b (upd (υ b) 3 (zhd (zrow σ b 3 + zAl (zrow σ b) P) (nI 9999)))) b = upd (zTn (zU (upd (zrow σ b) 4 (zrow σ b 4 + nI 1))) P) 3 (zhd (zrow σ b 3 + zAl (zrow σ b) P) (nI 9999)) := by rw [zrow_setf, if_pos (by omega), zu, show i = P by omega]
      have hg3 : zGd (zrow (zC υ b (upd (υ b) 3 (zhd (zrow σ b 3 + zAl (zrow σ b) P) (nI 9999)))) b) F P := by rw [z3]; exact zGd_3 (zTU_gd hg (Nat.le_refl _)) (zhd_b (by omega))
      refine zw_aload0 hB dX1_passYear_151 ?_
      refine zw_callV0 (M' := mX1_moveOn) hB dX1_passYear_152 zl_X1_127 zg_X1_moveOn (zRc.of hb.1 rfl rfl) (s_X1_moveOn hb hg3) (fun v152 σ152 hq152 => ?_)
      obtain ⟨rfl, x1, x2⟩ := hq152
      refine zw_vret hB hR dX1_passYear_155 rfl ?_
      refine ⟨rfl, ?_, ?_, ?_, ?_, ?_⟩
      · rw [x1, z3, zYr, hg.nP, zYw_alt hg]
      · rw [x2 b (by omega), zC_s, zupd_o (by omega), bu, show i = P by omega]
      · intro f hf
        rw [x2 _ (by omega), zC_n (by omega), fu f hf, show i = P by omega]
      · intro q hq
        rw [x2 _ (by omega), zC_n (by omega), pu q (by omega)]
      · exact fun c hc => (x2 c (by omega)).trans ((zC_n (by omega)).trans (ou c hc))
    · refine zw_aload0 hB dX1_passYear_66 ?_
      refine zw_getfR hB dX1_passYear_67 zf_X1_34 hb.1 rfl ?_
      refine zw_iload2 hB dX1_passYear_70 ?_
      refine zw_iconst (x := nI 0) hB dX1_passYear_71 (by decide) ?_
      refine zw_iastN hB dX1_passYear_72 hb.2.2.2.2.2.2.2 (by omega) (by decide) ?_
      refine zw_gen (fun υ1 e1 => ?_)
      have y1 : zrow υ1 b = zTn (zU (upd (zrow σ b) 4 (zrow σ b 4 + nI 1))) i := by rw [e1, ← zu]; exact zrow_congr (fun c h1 h2 => zC_n (by omega))
      have b1 : υ1 b = υ b := by rw [e1, zC_n (by omega)]
      have f1 : υ1 (b + 2) = υ (b + 2) := by rw [e1, zC_n (by omega)]
      have p1 : υ1 (b + 7) = upd (υ (b + 7)) i (nI 0) := by rw [e1, zC_s]
      have u1 : zOut b σ υ1 := by
        intro c hc
        rw [e1, zC_n (by omega)]
        exact ou c hc
      clear e1
      have hgv : zGd (zrow υ1 b) F P := by rw [y1]; exact zTU_gd hg hi
      have hat : zat (zrow υ1 b) i = zat (zrow σ b) i := by rw [y1]; exact zTU_at hg hi
      have htd : ztd (zrow υ1 b) i = ztd (zrow σ b) i := by rw [y1]; exact zTU_td hg c63
      have hwk : zwk (zrow υ1 b) i = zwk (zrow σ b) i := by rw [y1]; exact zTU_wk hg c63
      have hgw : zgw (zrow υ1 b) i = zgw (zrow σ b) i := by rw [y1]; exact zTU_gw hg c63
      have hsf : zsf (zrow υ1 b) i = zsf (zrow σ b) i := by rw [y1]; exact zTU_sf hg hi
      have hF1 : υ1 b 0 = nI F := hgv.r0
      obtain ⟨t, ht, et⟩ := hg.td c63
      refine zw_aload0 hB dX1_passYear_73 ?_
      refine zw_aload0 hB dX1_passYear_74 ?_
      refine zw_getfR hB dX1_passYear_75 zf_X1_31 hb.1 rfl ?_
      refine zw_iload2 hB dX1_passYear_78 ?_
      refine zw_ialdV (x := zat (zrow σ b) i) hB dX1_passYear_79 hb.2.2.2.2.2.2.1 (by omega) (by decide) ((zrow_at (by omega)).trans hat) ?_
      refine zw_callV1P (M' := mX1_hasFarm) hB dX1_passYear_80 zl_X1_92 zg_X1_hasFarm (zRc.of hb.1 rfl rfl) (s_X1_hasFarm hb _) ?_
      refine zw_if_eqB (tgt := 94) hB dX1_passYear_83 (by decide) (fun c83 => ?_) (fun c83 => ?_)
      · have hnw : ¬ zwk (zrow σ b) i = true := by
          intro q
          have h1 := zwk_iff.mp q
          have h2 := hg.sf6 c63 q
          refine c83 ⟨h1.1, ?_⟩
          rw [hF1, h2.2]
          exact fun z => absurd ((nI_leI (by omega) (by omega)).mp z) (by omega)
        refine zw_aload0 hB dX1_passYear_94 ?_
        refine zw_getfR hB dX1_passYear_95 zf_X1_28 hb.1 rfl ?_
        refine zw_iload2 hB dX1_passYear_98 ?_
        refine zw_iconst (x := nI 0) hB dX1_passYear_99 (by decide) ?_
        refine zw_aload0 hB dX1_passYear_100 ?_
        refine zw_getfR hB dX1_passYear_101 zf_X1_28 hb.1 rfl ?_
        refine zw_iload2 hB dX1_passYear_104 ?_
        refine zw_ialdV (x := nI t) hB dX1_passYear_105 hb.2.2.2.2.2.1 (by omega) (by decide) ((zrow_td (by omega)).trans (htd.trans et)) ?_
        refine zw_iconst (x := nI 5) hB dX1_passYear_106 (by decide) ?_
        refine zw_isub hB dX1_passYear_107 ?_
        refine zw_max hB dX1_passYear_108 zl_X1_120 (by first | exact Nat.le_of_ble_eq_true rfl | decide) ?_
        refine zw_iastN hB dX1_passYear_111 hb.2.2.2.2.2.1 (by omega) (by decide) ?_
        refine zw_goto (tgt := 126) hB dX1_passYear_112 (by decide) ?_
        refine zw_iinc2 hB dX1_passYear_126 (by first | exact zinc _ | rfl) rfl ?_
        refine zw_goto (tgt := 58) hB dX1_passYear_129 (by decide) ?_
        refine ih c63 v _ ?_ ?_ ?_ ?_ ?_
        · rw [zrow_sett (by omega), y1]
          have e : ztd (zTn (zU (upd (zrow σ b) 4 (zrow σ b 4 + nI 1))) i) i = nI t := by rw [zTU_td hg c63]; exact et
          show _ = zT (zTn (zU (upd (zrow σ b) 4 (zrow σ b 4 + nI 1))) i) i
          funext k
          rw [zT_kn (by rw [zTU_wk hg c63]; exact hnw)]
          by_cases z : k = 25 + 4 * i
          · subst z
            rw [zupd_s, if_pos rfl, zmax5 t (by omega), show zTn (zU (upd (zrow σ b) 4 (zrow σ b 4 + nI 1))) i (25 + 4 * i) = nI t from e]
          · rw [zupd_o z, if_neg z]
        · rw [zC_n (by omega), b1, bu, zAl, show zgw (zrow σ b) i = nI 0 by unfold zgw; rw [if_neg hnw], zadd0]
        · intro f hf
          rw [zC_n (by omega), f1, fu f hf, zgF, if_neg (fun q => hnw q.1)]
        · intro q hq
          rw [zC_n (by omega), p1]
          by_cases z : q = i
          · subst z; rw [zupd_s]; unfold zgw; rw [if_neg hnw]
          · rw [zupd_o z]; exact pu q (by omega)
        · exact fun c hc => (zC_n (by omega)).trans (u1 c hc)
      · refine zw_aload0 hB dX1_passYear_86 ?_
        refine zw_iload2 hB dX1_passYear_87 ?_
        refine zw_callV1P (M' := mX1_isWorn) hB dX1_passYear_88 zl_X1_82 zg_X1_isWorn (zRc.of hb.1 rfl rfl) (s_X1_isWorn hb (by omega)) ?_
        refine zw_if_eqB (tgt := 115) hB dX1_passYear_91 (by decide) (fun c91 => ?_) (fun c91 => ?_)
        · have hww : zwk (zrow υ1 b) i = true := zwk_iff.mpr ⟨by rw [hat]; exact c83.1, fun z => c91 (by rw [zrow_td (σ := υ1) (b := b) (p := i) (by omega)]; exact Int32.not_lt.mpr z)⟩
          have hw0 : zwk (zrow σ b) i = true := by rw [← hwk]; exact hww
          refine zw_aload0 hB dX1_passYear_115 ?_
          refine zw_iload2 hB dX1_passYear_116 ?_
          refine zw_aload0 hB dX1_passYear_117 ?_
          refine zw_getfR hB dX1_passYear_118 zf_X1_31 hb.1 rfl ?_
          refine zw_iload2 hB dX1_passYear_121 ?_
          refine zw_ialdV (x := nI (zsf (zrow υ1 b) i)) hB dX1_passYear_122 hb.2.2.2.2.2.2.1 (by omega) (by decide) ((zrow_at (by omega)).trans (hgv.sf6 c63 hww).2) ?_
          refine zw_callV2 (M' := mX1_till) hB dX1_passYear_123 zl_X1_123 zg_X1_till (zRc.of hb.1 rfl rfl) (s_X1_till hb hgv c63 hww) (fun v123 σ123 hq123 => ?_)
          obtain ⟨rfl, x1, x2, x3, x4, x5⟩ := hq123
          refine zw_iinc2 hB dX1_passYear_126 (by first | exact zinc _ | rfl) rfl ?_
          refine zw_goto (tgt := 58) hB dX1_passYear_129 (by decide) ?_
          refine ih c63 v _ ?_ ?_ ?_ ?_ ?_
          · rw [x1, y1]; rfl
          · rw [x2, zupd_s, b1, bu, hgw, zAl]
          · intro f hf
            rw [x3, f1, hgw, hsf, zgF]
            by_cases z : f = zsf (zrow σ b) i
            · subst z; rw [zupd_s, if_pos ⟨hw0, rfl⟩]
            · rw [zupd_o z, if_neg (fun q => z q.2.symm)]; exact fu f hf
          · intro q hq
            rw [x4, p1, hgw]
            by_cases z : q = i
            · subst z; rw [zupd_s]
            · rw [zupd_o z, zupd_o z]; exact pu q (by omega)
          · exact u1.tr x5
        · have hnw : ¬ zwk (zrow σ b) i = true := by
            intro q
            have h1 := zwk_iff.mp q
            rw [zrow_td (σ := υ1) (b := b) (p := i) (by omega), htd] at c91
            exact h1.2 (Int32.not_lt.mp c91)
          refine zw_aload0 hB dX1_passYear_94 ?_
          refine zw_getfR hB dX1_passYear_95 zf_X1_28 hb.1 rfl ?_
          refine zw_iload2 hB dX1_passYear_98 ?_
          refine zw_iconst (x := nI 0) hB dX1_passYear_99 (by decide) ?_
          refine zw_aload0 hB dX1_passYear_100 ?_
          refine zw_getfR hB dX1_passYear_101 zf_X1_28 hb.1 rfl ?_
          refine zw_iload2 hB dX1_passYear_104 ?_
          refine zw_ialdV (x := nI t) hB dX1_passYear_105 hb.2.2.2.2.2.1 (by omega) (by decide) ((zrow_td (by omega)).trans (htd.trans et)) ?_
          refine zw_iconst (x := nI 5) hB dX1_passYear_106 (by decide) ?_
          refine zw_isub hB dX1_passYear_107 ?_
          refine zw_max hB dX1_passYear_108 zl_X1_120 (by first | exact Nat.le_of_ble_eq_true rfl | decide) ?_
          refine zw_iastN hB dX1_passYear_111 hb.2.2.2.2.2.1 (by omega) (by decide) ?_
          refine zw_goto (tgt := 126) hB dX1_passYear_112 (by decide) ?_
          refine zw_iinc2 hB dX1_passYear_126 (by first | exact zinc _ | rfl) rfl ?_
          refine zw_goto (tgt := 58) hB dX1_passYear_129 (by decide) ?_
          refine ih c63 v _ ?_ ?_ ?_ ?_ ?_
          · rw [zrow_sett (by omega), y1]
            have e : ztd (zTn (zU (upd (zrow σ b) 4 (zrow σ b 4 + nI 1))) i) i = nI t := by rw [zTU_td hg c63]; exact et
            show _ = zT (zTn (zU (upd (zrow σ b) 4 (zrow σ b 4 + nI 1))) i) i
            funext k
            rw [zT_kn (by rw [zTU_wk hg c63]; exact hnw)]
            by_cases z : k = 25 + 4 * i
            · subst z
              rw [zupd_s, if_pos rfl, zmax5 t (by omega), show zTn (zU (upd (zrow σ b) 4 (zrow σ b 4 + nI 1))) i (25 + 4 * i) = nI t from e]
            · rw [zupd_o z, if_neg z]
          · rw [zC_n (by omega), b1, bu, zAl, show zgw (zrow σ b) i = nI 0 by unfold zgw; rw [if_neg hnw], zadd0]
          · intro f hf
            rw [zC_n (by omega), f1, fu f hf, zgF, if_neg (fun q => hnw q.1)]
          · intro q hq
            rw [zC_n (by omega), p1]
            by_cases z : q = i
            · subst z; rw [zupd_s]; unfold zgw; rw [if_neg hnw]
            · rw [zupd_o z]; exact pu q (by omega)
          · exact fun c hc => (zC_n (by omega)).trans (u1 c hc)
  have hl1 : ∀ i, i ≤ F → ∀ υ : zSt, zrow υ b = zUi (zrow σ1 b) i → υ b 5 = nI 0 → (∀ f, f < i → υ (b + 2) f = nI 0) → zOut b σ υ → zW X 22 [some (.ref b), some (.int (zfm (zrow σ1 b) F)), some (.int (nI i))] [] υ := by
    refine zfor F (fun i hi ih => ?_)
    intro υ zu bu fu ou
    have hFu : υ b 0 = nI F := by
      have := congrFun zu 0
      rw [zrow_f (by omega)] at this
      rw [this]
      unfold zUi
      rw [if_neg (by omega)]
      exact hg1.r0
    refine zw_iload2 hB dX1_passYear_22 ?_
    refine zw_aload0 hB dX1_passYear_23 ?_
    refine zw_getfV (x := nI F) hB dX1_passYear_24 zf_X1_37 hb.1 rfl (hFu) ?_
    refine zw_icmp_geN (tgt := 56) hB dX1_passYear_27 (by decide) (by omega) (by omega) (fun c27 => ?_) (fun c27 => ?_)
    · refine zw_iconst (x := nI 0) hB dX1_passYear_56 (by decide) ?_
      refine zw_istore2 hB dX1_passYear_57 rfl ?_
      refine hl2 0 (by omega) _ υ ?_ bu ?_ (fun q hq => absurd hq (by omega)) ou
      · rw [zu, show i = F by omega, zUi_F hg1.nF, z1]; rfl
      · exact fun f hf => fu f (by omega)
    · refine zw_aload0 hB dX1_passYear_30 ?_
      refine zw_getfR hB dX1_passYear_31 zf_X1_19 hb.1 rfl ?_
      refine zw_iload2 hB dX1_passYear_34 ?_
      refine zw_iconst (x := nI 0) hB dX1_passYear_35 (by decide) ?_
      refine zw_iastN hB dX1_passYear_36 hb.2.2.1 (by omega) (by decide) ?_
      refine zw_iload1 hB dX1_passYear_37 ?_
      refine zw_iconst (x := nI 1) hB dX1_passYear_38 (by decide) ?_
      refine zw_iload2 hB dX1_passYear_39 ?_
      refine zw_ishl hB dX1_passYear_40 ?_
      refine zw_iand hB dX1_passYear_41 ?_
      refine zw_if_eq (tgt := 50) hB dX1_passYear_42 (by decide) (fun c42 => ?_) (fun c42 => ?_)
      · refine zw_iinc2 hB dX1_passYear_50 (by first | exact zinc _ | rfl) rfl ?_
        refine zw_goto (tgt := 22) hB dX1_passYear_53 (by decide) ?_
        refine ih c27 _ ?_ ?_ ?_ ?_
        · rw [← zUi_n ((zfm_t hg.F6 (by omega)).mp c42), ← zu]; exact zrow_congr' (fun k hk => by rw [zC_n (by omega)]) (fun c h1 h2 h3 => zC_n h3)
        · rw [zC_n (by omega)]; exact bu
        · intro f hf
          rw [zC_s]
          by_cases z : f = i
          · subst z; rw [zupd_s]
          · rw [zupd_o z]; exact fu f (by omega)
        · exact fun c hc => (zC_n (by omega)).trans (ou c hc)
      · refine zw_aload0 hB dX1_passYear_45 ?_
        refine zw_iload2 hB dX1_passYear_46 ?_
        refine zw_callV1 (M' := mX1_lieUntilled) hB dX1_passYear_47 zl_X1_116 zg_X1_lieUntilled (zRc.of hb.1 rfl rfl) (s_X1_lieUntilled hb (by omega)) (fun v47 σ47 hq47 => ?_)
        obtain ⟨rfl, x1, x2⟩ := hq47
        refine zw_iinc2 hB dX1_passYear_50 (by first | exact zinc _ | rfl) rfl ?_
        refine zw_goto (tgt := 22) hB dX1_passYear_53 (by decide) ?_
        refine ih c27 _ ?_ ?_ ?_ ?_
        · rw [x1, ← zUi_s (Decidable.not_not.mp (fun z => c42 ((zfm_t hg.F6 (by omega)).mpr z))), ← zu]; exact congrArg (fun q => zU1 q i) (zrow_congr' (fun k hk => by rw [zC_n (by omega)]) (fun c h1 h2 h3 => zC_n h3))
        · rw [x2 b (by omega), zC_n (by omega)]; exact bu
        · intro f hf
          rw [x2 _ (by omega), zC_s]
          by_cases z : f = i
          · subst z; rw [zupd_s]
          · rw [zupd_o z]; exact fu f (by omega)
        · exact fun c hc => (x2 c (by omega)).trans ((zC_n (by omega)).trans (ou c hc))
  refine zw_aload0 hB dX1_passYear_15 ?_
  refine zw_callV0P (M' := mX1_freeFarms) hB dX1_passYear_16 zl_X1_113 zg_X1_freeFarms (zRc.of hb.1 rfl rfl) (s_X1_freeFarms hb hg1) ?_
  refine zw_istore1 hB dX1_passYear_19 rfl ?_
  refine zw_iconst (x := nI 0) hB dX1_passYear_20 (by decide) ?_
  refine zw_istore2 hB dX1_passYear_21 rfl ?_
  exact hl1 0 (by omega) σ1 (by rw [zUi_0]) b1 (fun f hf => absurd hf (by omega)) o1
