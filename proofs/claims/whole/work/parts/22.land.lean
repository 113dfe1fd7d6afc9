/-! LAND: exchange, comers, comparisons, feeding, bits -/
def zEx (r : zRw) (p q : Nat) : zRw := fun k => if k = 26 + 4 * p then r (26 + 4 * q) else if k = 26 + 4 * q then r (26 + 4 * p) else r k
def zAf (r : zRw) (x y z : Int32) : zRw := fun k => if k = 0 then nI (zNF r + 1) else if k = 5 + 3 * zNF r then x else if k = 5 + 3 * zNF r + 1 then y else if k = 5 + 3 * zNF r + 2 then z else r k
def zAp (r : zRw) (x y : Int32) : zRw := fun k => if k = 1 then nI (zNP r + 1) else if k = 23 + 4 * zNP r then x else if k = 24 + 4 * zNP r then y else if k = 25 + 4 * zNP r then nI 0 else if k = 26 + 4 * zNP r then -9 else r k
/-- one place more, told by its cell -/
theorem zrow_set4 {σ : zSt} {b i w q : Nat} {x : Int32} (hw : w < 4) (hq : q < 6) (hi : i = b + 3 + w) : zrow (zC σ i (upd (σ i) q x)) b = upd (zrow σ b) (23 + w + 4 * q) x := by
  subst hi
  have h4 : w = 0 ∨ w = 1 ∨ w = 2 ∨ w = 3 := by omega
  refine zrow_ext (fun k hk => ?_) (fun k hk => ?_) (fun p hp => ?_) (fun p hp => ?_) (fun p hp => ?_) (fun p hp => ?_) (fun k hk => ?_)
  · rw [zupd_o (by omega), zrow_f hk, zrow_f hk, zC_n (by omega)]
  · rw [zupd_o (by omega), zrow_h hk, zrow_h hk, zC_n (by omega)]
  · rcases h4 with rfl | rfl | rfl | rfl
    · rw [← zrow_kd hp, zC_s]
      by_cases e : p = q
      · subst e; rw [zupd_s, zupd_s]
      · rw [zupd_o e, zupd_o (by omega)]; exact zrow_kd hp
    all_goals (rw [zupd_o (by omega), ← zrow_kd hp, ← zrow_kd hp, zC_n (by omega)])
  · rcases h4 with rfl | rfl | rfl | rfl
    · rw [zupd_o (by omega), ← zrow_fg hp, ← zrow_fg hp, zC_n (by omega)]
    · rw [← zrow_fg hp, zC_s]
      by_cases e : p = q
      · subst e; rw [zupd_s, zupd_s]
      · rw [zupd_o e, zupd_o (by omega)]; exact zrow_fg hp
    all_goals (rw [zupd_o (by omega), ← zrow_fg hp, ← zrow_fg hp, zC_n (by omega)])
  · rcases h4 with rfl | rfl | rfl | rfl
    · rw [zupd_o (by omega)]; exact (zrow_td hp).symm.trans ((congrFun (zC_n (by omega)) p).trans (zrow_td hp))
    · rw [zupd_o (by omega)]; exact (zrow_td hp).symm.trans ((congrFun (zC_n (by omega)) p).trans (zrow_td hp))
    · refine (zrow_td hp).symm.trans ((congrFun zC_s p).trans ?_)
      by_cases e : p = q
      · subst e; rw [zupd_s, zupd_s]
      · rw [zupd_o e, zupd_o (by omega)]; exact zrow_td hp
    · rw [zupd_o (by omega)]; exact (zrow_td hp).symm.trans ((congrFun (zC_n (by omega)) p).trans (zrow_td hp))
  · rcases h4 with rfl | rfl | rfl | rfl
    · rw [zupd_o (by omega)]; exact (zrow_at hp).symm.trans ((congrFun (zC_n (by omega)) p).trans (zrow_at hp))
    · rw [zupd_o (by omega)]; exact (zrow_at hp).symm.trans ((congrFun (zC_n (by omega)) p).trans (zrow_at hp))
    · rw [zupd_o (by omega)]; exact (zrow_at hp).symm.trans ((congrFun (zC_n (by omega)) p).trans (zrow_at hp))
    · refine (zrow_at hp).symm.trans ((congrFun zC_s p).trans ?_)
      by_cases e : p = q
      · subst e; rw [zupd_s, zupd_s]
      · rw [zupd_o e, zupd_o (by omega)]; exact zrow_at hp
  · rw [zupd_o (by omega), zrow_out hk, zrow_out hk]

theorem s_X1_exchange {n : Nat} {σ : zSt} {b : Nat} (hb : zLd b) {p q : Nat} (hp : p < 6) (hq : q < 6) (hpq : p ≠ q) : zSem n mX1_exchange [.ref b, .int (nI p), .int (nI q)] σ (fun v τ => v = none ∧ zrow τ b = zEx (zrow σ b) p q ∧ ∀ d, d ≠ b + 6 → τ d = σ d) := by
  refine zSem.of (by decide +kernel) (Nat.le_of_ble_eq_true rfl) (fun X hB hR => ?_)
  show zW X 0 [some (.ref b), some (.int (nI p)), some (.int (nI q)), none] [] σ
  refine zw_aload0 hB dX1_exchange_0 ?_
  refine zw_getfR hB dX1_exchange_1 zf_X1_31 hb.1 rfl ?_
  refine zw_iload1 hB dX1_exchange_4 ?_
  refine zw_ialdV (x := zat (zrow σ b) p) hB dX1_exchange_5 hb.2.2.2.2.2.2.1 (by omega) (by decide) (zrow_at hp) ?_
  refine zw_istore3 hB dX1_exchange_6 rfl ?_
  refine zw_aload0 hB dX1_exchange_7 ?_
  refine zw_getfR hB dX1_exchange_8 zf_X1_31 hb.1 rfl ?_
  refine zw_iload1 hB dX1_exchange_11 ?_
  refine zw_aload0 hB dX1_exchange_12 ?_
  refine zw_getfR hB dX1_exchange_13 zf_X1_31 hb.1 rfl ?_
  refine zw_iload2 hB dX1_exchange_16 ?_
  refine zw_ialdV (x := zat (zrow σ b) q) hB dX1_exchange_17 hb.2.2.2.2.2.2.1 (by omega) (by decide) (zrow_at hq) ?_
  refine zw_iastN hB dX1_exchange_18 hb.2.2.2.2.2.2.1 (by omega) (by decide) ?_
  refine zw_aload0 hB dX1_exchange_19 ?_
  refine zw_getfR hB dX1_exchange_20 zf_X1_31 hb.1 rfl ?_
  refine zw_iload2 hB dX1_exchange_23 ?_
  refine zw_iload3 hB dX1_exchange_24 ?_
  refine zw_iastN hB dX1_exchange_25 hb.2.2.2.2.2.2.1 (by omega) (by decide) ?_
  refine zw_vret hB hR dX1_exchange_26 rfl ?_
  refine ⟨rfl, ?_, fun d hd => by simp only [zC_n hd]⟩
  rw [zrow_set4 (w := 3) (by omega) hq (by omega), zrow_set4 (w := 3) (by omega) hp (by omega)]
  funext k
  unfold zEx zat
  by_cases e1 : k = 26 + 4 * p
  · subst e1
    rw [zupd_o (by omega), if_pos rfl, show 23 + 3 + 4 * p = 26 + 4 * p by omega, zupd_s]
  · rw [if_neg e1]
    by_cases e2 : k = 26 + 4 * q
    · subst e2
      rw [if_pos rfl, show 23 + 3 + 4 * q = 26 + 4 * q by omega, zupd_s]
    · rw [if_neg e2, zupd_o (by omega), zupd_o (by omega)]
theorem s_X1_addFarm {n : Nat} {σ : zSt} {b F : Nat} (hb : zLd b) (hF : σ b 0 = nI F) (hF6 : F < 6) (x y z : Int32) : zSem (n + 1) mX1_addFarm [.ref b, .int x, .int y, .int z] σ (fun v τ => v = none ∧ zrow τ b = zAf (zrow σ b) x y z ∧ zOut b σ τ) := by
  have hnF : zNF (zrow σ b) = F := by rw [zNF, show (zrow σ b) 0 = nI F from hF, nI_clamp (by omega)]
  refine zSem.of (by decide +kernel) (Nat.le_of_ble_eq_true rfl) (fun X hB hR => ?_)
  show zW X 0 [some (.ref b), some (.int x), some (.int y), some (.int z)] [] σ
  refine zw_aload0 hB dX1_addFarm_0 ?_
  refine zw_getfV (x := nI F) hB dX1_addFarm_1 zf_X1_37 hb.1 rfl (hF) ?_
  refine zw_bipush (x := nI 6) hB dX1_addFarm_4 (by decide) ?_
  refine zw_icmp_ltN (tgt := 10) hB dX1_addFarm_6 (by decide) (by omega) (by omega) (fun c6 => ?_) (fun c6 => by first | exact absurd (by omega) c6 | exact absurd c6 (by omega) | omega)
  refine zw_aload0 hB dX1_addFarm_10 ?_
  refine zw_aload0 hB dX1_addFarm_11 ?_
  refine zw_getfV (x := nI F) hB dX1_addFarm_12 zf_X1_37 hb.1 rfl (hF) ?_
  refine zw_iconst (x := nI 0) hB dX1_addFarm_15 (by decide) ?_
  refine zw_iload1 hB dX1_addFarm_16 ?_
  refine zw_callV3U (M' := mX1_setHeart) hB dX1_addFarm_17 zl_X1_55 zg_X1_setHeart (zRc.of hb.1 rfl rfl) (s_X1_setHeart hb _ (by omega) (by omega)) ?_
  refine zw_aload0 hB dX1_addFarm_20 ?_
  refine zw_aload0 hB dX1_addFarm_21 ?_
  refine zw_getfV (x := nI F) hB dX1_addFarm_22 zf_X1_37 hb.1 rfl ((congrFun (zC_n (by omega)) 0).trans hF) ?_
  refine zw_iconst (x := nI 1) hB dX1_addFarm_25 (by decide) ?_
  refine zw_iload2 hB dX1_addFarm_26 ?_
  refine zw_callV3U (M' := mX1_setHeart) hB dX1_addFarm_27 zl_X1_55 zg_X1_setHeart (zRc.of hb.1 rfl rfl) (s_X1_setHeart hb _ (by omega) (by omega)) ?_
  refine zw_aload0 hB dX1_addFarm_30 ?_
  refine zw_aload0 hB dX1_addFarm_31 ?_
  refine zw_getfV (x := nI F) hB dX1_addFarm_32 zf_X1_37 hb.1 rfl (by rw [zC_n (by omega), zC_n (by omega)]; exact hF) ?_
  refine zw_iconst (x := nI 2) hB dX1_addFarm_35 (by decide) ?_
  refine zw_iload3 hB dX1_addFarm_36 ?_
  refine zw_callV3U (M' := mX1_setHeart) hB dX1_addFarm_37 zl_X1_55 zg_X1_setHeart (zRc.of hb.1 rfl rfl) (s_X1_setHeart hb _ (by omega) (by omega)) ?_
  refine zw_aload0 hB dX1_addFarm_40 ?_
  refine zw_dup hB dX1_addFarm_41 rfl ?_
  refine zw_getfV (x := nI F) hB dX1_addFarm_42 zf_X1_37 hb.1 rfl (by rw [zC_n (by omega), zC_n (by omega), zC_n (by omega)]; exact hF) ?_
  refine zw_iconst (x := nI 1) hB dX1_addFarm_45 (by decide) ?_
  refine zw_iaddN hB dX1_addFarm_46 ?_
  refine zw_putfI hB dX1_addFarm_47 zfw_X1_37 hb.1 rfl ?_
  refine zw_vret hB hR dX1_addFarm_50 rfl ?_
  refine ⟨rfl, ?_, fun d hd => by rw [zC_n (by omega), zC_n (by omega), zC_n (by omega), zC_n (by omega)]⟩
  rw [zrow_setf, if_pos (by omega), zrow_seth (by omega), zrow_seth (by omega), zrow_seth (by omega)]
  funext k
  unfold zAf
  rw [hnF]
  by_cases e0 : k = 0
  · subst e0; rw [zupd_s, if_pos rfl]
  · rw [zupd_o e0, if_neg e0]
    by_cases e3 : k = 5 + (3 * F + 2)
    · subst e3; rw [zupd_s, if_neg (by omega), if_neg (by omega), if_pos (by omega)]
    · rw [zupd_o e3]
      by_cases e2 : k = 5 + (3 * F + 1)
      · subst e2; rw [zupd_s, if_neg (by omega), if_pos (by omega)]
      · rw [zupd_o e2]
        by_cases e1 : k = 5 + (3 * F + 0)
        · subst e1; rw [zupd_s, if_pos (by omega)]
        · rw [zupd_o e1, if_neg (by omega), if_neg (by omega), if_neg (by omega)]
theorem s_X1_addFarmer {n : Nat} {σ : zSt} {b P : Nat} (hb : zLd b) (hP : σ b 1 = nI P) (hP6 : P < 6) (x y : Int32) : zSem n mX1_addFarmer [.ref b, .int x, .int y] σ (fun v τ => v = none ∧ zrow τ b = zAp (zrow σ b) x y ∧ zOut b σ τ) := by
  have hnP : zNP (zrow σ b) = P := by rw [zNP, show (zrow σ b) 1 = nI P from hP, nI_clamp (by omega)]
  refine zSem.of (by decide +kernel) (Nat.le_of_ble_eq_true rfl) (fun X hB hR => ?_)
  show zW X 0 [some (.ref b), some (.int x), some (.int y)] [] σ
  refine zw_aload0 hB dX1_addFarmer_0 ?_
  refine zw_getfV (x := nI P) hB dX1_addFarmer_1 zf_X1_40 hb.1 rfl (by exact hP) ?_
  refine zw_bipush (x := nI 6) hB dX1_addFarmer_4 (by decide) ?_
  refine zw_icmp_ltN (tgt := 10) hB dX1_addFarmer_6 (by decide) (by omega) (by omega) (fun c6 => ?_) (fun c6 => by first | exact absurd (by omega) c6 | exact absurd c6 (by omega) | omega)
  refine zw_aload0 hB dX1_addFarmer_10 ?_
  refine zw_getfR hB dX1_addFarmer_11 zf_X1_22 hb.1 rfl ?_
  refine zw_aload0 hB dX1_addFarmer_14 ?_
  refine zw_getfV (x := nI P) hB dX1_addFarmer_15 zf_X1_40 hb.1 rfl (by exact hP) ?_
  refine zw_iload1 hB dX1_addFarmer_18 ?_
  refine zw_iastN hB dX1_addFarmer_19 hb.2.2.2.1 (by omega) (by decide) ?_
  refine zw_aload0 hB dX1_addFarmer_20 ?_
  refine zw_getfR hB dX1_addFarmer_21 zf_X1_25 hb.1 rfl ?_
  refine zw_aload0 hB dX1_addFarmer_24 ?_
  refine zw_getfV (x := nI P) hB dX1_addFarmer_25 zf_X1_40 hb.1 rfl (by rw [zC_n (by omega)]; exact hP) ?_
  refine zw_iload2 hB dX1_addFarmer_28 ?_
  refine zw_iastN hB dX1_addFarmer_29 hb.2.2.2.2.1 (by omega) (by decide) ?_
  refine zw_aload0 hB dX1_addFarmer_30 ?_
  refine zw_getfR hB dX1_addFarmer_31 zf_X1_28 hb.1 rfl ?_
  refine zw_aload0 hB dX1_addFarmer_34 ?_
  refine zw_getfV (x := nI P) hB dX1_addFarmer_35 zf_X1_40 hb.1 rfl (by rw [zC_n (by omega), zC_n (by omega)]; exact hP) ?_
  refine zw_iconst (x := nI 0) hB dX1_addFarmer_38 (by decide) ?_
  refine zw_iastN hB dX1_addFarmer_39 hb.2.2.2.2.2.1 (by omega) (by decide) ?_
  refine zw_aload0 hB dX1_addFarmer_40 ?_
  refine zw_getfR hB dX1_addFarmer_41 zf_X1_31 hb.1 rfl ?_
  refine zw_aload0 hB dX1_addFarmer_44 ?_
  refine zw_getfV (x := nI P) hB dX1_addFarmer_45 zf_X1_40 hb.1 rfl (by rw [zC_n (by omega), zC_n (by omega), zC_n (by omega)]; exact hP) ?_
  refine zw_bipush (x := -9) hB dX1_addFarmer_48 (by decide) ?_
  refine zw_iastN hB dX1_addFarmer_50 hb.2.2.2.2.2.2.1 (by omega) (by decide) ?_
  refine zw_aload0 hB dX1_addFarmer_51 ?_
  refine zw_dup hB dX1_addFarmer_52 rfl ?_
  refine zw_getfV (x := nI P) hB dX1_addFarmer_53 zf_X1_40 hb.1 rfl (by rw [zC_n (by omega), zC_n (by omega), zC_n (by omega), zC_n (by omega)]; exact hP) ?_
  refine zw_iconst (x := nI 1) hB dX1_addFarmer_56 (by decide) ?_
  refine zw_iaddN hB dX1_addFarmer_57 ?_
  refine zw_putfI hB dX1_addFarmer_58 zfw_X1_40 hb.1 rfl ?_
  refine zw_vret hB hR dX1_addFarmer_61 rfl ?_
  refine ⟨rfl, ?_, fun d hd => by rw [zC_n (by omega), zC_n (by omega), zC_n (by omega), zC_n (by omega), zC_n (by omega)]⟩
  rw [zrow_setf, if_pos (by omega), zrow_set4 (w := 3) (by omega) hP6 (by omega), zrow_set4 (w := 2) (by omega) hP6 (by omega), zrow_set4 (w := 1) (by omega) hP6 (by omega), zrow_set4 (w := 0) (by omega) hP6 (by omega)]
  funext k
  unfold zAp
  rw [hnP]
  by_cases e0 : k = 1
  · subst e0; rw [zupd_s, if_pos rfl]
  · rw [zupd_o e0, if_neg e0]
    by_cases e3 : k = 23 + 3 + 4 * P
    · subst e3; rw [zupd_s, if_neg (by omega), if_neg (by omega), if_neg (by omega), if_pos (by omega)]
    · rw [zupd_o e3]
      by_cases e2 : k = 23 + 2 + 4 * P
      · subst e2; rw [zupd_s, if_neg (by omega), if_neg (by omega), if_pos (by omega)]
      · rw [zupd_o e2]
        by_cases e1 : k = 23 + 1 + 4 * P
        · subst e1; rw [zupd_s, if_neg (by omega), if_pos (by omega)]
        · rw [zupd_o e1]
          by_cases e4 : k = 23 + 0 + 4 * P
          · subst e4; rw [zupd_s, if_pos (by omega)]
          · rw [zupd_o e4, if_neg (by omega), if_neg (by omega), if_neg (by omega), if_neg (by omega)]
theorem zgb_ga {r : zRw} {F P p : Nat} (h : zGd r F P) (hp : p < P) (hs : ¬ zat r p < 0) : zgb r p (zat r p) = zga r p (zsf r p) := by
  unfold zgb zga
  by_cases c : ztd r p < nI 10
  · rw [if_neg (fun q => q.elim hs (fun z => absurd c (Int32.not_lt.mpr z))), if_pos c]; rfl
  · rw [if_pos (Or.inr (Int32.not_lt.mp c)), if_neg c]
theorem s_X1_grownNow {n : Nat} {σ : zSt} {b F P : Nat} (hb : zLd b) (hg : zGd (zrow σ b) F P) {p : Nat} (hp : p < P) : zSem (n + 2) mX1_grownNow [.ref b, .int (nI p)] σ (zP σ (.int (zgb (zrow σ b) p (zat (zrow σ b) p)))) := by
  have hF6 := hg.F6
  have hP6 := hg.P6
  have hF : σ b 0 = nI F := hg.r0
  have hP : σ b 1 = nI P := hg.r1
  refine zSem.of (by decide +kernel) (Nat.le_of_ble_eq_true rfl) (fun X hB hR => ?_)
  show zW X 0 [some (.ref b), some (.int (nI p))] [] σ
  rcases hg.seat hp with ⟨e, hs⟩ | ⟨e, hs, hn⟩
  · refine zw_aload0 hB dX1_grownNow_0 ?_
    refine zw_aload0 hB dX1_grownNow_1 ?_
    refine zw_getfR hB dX1_grownNow_2 zf_X1_31 hb.1 rfl ?_
    refine zw_iload1 hB dX1_grownNow_5 ?_
    refine zw_ialdV (x := zat (zrow σ b) p) hB dX1_grownNow_6 hb.2.2.2.2.2.2.1 (by omega) (by decide) (zrow_at (by omega)) ?_
    refine zw_callV1P (M' := mX1_hasFarm) hB dX1_grownNow_7 zl_X1_92 zg_X1_hasFarm (zRc.of hb.1 rfl rfl) (s_X1_hasFarm hb _) ?_
    refine zw_if_eqB (tgt := 27) hB dX1_grownNow_10 (by decide) (fun c10 => ?_) (fun c10 => ?_)
    · refine zw_iconst (x := nI 0) hB dX1_grownNow_27 (by decide) ?_
      refine zw_iret hB hR dX1_grownNow_28 rfl ?_
      exact ⟨by unfold zgb; rw [if_pos (Or.inl hs)], rfl⟩
    · exact absurd hs c10.1
  · refine zw_aload0 hB dX1_grownNow_0 ?_
    refine zw_aload0 hB dX1_grownNow_1 ?_
    refine zw_getfR hB dX1_grownNow_2 zf_X1_31 hb.1 rfl ?_
    refine zw_iload1 hB dX1_grownNow_5 ?_
    refine zw_ialdV (x := zat (zrow σ b) p) hB dX1_grownNow_6 hb.2.2.2.2.2.2.1 (by omega) (by decide) (zrow_at (by omega)) ?_
    refine zw_callV1P (M' := mX1_hasFarm) hB dX1_grownNow_7 zl_X1_92 zg_X1_hasFarm (zRc.of hb.1 rfl rfl) (s_X1_hasFarm hb _) ?_
    refine zw_if_eqB (tgt := 27) hB dX1_grownNow_10 (by decide) (fun c10 => ?_) (fun c10 => ?_)
    · exact absurd ⟨hn, by rw [hF, e]; exact fun z => absurd ((nI_leI (by omega) (by omega)).mp z) (by omega)⟩ c10
    · refine zw_aload0 hB dX1_grownNow_13 ?_
      refine zw_iload1 hB dX1_grownNow_14 ?_
      refine zw_aload0 hB dX1_grownNow_15 ?_
      refine zw_getfR hB dX1_grownNow_16 zf_X1_31 hb.1 rfl ?_
      refine zw_iload1 hB dX1_grownNow_19 ?_
      refine zw_ialdV (x := nI (zsf (zrow σ b) p)) hB dX1_grownNow_20 hb.2.2.2.2.2.2.1 (by omega) (by decide) ((zrow_at (by omega)).trans e) ?_
      refine zw_callV2P (M' := mX1_grownAt) hB dX1_grownNow_21 zl_X1_95 zg_X1_grownAt (zRc.of hb.1 rfl rfl) (s_X1_grownAt hb hg hp (by omega)) ?_
      refine zw_goto (tgt := 28) hB dX1_grownNow_24 (by decide) ?_
      refine zw_iret hB hR dX1_grownNow_28 rfl ?_
      exact ⟨by rw [zgb_ga hg hp hn], rfl⟩
def zFe (r s : zRw) (F P : Nat) : Prop := (∀ i, i < 3 * F → r (5 + i) = s (5 + i)) ∧ ∀ p, p < P → ztd r p = ztd s p
def zSe (r s : zRw) (P : Nat) : Prop := ∀ p, p < P → zat r p = zat s p
theorem s_X1_isAsFreshAs {n : Nat} {σ : zSt} {b c F P : Nat} (hb : zLd b) (hg : zGd (zrow σ b) F P) (hc : zLd c) : zSem n mX1_isAsFreshAs [.ref b, .ref c] σ (fun v τ => ∃ x : Int32, ((x = 1 ∧ zFe (zrow σ b) (zrow σ c) F P) ∨ (x = 0 ∧ ¬ zFe (zrow σ b) (zrow σ c) F P)) ∧ v = some (.int x) ∧ τ = σ) := by
  have hF6 := hg.F6
  have hP6 := hg.P6
  have hF : σ b 0 = nI F := hg.r0
  have hP : σ b 1 = nI P := hg.r1
  refine zSem.of (by decide +kernel) (Nat.le_of_ble_eq_true rfl) (fun X hB hR => ?_)
  show zW X 0 [some (.ref b), some (.ref c), none] [] σ
  have hl2 : ∀ i, i ≤ P → (∀ k, k < 3 * F → zrow σ b (5 + k) = zrow σ c (5 + k)) → (∀ p, p < i → ztd (zrow σ b) p = ztd (zrow σ c) p) → zW X 37 [some (.ref b), some (.ref c), some (.int (nI i))] [] σ := by
    refine zfor P (fun i hi ih => ?_)
    intro hh ht
    refine zw_iload2 hB dX1_isAsFreshAs_37 ?_
    refine zw_aload0 hB dX1_isAsFreshAs_38 ?_
    refine zw_getfV (x := nI P) hB dX1_isAsFreshAs_39 zf_X1_40 hb.1 rfl (hP) ?_
    refine zw_icmp_geN (tgt := 68) hB dX1_isAsFreshAs_42 (by decide) (by omega) (by omega) (fun c42 => ?_) (fun c42 => ?_)
    · refine zw_iconst (x := nI 1) hB dX1_isAsFreshAs_68 (by decide) ?_
      refine zw_zret hB hR dX1_isAsFreshAs_69 rfl (by decide) ?_
      exact ⟨1, Or.inl ⟨rfl, hh, fun p hp => ht p (by omega)⟩, rfl, rfl⟩
    · refine zw_aload0 hB dX1_isAsFreshAs_45 ?_
      refine zw_getfR hB dX1_isAsFreshAs_46 zf_X1_28 hb.1 rfl ?_
      refine zw_iload2 hB dX1_isAsFreshAs_49 ?_
      refine zw_ialdV (x := ztd (zrow σ b) i) hB dX1_isAsFreshAs_50 hb.2.2.2.2.2.1 (by omega) (by decide) (zrow_td (by omega)) ?_
      refine zw_aload1 hB dX1_isAsFreshAs_51 ?_
      refine zw_getfR hB dX1_isAsFreshAs_52 zf_X1_28 hc.1 rfl ?_
      refine zw_iload2 hB dX1_isAsFreshAs_55 ?_
      refine zw_ialdV (x := ztd (zrow σ c) i) hB dX1_isAsFreshAs_56 hc.2.2.2.2.2.1 (by omega) (by decide) (zrow_td (by omega)) ?_
      refine zw_icmp_eq (tgt := 62) hB dX1_isAsFreshAs_57 (by decide) (fun c57 => ?_) (fun c57 => ?_)
      · refine zw_iinc2 hB dX1_isAsFreshAs_62 (by first | exact zinc _ | rfl) rfl ?_
        refine zw_goto (tgt := 37) hB dX1_isAsFreshAs_65 (by decide) ?_
        refine ih c42 hh (fun p hp => ?_)
        by_cases e : p = i
        · subst e; exact c57
        · exact ht p (by omega)
      · refine zw_iconst (x := nI 0) hB dX1_isAsFreshAs_60 (by decide) ?_
        refine zw_zret hB hR dX1_isAsFreshAs_61 rfl (by decide) ?_
        exact ⟨0, Or.inr ⟨rfl, fun z => c57 (z.2 i c42)⟩, rfl, rfl⟩
  have hl1 : ∀ i, i ≤ 3 * F → (∀ k, k < i → zrow σ b (5 + k) = zrow σ c (5 + k)) → zW X 2 [some (.ref b), some (.ref c), some (.int (nI i))] [] σ := by
    refine zfor (3 * F) (fun i hi ih => ?_)
    intro hh
    refine zw_iload2 hB dX1_isAsFreshAs_2 ?_
    refine zw_iconst (x := nI 3) hB dX1_isAsFreshAs_3 (by decide) ?_
    refine zw_aload0 hB dX1_isAsFreshAs_4 ?_
    refine zw_getfV (x := nI F) hB dX1_isAsFreshAs_5 zf_X1_37 hb.1 rfl (hF) ?_
    refine zw_imulN hB dX1_isAsFreshAs_8 ?_
    refine zw_icmp_geN (tgt := 35) hB dX1_isAsFreshAs_9 (by decide) (by omega) (by omega) (fun c9 => ?_) (fun c9 => ?_)
    · refine zw_iconst (x := nI 0) hB dX1_isAsFreshAs_35 (by decide) ?_
      refine zw_istore2 hB dX1_isAsFreshAs_36 rfl ?_
      exact hl2 0 (by omega) (fun k hk => hh k (by omega)) (fun p hp => absurd hp (by omega))
    · refine zw_aload0 hB dX1_isAsFreshAs_12 ?_
      refine zw_getfR hB dX1_isAsFreshAs_13 zf_X1_15 hb.1 rfl ?_
      refine zw_iload2 hB dX1_isAsFreshAs_16 ?_
      refine zw_ialdV (x := zrow σ b (5 + i)) hB dX1_isAsFreshAs_17 hb.2.1 (by omega) (by decide) ((zrow_h (by omega)).symm) ?_
      refine zw_aload1 hB dX1_isAsFreshAs_18 ?_
      refine zw_getfR hB dX1_isAsFreshAs_19 zf_X1_15 hc.1 rfl ?_
      refine zw_iload2 hB dX1_isAsFreshAs_22 ?_
      refine zw_ialdV (x := zrow σ c (5 + i)) hB dX1_isAsFreshAs_23 hc.2.1 (by omega) (by decide) ((zrow_h (by omega)).symm) ?_
      refine zw_icmp_eq (tgt := 29) hB dX1_isAsFreshAs_24 (by decide) (fun c24 => ?_) (fun c24 => ?_)
      · refine zw_iinc2 hB dX1_isAsFreshAs_29 (by first | exact zinc _ | rfl) rfl ?_
        refine zw_goto (tgt := 2) hB dX1_isAsFreshAs_32 (by decide) ?_
        refine ih c9 (fun p hp => ?_)
        by_cases e : p = i
        · subst e; exact c24
        · exact hh p (by omega)
      · refine zw_iconst (x := nI 0) hB dX1_isAsFreshAs_27 (by decide) ?_
        refine zw_zret hB hR dX1_isAsFreshAs_28 rfl (by decide) ?_
        exact ⟨0, Or.inr ⟨rfl, fun z => c24 (z.1 i c9)⟩, rfl, rfl⟩
  refine zw_iconst (x := nI 0) hB dX1_isAsFreshAs_0 (by decide) ?_
  refine zw_istore2 hB dX1_isAsFreshAs_1 rfl ?_
  exact hl1 0 (by omega) (fun p hp => absurd hp (by omega))
theorem s_X1_isSeatedAs {n : Nat} {σ : zSt} {b c F P : Nat} (hb : zLd b) (hg : zGd (zrow σ b) F P) (hc : zLd c) : zSem n mX1_isSeatedAs [.ref b, .ref c] σ (fun v τ => ∃ x : Int32, ((x = 1 ∧ zSe (zrow σ b) (zrow σ c) P) ∨ (x = 0 ∧ ¬ zSe (zrow σ b) (zrow σ c) P)) ∧ v = some (.int x) ∧ τ = σ) := by
  have hF6 := hg.F6
  have hP6 := hg.P6
  have hF : σ b 0 = nI F := hg.r0
  have hP : σ b 1 = nI P := hg.r1
  refine zSem.of (by decide +kernel) (Nat.le_of_ble_eq_true rfl) (fun X hB hR => ?_)
  show zW X 0 [some (.ref b), some (.ref c), none] [] σ
  have hl2 : ∀ i, i ≤ P → (∀ p, p < i → zat (zrow σ b) p = zat (zrow σ c) p) → zW X 2 [some (.ref b), some (.ref c), some (.int (nI i))] [] σ := by
    refine zfor P (fun i hi ih => ?_)
    intro ht
    refine zw_iload2 hB dX1_isSeatedAs_2 ?_
    refine zw_aload0 hB dX1_isSeatedAs_3 ?_
    refine zw_getfV (x := nI P) hB dX1_isSeatedAs_4 zf_X1_40 hb.1 rfl (hP) ?_
    refine zw_icmp_geN (tgt := 33) hB dX1_isSeatedAs_7 (by decide) (by omega) (by omega) (fun c7 => ?_) (fun c7 => ?_)
    · refine zw_iconst (x := nI 1) hB dX1_isSeatedAs_33 (by decide) ?_
      refine zw_zret hB hR dX1_isSeatedAs_34 rfl (by decide) ?_
      exact ⟨1, Or.inl ⟨rfl, fun p hp => ht p (by omega)⟩, rfl, rfl⟩
    · refine zw_aload0 hB dX1_isSeatedAs_10 ?_
      refine zw_getfR hB dX1_isSeatedAs_11 zf_X1_31 hb.1 rfl ?_
      refine zw_iload2 hB dX1_isSeatedAs_14 ?_
      refine zw_ialdV (x := zat (zrow σ b) i) hB dX1_isSeatedAs_15 hb.2.2.2.2.2.2.1 (by omega) (by decide) (zrow_at (by omega)) ?_
      refine zw_aload1 hB dX1_isSeatedAs_16 ?_
      refine zw_getfR hB dX1_isSeatedAs_17 zf_X1_31 hc.1 rfl ?_
      refine zw_iload2 hB dX1_isSeatedAs_20 ?_
      refine zw_ialdV (x := zat (zrow σ c) i) hB dX1_isSeatedAs_21 hc.2.2.2.2.2.2.1 (by omega) (by decide) (zrow_at (by omega)) ?_
      refine zw_icmp_eq (tgt := 27) hB dX1_isSeatedAs_22 (by decide) (fun c22 => ?_) (fun c22 => ?_)
      · refine zw_iinc2 hB dX1_isSeatedAs_27 (by first | exact zinc _ | rfl) rfl ?_
        refine zw_goto (tgt := 2) hB dX1_isSeatedAs_30 (by decide) ?_
        refine ih c7 (fun p hp => ?_)
        by_cases e : p = i
        · subst e; exact c22
        · exact ht p (by omega)
      · refine zw_iconst (x := nI 0) hB dX1_isSeatedAs_25 (by decide) ?_
        refine zw_zret hB hR dX1_isSeatedAs_26 rfl (by decide) ?_
        exact ⟨0, Or.inr ⟨rfl, fun z => c22 (z i c7)⟩, rfl, rfl⟩
  refine zw_iconst (x := nI 0) hB dX1_isSeatedAs_0 (by decide) ?_
  refine zw_istore2 hB dX1_isSeatedAs_1 rfl ?_
  exact hl2 0 (by omega) (fun p hp => absurd hp (by omega))
def zgfd (r : zRw) (f k : Nat) : Int32 := zsum (fun s => zhd (r (5 + 3 * f + s) + zgv k 9 s) (nI 30)) 3
def zbk (g : Nat → Int32) : Nat → Nat
  | 0 => 0
  | i + 1 => if g (zbk g i) < g (i + 1) then i + 1 else zbk g i
theorem zbk_le (g : Nat → Int32) : ∀ i, zbk g i ≤ i := by
  intro i
  induction i with
  | zero => exact Nat.le_refl _
  | succ i ih =>
    unfold zbk
    split
    · exact Nat.le_refl _
    · omega
theorem s_X1_greenFedBy {n : Nat} {σ : zSt} {b : Nat} (hb : zLd b) {f k : Nat} (hf : f < 6) (hk : k < 6) : zSem (n + 2) mX1_greenFedBy [.ref b, .int (nI f), .int (nI k)] σ (zP σ (.int (zgfd (zrow σ b) f k))) := by
  refine zSem.of (by decide +kernel) (Nat.le_of_ble_eq_true rfl) (fun X hB hR => ?_)
  show zW X 0 [some (.ref b), some (.int (nI f)), some (.int (nI k)), none, none] [] σ
  have hl : ∀ i, i ≤ 3 → zW X 5 [some (.ref b), some (.int (nI f)), some (.int (nI k)), some (.int (zsum (fun s => zhd ((zrow σ b) (5 + 3 * f + s) + zgv k 9 s) (nI 30)) i)), some (.int (nI i))] [] σ := by
    refine zfor 3 (fun i hi ih => ?_)
    refine zw_iload4 hB dX1_greenFedBy_5 ?_
    refine zw_iconst (x := nI 3) hB dX1_greenFedBy_7 (by decide) ?_
    refine zw_icmp_geN (tgt := 39) hB dX1_greenFedBy_8 (by decide) (by omega) (by omega) (fun c8 => ?_) (fun c8 => ?_)
    · refine zw_iload3 hB dX1_greenFedBy_39 ?_
      refine zw_iret hB hR dX1_greenFedBy_40 rfl ?_
      exact ⟨by rw [show i = 3 by omega]; rfl, rfl⟩
    · refine zw_iload3 hB dX1_greenFedBy_11 ?_
      refine zw_aload0 hB dX1_greenFedBy_12 ?_
      refine zw_iload1 hB dX1_greenFedBy_13 ?_
      refine zw_iload4 hB dX1_greenFedBy_14 ?_
      refine zw_callV2P (M' := mX1_heartOf) hB dX1_greenFedBy_16 zl_X1_63 zg_X1_heartOf (zRc.of hb.1 rfl rfl) (s_X1_heartOf hb hf (by omega)) ?_
      refine zw_eqI (y := (zrow σ b) (5 + 3 * f + i)) (zrow_hs hf (by omega)).symm ?_
      refine zw_iload2 hB dX1_greenFedBy_19 ?_
      refine zw_bipush (x := nI 9) hB dX1_greenFedBy_20 (by decide) ?_
      refine zw_iload4 hB dX1_greenFedBy_22 ?_
      refine zw_callS3P (M' := mX0_giving) hB dX1_greenFedBy_24 zl_X1_101 zg_X0_giving (s_X0_giving hk (by omega) (by omega)) ?_
      refine zw_iadd hB dX1_greenFedBy_27 ?_
      refine zw_callS1P (M' := mX1_asHeart) hB dX1_greenFedBy_28 zl_X1_104 zg_X1_asHeart (s_X1_asHeart _) ?_
      refine zw_iadd hB dX1_greenFedBy_31 ?_
      refine zw_istore3 hB dX1_greenFedBy_32 rfl ?_
      refine zw_iinc4 hB dX1_greenFedBy_33 (by first | exact zinc _ | rfl) rfl ?_
      refine zw_goto (tgt := 5) hB dX1_greenFedBy_36 (by decide) ?_
      exact ih c8
  refine zw_iconst (x := nI 0) hB dX1_greenFedBy_0 (by decide) ?_
  refine zw_istore3 hB dX1_greenFedBy_1 rfl ?_
  refine zw_iconst (x := nI 0) hB dX1_greenFedBy_2 (by decide) ?_
  refine zw_istore4 hB dX1_greenFedBy_3 rfl ?_
  exact hl 0 (by omega)
theorem s_X1_feedingKind {n : Nat} {σ : zSt} {b : Nat} (hb : zLd b) {f : Nat} (hf : f < 6) : zSem (n + 3) mX1_feedingKind [.ref b, .int (nI f)] σ (zP σ (.int (nI (zbk (zgfd (zrow σ b) f) 5)))) := by
  refine zSem.of (by decide +kernel) (Nat.le_of_ble_eq_true rfl) (fun X hB hR => ?_)
  show zW X 0 [some (.ref b), some (.int (nI f)), none, none] [] σ
  have hl : ∀ i, i ≤ 5 → zW X 4 [some (.ref b), some (.int (nI f)), some (.int (nI (zbk (zgfd (zrow σ b) f) i))), some (.int (nI (1 + i)))] [] σ := by
    refine zfor 5 (fun i hi ih => ?_)
    have hz := zbk_le (zgfd (zrow σ b) f) i
    have ee : i < 5 → zbk (zgfd (zrow σ b) f) (i + 1) = if zgfd (zrow σ b) f (zbk (zgfd (zrow σ b) f) i) < zgfd (zrow σ b) f (i + 1) then i + 1 else zbk (zgfd (zrow σ b) f) i := fun _ => rfl
    refine zw_iload3 hB dX1_feedingKind_4 ?_
    refine zw_bipush (x := nI 6) hB dX1_feedingKind_5 (by decide) ?_
    refine zw_icmp_geN (tgt := 33) hB dX1_feedingKind_7 (by decide) (by omega) (by omega) (fun c7 => ?_) (fun c7 => ?_)
    · refine zw_iload2 hB dX1_feedingKind_33 ?_
      refine zw_iret hB hR dX1_feedingKind_34 rfl ?_
      exact ⟨by rw [show i = 5 by omega], rfl⟩
    · refine zw_aload0 hB dX1_feedingKind_10 ?_
      refine zw_iload1 hB dX1_feedingKind_11 ?_
      refine zw_iload3 hB dX1_feedingKind_12 ?_
      refine zw_callV2P (M' := mX1_greenFedBy) hB dX1_feedingKind_13 zl_X1_98 zg_X1_greenFedBy (zRc.of hb.1 rfl rfl) (s_X1_greenFedBy hb hf (by omega)) ?_
      refine zw_aload0 hB dX1_feedingKind_16 ?_
      refine zw_iload1 hB dX1_feedingKind_17 ?_
      refine zw_iload2 hB dX1_feedingKind_18 ?_
      refine zw_callV2P (M' := mX1_greenFedBy) hB dX1_feedingKind_19 zl_X1_98 zg_X1_greenFedBy (zRc.of hb.1 rfl rfl) (s_X1_greenFedBy hb hf (by omega)) ?_
      refine zw_icmp_le (tgt := 27) hB dX1_feedingKind_22 (by decide) (fun c22 => ?_) (fun c22 => ?_)
      · refine zw_iinc3 hB dX1_feedingKind_27 (by first | exact zinc _ | rfl) rfl ?_
        refine zw_goto (tgt := 4) hB dX1_feedingKind_30 (by decide) ?_
        have h9 := ih (by omega)
        rw [ee (by omega), show 1 + (i + 1) = 1 + i + 1 by omega, show i + 1 = 1 + i by omega, if_neg (Int32.not_lt.mpr c22)] at h9
        exact h9
      · refine zw_iload3 hB dX1_feedingKind_25 ?_
        refine zw_istore2 hB dX1_feedingKind_26 rfl ?_
        refine zw_iinc3 hB dX1_feedingKind_27 (by first | exact zinc _ | rfl) rfl ?_
        refine zw_goto (tgt := 4) hB dX1_feedingKind_30 (by decide) ?_
        have h9 := ih (by omega)
        rw [ee (by omega), show 1 + (i + 1) = 1 + i + 1 by omega, show i + 1 = 1 + i by omega, if_pos (Int32.not_le.mp c22)] at h9
        exact h9
  refine zw_iconst (x := nI 0) hB dX1_feedingKind_0 (by decide) ?_
  refine zw_istore2 hB dX1_feedingKind_1 rfl ?_
  refine zw_iconst (x := nI 1) hB dX1_feedingKind_2 (by decide) ?_
  refine zw_istore3 hB dX1_feedingKind_3 rfl ?_
  exact hl 0 (by omega)
theorem s_X1_idleFarmers {n : Nat} {σ : zSt} {b F P : Nat} (hb : zLd b) (hg : zGd (zrow σ b) F P) : zSem (n + 1) mX1_idleFarmers [.ref b] σ (zP σ (.int (zset (fun p => decide (zat (zrow σ b) p = -9)) P))) := by
  have hF6 := hg.F6
  have hP6 := hg.P6
  have hF : σ b 0 = nI F := hg.r0
  have hP : σ b 1 = nI P := hg.r1
  refine zSem.of (by decide +kernel) (Nat.le_of_ble_eq_true rfl) (fun X hB hR => ?_)
  show zW X 0 [some (.ref b), none, none] [] σ
  have hl : ∀ i, i ≤ P → zW X 4 [some (.ref b), some (.int (zset (fun p => decide (zat (zrow σ b) p = -9)) i)), some (.int (nI i))] [] σ := by
    refine zfor P (fun i hi ih => ?_)
    refine zw_iload2 hB dX1_idleFarmers_4 ?_
    refine zw_aload0 hB dX1_idleFarmers_5 ?_
    refine zw_getfV (x := nI P) hB dX1_idleFarmers_6 zf_X1_40 hb.1 rfl (hP) ?_
    refine zw_icmp_geN (tgt := 39) hB dX1_idleFarmers_9 (by decide) (by omega) (by omega) (fun c9 => ?_) (fun c9 => ?_)
    · refine zw_iload1 hB dX1_idleFarmers_39 ?_
      refine zw_iret hB hR dX1_idleFarmers_40 rfl ?_
      exact ⟨by rw [show i = P by omega], rfl⟩
    · refine zw_iload1 hB dX1_idleFarmers_12 ?_
      refine zw_aload0 hB dX1_idleFarmers_13 ?_
      refine zw_getfR hB dX1_idleFarmers_14 zf_X1_31 hb.1 rfl ?_
      refine zw_iload2 hB dX1_idleFarmers_17 ?_
      refine zw_ialdV (x := zat (zrow σ b) i) hB dX1_idleFarmers_18 hb.2.2.2.2.2.2.1 (by omega) (by decide) (zrow_at (by omega)) ?_
      refine zw_bipush (x := -9) hB dX1_idleFarmers_19 (by decide) ?_
      refine zw_icmp_ne (tgt := 30) hB dX1_idleFarmers_21 (by decide) (fun c21 => ?_) (fun c21 => ?_)
      · refine zw_iconst (x := nI 0) hB dX1_idleFarmers_30 (by decide) ?_
        refine zw_ior hB dX1_idleFarmers_31 ?_
        refine zw_istore1 hB dX1_idleFarmers_32 rfl ?_
        refine zw_iinc2 hB dX1_idleFarmers_33 (by first | exact zinc _ | rfl) rfl ?_
        refine zw_goto (tgt := 4) hB dX1_idleFarmers_36 (by decide) ?_
        have h9 := ih c9
        rw [zset, if_neg (fun z => absurd (of_decide_eq_true z) c21)] at h9
        exact h9
      · refine zw_iconst (x := nI 1) hB dX1_idleFarmers_24 (by decide) ?_
        refine zw_iload2 hB dX1_idleFarmers_25 ?_
        refine zw_ishl hB dX1_idleFarmers_26 ?_
        refine zw_goto (tgt := 31) hB dX1_idleFarmers_27 (by decide) ?_
        refine zw_ior hB dX1_idleFarmers_31 ?_
        refine zw_istore1 hB dX1_idleFarmers_32 rfl ?_
        refine zw_iinc2 hB dX1_idleFarmers_33 (by first | exact zinc _ | rfl) rfl ?_
        refine zw_goto (tgt := 4) hB dX1_idleFarmers_36 (by decide) ?_
        have h9 := ih c9
        rw [zset, if_pos (decide_eq_true c21)] at h9
        exact h9
  refine zw_iconst (x := nI 0) hB dX1_idleFarmers_0 (by decide) ?_
  refine zw_istore1 hB dX1_idleFarmers_1 rfl ?_
  refine zw_iconst (x := nI 0) hB dX1_idleFarmers_2 (by decide) ?_
  refine zw_istore2 hB dX1_idleFarmers_3 rfl ?_
  exact hl 0 (by omega)
theorem s_X1_wornFarmers {n : Nat} {σ : zSt} {b F P : Nat} (hb : zLd b) (hg : zGd (zrow σ b) F P) : zSem (n + 1) mX1_wornFarmers [.ref b] σ (zP σ (.int (zset (fun p => decide (¬ ztd (zrow σ b) p < nI 10)) P))) := by
  have hF6 := hg.F6
  have hP6 := hg.P6
  have hF : σ b 0 = nI F := hg.r0
  have hP : σ b 1 = nI P := hg.r1
  refine zSem.of (by decide +kernel) (Nat.le_of_ble_eq_true rfl) (fun X hB hR => ?_)
  show zW X 0 [some (.ref b), none, none] [] σ
  have hl : ∀ i, i ≤ P → zW X 4 [some (.ref b), some (.int (zset (fun p => decide (¬ ztd (zrow σ b) p < nI 10)) i)), some (.int (nI i))] [] σ := by
    refine zfor P (fun i hi ih => ?_)
    refine zw_iload2 hB dX1_wornFarmers_4 ?_
    refine zw_aload0 hB dX1_wornFarmers_5 ?_
    refine zw_getfV (x := nI P) hB dX1_wornFarmers_6 zf_X1_40 hb.1 rfl (hP) ?_
    refine zw_icmp_geN (tgt := 36) hB dX1_wornFarmers_9 (by decide) (by omega) (by omega) (fun c9 => ?_) (fun c9 => ?_)
    · refine zw_iload1 hB dX1_wornFarmers_36 ?_
      refine zw_iret hB hR dX1_wornFarmers_37 rfl ?_
      exact ⟨by rw [show i = P by omega], rfl⟩
    · refine zw_iload1 hB dX1_wornFarmers_12 ?_
      refine zw_aload0 hB dX1_wornFarmers_13 ?_
      refine zw_iload2 hB dX1_wornFarmers_14 ?_
      refine zw_callV1P (M' := mX1_isWorn) hB dX1_wornFarmers_15 zl_X1_82 zg_X1_isWorn (zRc.of hb.1 rfl rfl) (s_X1_isWorn hb (by omega)) ?_
      rw [zrow_td (σ := σ) (b := b) (p := i) (by omega)]
      refine zw_if_eqB (tgt := 27) hB dX1_wornFarmers_18 (by decide) (fun c18 => ?_) (fun c18 => ?_)
      · refine zw_iconst (x := nI 0) hB dX1_wornFarmers_27 (by decide) ?_
        refine zw_ior hB dX1_wornFarmers_28 ?_
        refine zw_istore1 hB dX1_wornFarmers_29 rfl ?_
        refine zw_iinc2 hB dX1_wornFarmers_30 (by first | exact zinc _ | rfl) rfl ?_
        refine zw_goto (tgt := 4) hB dX1_wornFarmers_33 (by decide) ?_
        have h9 := ih c9
        rw [zset, if_neg (fun z => absurd (of_decide_eq_true z) c18)] at h9
        exact h9
      · refine zw_iconst (x := nI 1) hB dX1_wornFarmers_21 (by decide) ?_
        refine zw_iload2 hB dX1_wornFarmers_22 ?_
        refine zw_ishl hB dX1_wornFarmers_23 ?_
        refine zw_goto (tgt := 28) hB dX1_wornFarmers_24 (by decide) ?_
        refine zw_ior hB dX1_wornFarmers_28 ?_
        refine zw_istore1 hB dX1_wornFarmers_29 rfl ?_
        refine zw_iinc2 hB dX1_wornFarmers_30 (by first | exact zinc _ | rfl) rfl ?_
        refine zw_goto (tgt := 4) hB dX1_wornFarmers_33 (by decide) ?_
        have h9 := ih c9
        rw [zset, if_pos (decide_eq_true c18)] at h9
        exact h9
  refine zw_iconst (x := nI 0) hB dX1_wornFarmers_0 (by decide) ?_
  refine zw_istore1 hB dX1_wornFarmers_1 rfl ?_
  refine zw_iconst (x := nI 0) hB dX1_wornFarmers_2 (by decide) ?_
  refine zw_istore2 hB dX1_wornFarmers_3 rfl ?_
  exact hl 0 (by omega)
