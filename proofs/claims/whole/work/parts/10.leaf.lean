/-! LEAVES of the class: lands' reads and writes; kinds; words of refusal -/
def zLd (b : Nat) : Prop := zLY[b]? = some (.inr (0, [none, none, none, none, none, none, some (b + 1), some (b + 2), some (b + 3), some (b + 4), some (b + 5), some (b + 6), some (b + 7)])) ∧ zLY[b + 1]? = some (.inl 18) ∧ zLY[b + 2]? = some (.inl 6) ∧ zLY[b + 3]? = some (.inl 6) ∧ zLY[b + 4]? = some (.inl 6) ∧ zLY[b + 5]? = some (.inl 6) ∧ zLY[b + 6]? = some (.inl 6) ∧ zLY[b + 7]? = some (.inl 6)
theorem zld1 : zLd 1 := ⟨rfl, rfl, rfl, rfl, rfl, rfl, rfl, rfl⟩
theorem zld9 : zLd 9 := ⟨rfl, rfl, rfl, rfl, rfl, rfl, rfl, rfl⟩
theorem zld17 : zLd 17 := ⟨rfl, rfl, rfl, rfl, rfl, rfl, rfl, rfl⟩
theorem zld28 : zLd 28 := ⟨rfl, rfl, rfl, rfl, rfl, rfl, rfl, rfl⟩
theorem zld36 : zLd 36 := ⟨rfl, rfl, rfl, rfl, rfl, rfl, rfl, rfl⟩

theorem s_X1_hasFarm {n : Nat} {σ : zSt} {b : Nat} (hb : zLd b) (f : Int32) : zSem n mX1_hasFarm [.ref b, .int f] σ (zP σ (.int (zb (¬ f < 0 ∧ ¬ σ b 0 ≤ f)))) := by
  refine zSem.of (by decide +kernel) (Nat.le_of_ble_eq_true rfl) (fun X hB hR => ?_)
  show zW X 0 [some (.ref b), some (.int f)] [] σ
  refine zw_iload1 hB dX1_hasFarm_0 ?_
  refine zw_if_lt (tgt := 16) hB dX1_hasFarm_1 (by decide) (fun c1 => ?_) (fun c1 => ?_)
  · refine zw_iconst (x := nI 0) hB dX1_hasFarm_16 (by decide) ?_
    refine zw_zret hB hR dX1_hasFarm_17 rfl (by decide) ?_
    first | exact zP_t (by simp [*]) | exact zP_f (by simp [*])
  · refine zw_iload1 hB dX1_hasFarm_4 ?_
    refine zw_aload0 hB dX1_hasFarm_5 ?_
    refine zw_getfI hB dX1_hasFarm_6 zf_X1_37 hb.1 rfl ?_
    refine zw_icmp_ge (tgt := 16) hB dX1_hasFarm_9 (by decide) (fun c9 => ?_) (fun c9 => ?_)
    · refine zw_iconst (x := nI 0) hB dX1_hasFarm_16 (by decide) ?_
      refine zw_zret hB hR dX1_hasFarm_17 rfl (by decide) ?_
      first | exact zP_t (by simp [*]) | exact zP_f (by simp [*])
    · refine zw_iconst (x := nI 1) hB dX1_hasFarm_12 (by decide) ?_
      refine zw_goto (tgt := 17) hB dX1_hasFarm_13 (by decide) ?_
      refine zw_zret hB hR dX1_hasFarm_17 rfl (by decide) ?_
      first | exact zP_t (by simp [*]) | exact zP_f (by simp [*])
theorem s_X1_hasFarmer {n : Nat} {σ : zSt} {b : Nat} (hb : zLd b) (f : Int32) : zSem n mX1_hasFarmer [.ref b, .int f] σ (zP σ (.int (zb (¬ f < 0 ∧ ¬ σ b 1 ≤ f)))) := by
  refine zSem.of (by decide +kernel) (Nat.le_of_ble_eq_true rfl) (fun X hB hR => ?_)
  show zW X 0 [some (.ref b), some (.int f)] [] σ
  refine zw_iload1 hB dX1_hasFarmer_0 ?_
  refine zw_if_lt (tgt := 16) hB dX1_hasFarmer_1 (by decide) (fun c1 => ?_) (fun c1 => ?_)
  · refine zw_iconst (x := nI 0) hB dX1_hasFarmer_16 (by decide) ?_
    refine zw_zret hB hR dX1_hasFarmer_17 rfl (by decide) ?_
    first | exact zP_t (by simp [*]) | exact zP_f (by simp [*])
  · refine zw_iload1 hB dX1_hasFarmer_4 ?_
    refine zw_aload0 hB dX1_hasFarmer_5 ?_
    refine zw_getfI hB dX1_hasFarmer_6 zf_X1_40 hb.1 rfl ?_
    refine zw_icmp_ge (tgt := 16) hB dX1_hasFarmer_9 (by decide) (fun c9 => ?_) (fun c9 => ?_)
    · refine zw_iconst (x := nI 0) hB dX1_hasFarmer_16 (by decide) ?_
      refine zw_zret hB hR dX1_hasFarmer_17 rfl (by decide) ?_
      first | exact zP_t (by simp [*]) | exact zP_f (by simp [*])
    · refine zw_iconst (x := nI 1) hB dX1_hasFarmer_12 (by decide) ?_
      refine zw_goto (tgt := 17) hB dX1_hasFarmer_13 (by decide) ?_
      refine zw_zret hB hR dX1_hasFarmer_17 rfl (by decide) ?_
      first | exact zP_t (by simp [*]) | exact zP_f (by simp [*])
theorem s_X1_hasSort {n : Nat} {σ : zSt} (f : Int32) : zSem n mX1_hasSort [.int f] σ (zP σ (.int (zb (¬ f < 0 ∧ ¬ nI 3 ≤ f)))) := by
  refine zSem.of (by decide +kernel) (Nat.le_of_ble_eq_true rfl) (fun X hB hR => ?_)
  show zW X 0 [some (.int f)] [] σ
  refine zw_iload0 hB dX1_hasSort_0 ?_
  refine zw_if_lt (tgt := 13) hB dX1_hasSort_1 (by decide) (fun c1 => ?_) (fun c1 => ?_)
  · refine zw_iconst (x := nI 0) hB dX1_hasSort_13 (by decide) ?_
    refine zw_zret hB hR dX1_hasSort_14 rfl (by decide) ?_
    first | exact zP_t (by simp [*]) | exact zP_f (by simp [*])
  · refine zw_iload0 hB dX1_hasSort_4 ?_
    refine zw_iconst (x := nI 3) hB dX1_hasSort_5 (by decide) ?_
    refine zw_icmp_ge (tgt := 13) hB dX1_hasSort_6 (by decide) (fun c6 => ?_) (fun c6 => ?_)
    · refine zw_iconst (x := nI 0) hB dX1_hasSort_13 (by decide) ?_
      refine zw_zret hB hR dX1_hasSort_14 rfl (by decide) ?_
      first | exact zP_t (by simp [*]) | exact zP_f (by simp [*])
    · refine zw_iconst (x := nI 1) hB dX1_hasSort_9 (by decide) ?_
      refine zw_goto (tgt := 14) hB dX1_hasSort_10 (by decide) ?_
      refine zw_zret hB hR dX1_hasSort_14 rfl (by decide) ?_
      first | exact zP_t (by simp [*]) | exact zP_f (by simp [*])
theorem s_X1_hasYears {n : Nat} {σ : zSt} {b : Nat} (hb : zLd b) (f : Int32) : zSem n mX1_hasYears [.ref b, .int f] σ (zP σ (.int (zb (f ≤ nI 999 - σ b 4)))) := by
  refine zSem.of (by decide +kernel) (Nat.le_of_ble_eq_true rfl) (fun X hB hR => ?_)
  show zW X 0 [some (.ref b), some (.int f)] [] σ
  refine zw_iload1 hB dX1_hasYears_0 ?_
  refine zw_sipush (x := nI 999) hB dX1_hasYears_1 (by decide) ?_
  refine zw_aload0 hB dX1_hasYears_4 ?_
  refine zw_getfI hB dX1_hasYears_5 zf_X1_46 hb.1 rfl ?_
  refine zw_isub hB dX1_hasYears_8 ?_
  refine zw_icmp_gt (tgt := 16) hB dX1_hasYears_9 (by decide) (fun c9 => ?_) (fun c9 => ?_)
  · refine zw_iconst (x := nI 0) hB dX1_hasYears_16 (by decide) ?_
    refine zw_zret hB hR dX1_hasYears_17 rfl (by decide) ?_
    first | exact zP_t (Int32.not_lt.mp ‹_›) | exact zP_f (Int32.not_le.mpr ‹_›)
  · refine zw_iconst (x := nI 1) hB dX1_hasYears_12 (by decide) ?_
    refine zw_goto (tgt := 17) hB dX1_hasYears_13 (by decide) ?_
    refine zw_zret hB hR dX1_hasYears_17 rfl (by decide) ?_
    first | exact zP_t (Int32.not_lt.mp ‹_›) | exact zP_f (Int32.not_le.mpr ‹_›)
theorem s_X1_heartOf {n : Nat} {σ : zSt} {b : Nat} (hb : zLd b) {f s : Nat} (hf : f < 6) (hs : s < 3) : zSem n mX1_heartOf [.ref b, .int (nI f), .int (nI s)] σ (zP σ (.int (σ (b + 1) (3 * f + s)))) := by
  refine zSem.of (by decide +kernel) (Nat.le_of_ble_eq_true rfl) (fun X hB hR => ?_)
  show zW X 0 [some (.ref b), some (.int (nI f)), some (.int (nI s)), none] [] σ
  refine zw_iconst (x := nI 3) hB dX1_heartOf_0 (by decide) ?_
  refine zw_iload1 hB dX1_heartOf_1 ?_
  refine zw_imulN hB dX1_heartOf_2 ?_
  refine zw_iload2 hB dX1_heartOf_3 ?_
  refine zw_iaddN hB dX1_heartOf_4 ?_
  refine zw_istore3 hB dX1_heartOf_5 rfl ?_
  refine zw_iload3 hB dX1_heartOf_6 ?_
  refine zw_if_lt (tgt := 28) hB dX1_heartOf_7 (by decide) (fun c7 => by first | exact absurd c7 (zpos (by omega)) | exact absurd (zpos (by omega)) c7 | omega) (fun c7 => ?_)
  refine zw_iload3 hB dX1_heartOf_10 ?_
  refine zw_aload0 hB dX1_heartOf_11 ?_
  refine zw_getfR hB dX1_heartOf_12 zf_X1_15 hb.1 rfl ?_
  refine zw_alen hB dX1_heartOf_15 hb.2.1 ?_
  refine zw_icmp_geN (tgt := 28) hB dX1_heartOf_16 (by decide) (by omega) (by omega) (fun c16 => by first | exact absurd c16 (by omega) | exact absurd (by omega) c16 | omega) (fun c16 => ?_)
  refine zw_aload0 hB dX1_heartOf_19 ?_
  refine zw_getfR hB dX1_heartOf_20 zf_X1_15 hb.1 rfl ?_
  refine zw_iload3 hB dX1_heartOf_23 ?_
  refine zw_ialdN hB dX1_heartOf_24 hb.2.1 (by omega) (by decide) ?_
  refine zw_goto (tgt := 29) hB dX1_heartOf_25 (by decide) ?_
  refine zw_iret hB hR dX1_heartOf_29 rfl ?_
  exact ⟨rfl, rfl⟩
theorem s_X1_setHeart {n : Nat} {σ : zSt} {b : Nat} (hb : zLd b) {f s : Nat} (v : Int32) (hf : f < 6) (hs : s < 3) : zSem n mX1_setHeart [.ref b, .int (nI f), .int (nI s), .int v] σ (zVo (zC σ (b + 1) (upd (σ (b + 1)) (3 * f + s) v))) := by
  refine zSem.of (by decide +kernel) (Nat.le_of_ble_eq_true rfl) (fun X hB hR => ?_)
  show zW X 0 [some (.ref b), some (.int (nI f)), some (.int (nI s)), some (.int v), none] [] σ
  refine zw_iconst (x := nI 3) hB dX1_setHeart_0 (by decide) ?_
  refine zw_iload1 hB dX1_setHeart_1 ?_
  refine zw_imulN hB dX1_setHeart_2 ?_
  refine zw_iload2 hB dX1_setHeart_3 ?_
  refine zw_iaddN hB dX1_setHeart_4 ?_
  refine zw_istore4 hB dX1_setHeart_5 rfl ?_
  refine zw_iload4 hB dX1_setHeart_7 ?_
  refine zw_if_lt (tgt := 30) hB dX1_setHeart_9 (by decide) (fun c9 => by first | exact absurd c9 (zpos (by omega)) | exact absurd (zpos (by omega)) c9 | omega) (fun c9 => ?_)
  refine zw_iload4 hB dX1_setHeart_12 ?_
  refine zw_aload0 hB dX1_setHeart_14 ?_
  refine zw_getfR hB dX1_setHeart_15 zf_X1_15 hb.1 rfl ?_
  refine zw_alen hB dX1_setHeart_18 hb.2.1 ?_
  refine zw_icmp_geN (tgt := 30) hB dX1_setHeart_19 (by decide) (by omega) (by omega) (fun c19 => by first | exact absurd c19 (by omega) | exact absurd (by omega) c19 | omega) (fun c19 => ?_)
  refine zw_aload0 hB dX1_setHeart_22 ?_
  refine zw_getfR hB dX1_setHeart_23 zf_X1_15 hb.1 rfl ?_
  refine zw_iload4 hB dX1_setHeart_26 ?_
  refine zw_iload3 hB dX1_setHeart_28 ?_
  refine zw_iastN hB dX1_setHeart_29 hb.2.1 (by omega) (by decide) ?_
  refine zw_vret hB hR dX1_setHeart_30 rfl ?_
  exact ⟨rfl, rfl⟩
theorem s_X1_isWorn {n : Nat} {σ : zSt} {b : Nat} (hb : zLd b) {p : Nat} (hp : p < 6) : zSem n mX1_isWorn [.ref b, .int (nI p)] σ (zP σ (.int (zb (¬ σ (b + 5) p < nI 10)))) := by
  refine zSem.of (by decide +kernel) (Nat.le_of_ble_eq_true rfl) (fun X hB hR => ?_)
  show zW X 0 [some (.ref b), some (.int (nI p))] [] σ
  refine zw_aload0 hB dX1_isWorn_0 ?_
  refine zw_getfR hB dX1_isWorn_1 zf_X1_28 hb.1 rfl ?_
  refine zw_iload1 hB dX1_isWorn_4 ?_
  refine zw_ialdN hB dX1_isWorn_5 hb.2.2.2.2.2.1 (by omega) (by decide) ?_
  refine zw_bipush (x := nI 10) hB dX1_isWorn_6 (by decide) ?_
  refine zw_icmp_lt (tgt := 15) hB dX1_isWorn_8 (by decide) (fun c8 => ?_) (fun c8 => ?_)
  · refine zw_iconst (x := nI 0) hB dX1_isWorn_15 (by decide) ?_
    refine zw_zret hB hR dX1_isWorn_16 rfl (by decide) ?_
    first | exact zP_t (by simp [*]) | exact zP_f (by simp [*])
  · refine zw_iconst (x := nI 1) hB dX1_isWorn_11 (by decide) ?_
    refine zw_goto (tgt := 16) hB dX1_isWorn_12 (by decide) ?_
    refine zw_zret hB hR dX1_isWorn_16 rfl (by decide) ?_
    first | exact zP_t (by simp [*]) | exact zP_f (by simp [*])
/-- at least 0, at most m -/
def zhd (v m : Int32) : Int32 := if v < 0 then 0 else if m < v then m else v
theorem zhd_ah (v : Int32) : (if nI 0 < (if v < nI 30 then v else nI 30) then (if v < nI 30 then v else nI 30) else nI 0) = zhd v (nI 30) := by
  have e0 : (nI 0).toInt = 0 := by decide
  have e30 : (nI 30).toInt = 30 := by decide
  have z0 : (0 : Int32).toInt = 0 := by decide
  simp only [zhd, Int32.lt_iff_toInt_lt, e30, e0, z0]
  by_cases h1 : v.toInt < 30
  · rw [if_pos h1]
    by_cases h2 : (0 : Int) < v.toInt
    · rw [if_pos h2, if_neg (by omega), if_neg (by omega)]
    · rw [if_neg h2]
      by_cases h3 : v.toInt < 0
      · rw [if_pos h3]; rfl
      · rw [if_neg h3, if_neg (by omega)]
        exact Int32.toInt_inj.mp (by rw [e0]; omega)
  · rw [if_neg h1, e30, if_pos (by decide), if_neg (by omega)]
    by_cases h2 : (30 : Int) < v.toInt
    · rw [if_pos h2]
    · rw [if_neg h2]
      exact Int32.toInt_inj.mp (by rw [e30]; omega)
theorem s_X1_asHeart {n : Nat} {σ : zSt} (v : Int32) : zSem (n + 1) mX1_asHeart [.int v] σ (zP σ (.int (zhd v (nI 30)))) := by
  refine zSem.of (by decide +kernel) (Nat.le_of_ble_eq_true rfl) (fun X hB hR => ?_)
  show zW X 0 [some (.int v)] [] σ
  refine zw_iconst (x := nI 0) hB dX1_asHeart_0 (by decide) ?_
  refine zw_bipush (x := nI 30) hB dX1_asHeart_1 (by decide) ?_
  refine zw_iload0 hB dX1_asHeart_3 ?_
  refine zw_min hB dX1_asHeart_4 zl_X1_77 (by first | exact Nat.le_of_ble_eq_true rfl | decide) ?_
  refine zw_max hB dX1_asHeart_7 zl_X1_120 (by first | exact Nat.le_of_ble_eq_true rfl | decide) ?_
  refine zw_iret hB hR dX1_asHeart_10 rfl ?_
  exact ⟨by rw [← zhd_ah], rfl⟩
/-- what a kind grows of two hearts -/
def zgrw (k : Nat) (a b : Int32) : Int32 := if k = 0 then a / nI 2 else if k = 1 then b / nI 2 else if k = 2 then a / nI 2 + nI 3 else if k = 3 then b / nI 2 / nI 2 else nI 0
theorem s_X0_growing {n : Nat} {σ : zSt} {k : Nat} (hk : k < 6) (a b : Int32) : zSem n mX0_growing [.int (nI k), .int a, .int b] σ (zP σ (.int (zgrw k a b))) := by
  refine zSem.of (by decide +kernel) (Nat.le_of_ble_eq_true rfl) (fun X hB hR => ?_)
  show zW X 0 [some (.int (nI k)), some (.int a), some (.int b)] [] σ
  refine zw_iload0 hB dX0_growing_0 ?_
  have hk6 : k = 0 ∨ k = 1 ∨ k = 2 ∨ k = 3 ∨ k = 4 ∨ k = 5 := by omega
  rcases hk6 with rfl | rfl | rfl | rfl | rfl | rfl
  · refine zw_tabIn (off := 31) (tgt := 32) hB dX0_growing_1 (by decide) (by decide) (by decide) (by decide) ?_
    refine zw_iload1 hB dX0_growing_32 ?_
    refine zw_iconst (x := nI 2) hB dX0_growing_33 (by decide) ?_
    refine zw_idiv hB dX0_growing_34 (by decide) ?_
    refine zw_iret hB hR dX0_growing_35 rfl ?_
    exact ⟨rfl, rfl⟩
  · refine zw_tabIn (off := 35) (tgt := 36) hB dX0_growing_1 (by decide) (by decide) (by decide) (by decide) ?_
    refine zw_iload2 hB dX0_growing_36 ?_
    refine zw_iconst (x := nI 2) hB dX0_growing_37 (by decide) ?_
    refine zw_idiv hB dX0_growing_38 (by decide) ?_
    refine zw_iret hB hR dX0_growing_39 rfl ?_
    exact ⟨rfl, rfl⟩
  · refine zw_tabIn (off := 39) (tgt := 40) hB dX0_growing_1 (by decide) (by decide) (by decide) (by decide) ?_
    refine zw_iload1 hB dX0_growing_40 ?_
    refine zw_iconst (x := nI 2) hB dX0_growing_41 (by decide) ?_
    refine zw_idiv hB dX0_growing_42 (by decide) ?_
    refine zw_iconst (x := nI 3) hB dX0_growing_43 (by decide) ?_
    refine zw_iadd hB dX0_growing_44 ?_
    refine zw_iret hB hR dX0_growing_45 rfl ?_
    exact ⟨rfl, rfl⟩
  · refine zw_tabIn (off := 45) (tgt := 46) hB dX0_growing_1 (by decide) (by decide) (by decide) (by decide) ?_
    refine zw_iload2 hB dX0_growing_46 ?_
    refine zw_iconst (x := nI 2) hB dX0_growing_47 (by decide) ?_
    refine zw_idiv hB dX0_growing_48 (by decide) ?_
    refine zw_iconst (x := nI 2) hB dX0_growing_49 (by decide) ?_
    refine zw_idiv hB dX0_growing_50 (by decide) ?_
    refine zw_iret hB hR dX0_growing_51 rfl ?_
    exact ⟨rfl, rfl⟩
  · refine zw_tabOut (tgt := 52) hB dX0_growing_1 (by decide) (by decide) ?_
    refine zw_iconst (x := nI 0) hB dX0_growing_52 (by decide) ?_
    refine zw_iret hB hR dX0_growing_53 rfl ?_
    exact ⟨rfl, rfl⟩
  · refine zw_tabOut (tgt := 52) hB dX0_growing_1 (by decide) (by decide) ?_
    refine zw_iconst (x := nI 0) hB dX0_growing_52 (by decide) ?_
    refine zw_iret hB hR dX0_growing_53 rfl ?_
    exact ⟨rfl, rfl⟩
def zgv (k g s : Nat) : Int32 := if k = 4 ∨ k = 5 then zgiv.getD (3 * k + s) 0 + nI g / nI 3 + nI 1 else zgiv.getD (3 * k + s) 0
theorem s_X0_giving {n : Nat} {σ : zSt} {k g s : Nat} (hk : k < 6) (hg : g < 10) (hs : s < 3) : zSem n mX0_giving [.int (nI k), .int (nI g), .int (nI s)] σ (zP σ (.int (zgv k g s))) := by
  refine zSem.of (by decide +kernel) (Nat.le_of_ble_eq_true rfl) (fun X hB hR => ?_)
  show zW X 0 [some (.int (nI k)), some (.int (nI g)), some (.int (nI s)), none, none, none] [] σ
  refine zw_iconst (x := nI 3) hB dX0_giving_0 (by decide) ?_
  refine zw_iload0 hB dX0_giving_1 ?_
  refine zw_imulN hB dX0_giving_2 ?_
  refine zw_iload2 hB dX0_giving_3 ?_
  refine zw_iaddN hB dX0_giving_4 ?_
  refine zw_istore3 hB dX0_giving_5 rfl ?_
  refine zw_iload3 hB dX0_giving_6 ?_
  refine zw_if_lt (tgt := 26) hB dX0_giving_7 (by decide) (fun c7 => by first | exact absurd c7 (zpos (by omega)) | exact absurd (zpos (by omega)) c7 | omega) (fun c7 => ?_)
  refine zw_iload3 hB dX0_giving_10 ?_
  refine zw_giving hB dX0_giving_11 zj_giving ?_
  refine zw_lengiv hB dX0_giving_14 ?_
  refine zw_icmp_geN (tgt := 26) hB dX0_giving_15 (by decide) (by omega) (by omega) (fun c15 => by first | exact absurd c15 (by omega) | exact absurd (by omega) c15 | omega) (fun c15 => ?_)
  refine zw_giving hB dX0_giving_18 zj_giving ?_
  refine zw_iload3 hB dX0_giving_21 ?_
  refine zw_ldgiv hB dX0_giving_22 (vp_in_nI (by omega) (by decide)) ?_
  refine zw_goto (tgt := 27) hB dX0_giving_23 (by decide) ?_
  refine zw_istore4 hB dX0_giving_27 rfl ?_
  refine zw_iload0 hB dX0_giving_29 ?_
  refine zw_iconst (x := nI 4) hB dX0_giving_30 (by decide) ?_
  refine zw_icmp_eqN (tgt := 39) hB dX0_giving_31 (by decide) (by omega) (by omega) (fun c31 => ?_) (fun c31 => ?_)
  · refine zw_iconst (x := nI 1) hB dX0_giving_39 (by decide) ?_
    refine zw_goto (tgt := 44) hB dX0_giving_40 (by decide) ?_
    refine zw_istore5 hB dX0_giving_44 rfl ?_
    refine zw_iload5 hB dX0_giving_46 ?_
    refine zw_if_eq (tgt := 62) hB dX0_giving_48 (by decide) (fun c48 => by first | exact absurd c48 (by decide) | exact absurd (by decide) c48 | omega) (fun c48 => ?_)
    refine zw_iload4 hB dX0_giving_51 ?_
    refine zw_iload1 hB dX0_giving_53 ?_
    refine zw_iconst (x := nI 3) hB dX0_giving_54 (by decide) ?_
    refine zw_idiv hB dX0_giving_55 (by decide) ?_
    refine zw_iadd hB dX0_giving_56 ?_
    refine zw_iconst (x := nI 1) hB dX0_giving_57 (by decide) ?_
    refine zw_iadd hB dX0_giving_58 ?_
    refine zw_goto (tgt := 64) hB dX0_giving_59 (by decide) ?_
    refine zw_iret hB hR dX0_giving_64 rfl ?_
    exact ⟨by first | (rw [zgv, if_pos (by omega), nI_clamp (by omega)]) | (rw [zgv, if_neg (by omega), nI_clamp (by omega)]), rfl⟩
  · refine zw_iload0 hB dX0_giving_34 ?_
    refine zw_iconst (x := nI 5) hB dX0_giving_35 (by decide) ?_
    refine zw_icmp_neN (tgt := 43) hB dX0_giving_36 (by decide) (by omega) (by omega) (fun c36 => ?_) (fun c36 => ?_)
    · refine zw_iconst (x := nI 0) hB dX0_giving_43 (by decide) ?_
      refine zw_istore5 hB dX0_giving_44 rfl ?_
      refine zw_iload5 hB dX0_giving_46 ?_
      refine zw_if_eq (tgt := 62) hB dX0_giving_48 (by decide) (fun c48 => ?_) (fun c48 => by first | exact absurd (by decide) c48 | exact absurd c48 (by decide) | omega)
      refine zw_iload4 hB dX0_giving_62 ?_
      refine zw_iret hB hR dX0_giving_64 rfl ?_
      exact ⟨by first | (rw [zgv, if_pos (by omega), nI_clamp (by omega)]) | (rw [zgv, if_neg (by omega), nI_clamp (by omega)]), rfl⟩
    · refine zw_iconst (x := nI 1) hB dX0_giving_39 (by decide) ?_
      refine zw_goto (tgt := 44) hB dX0_giving_40 (by decide) ?_
      refine zw_istore5 hB dX0_giving_44 rfl ?_
      refine zw_iload5 hB dX0_giving_46 ?_
      refine zw_if_eq (tgt := 62) hB dX0_giving_48 (by decide) (fun c48 => by first | exact absurd c48 (by decide) | exact absurd (by decide) c48 | omega) (fun c48 => ?_)
      refine zw_iload4 hB dX0_giving_51 ?_
      refine zw_iload1 hB dX0_giving_53 ?_
      refine zw_iconst (x := nI 3) hB dX0_giving_54 (by decide) ?_
      refine zw_idiv hB dX0_giving_55 (by decide) ?_
      refine zw_iadd hB dX0_giving_56 ?_
      refine zw_iconst (x := nI 1) hB dX0_giving_57 (by decide) ?_
      refine zw_iadd hB dX0_giving_58 ?_
      refine zw_goto (tgt := 64) hB dX0_giving_59 (by decide) ?_
      refine zw_iret hB hR dX0_giving_64 rfl ?_
      exact ⟨by first | (rw [zgv, if_pos (by omega), nI_clamp (by omega)]) | (rw [zgv, if_neg (by omega), nI_clamp (by omega)]), rfl⟩
def ztr (k : Nat) : Int32 := ztir.getD k 0
theorem s_X0_tiring {n : Nat} {σ : zSt} {k : Nat} (hk : k < 6) : zSem n mX0_tiring [.int (nI k)] σ (zP σ (.int (ztr k))) := by
  refine zSem.of (by decide +kernel) (Nat.le_of_ble_eq_true rfl) (fun X hB hR => ?_)
  show zW X 0 [some (.int (nI k))] [] σ
  refine zw_iload0 hB dX0_tiring_0 ?_
  refine zw_if_lt (tgt := 20) hB dX0_tiring_1 (by decide) (fun c1 => by first | exact absurd c1 (zpos (by omega)) | exact absurd (zpos (by omega)) c1 | omega) (fun c1 => ?_)
  refine zw_iload0 hB dX0_tiring_4 ?_
  refine zw_tiring hB dX0_tiring_5 zj_tiring ?_
  refine zw_lentir hB dX0_tiring_8 ?_
  refine zw_icmp_geN (tgt := 20) hB dX0_tiring_9 (by decide) (by omega) (by omega) (fun c9 => by first | exact absurd c9 (by omega) | exact absurd (by omega) c9 | omega) (fun c9 => ?_)
  refine zw_tiring hB dX0_tiring_12 zj_tiring ?_
  refine zw_iload0 hB dX0_tiring_15 ?_
  refine zw_ldtir hB dX0_tiring_16 (vp_in_nI (by omega) (by decide)) ?_
  refine zw_goto (tgt := 21) hB dX0_tiring_17 (by decide) ?_
  refine zw_iret hB hR dX0_tiring_21 rfl ?_
  exact ⟨by rw [ztr, nI_clamp (by omega)], rfl⟩
